theorem dX11_init_0 : decode cX11_init 0 = .ok (.aload_n 0, 1) := by decide +kernel
theorem dX11_init_1 : decode cX11_init 1 = .ok (.invokespecial 1, 3) := by decide +kernel
theorem dX11_init_4 : decode cX11_init 4 = .ok (.aload_n 0, 1) := by decide +kernel
theorem dX11_init_5 : decode cX11_init 5 = .ok (.sipush 729, 3) := by decide +kernel
theorem dX11_init_8 : decode cX11_init 8 = .ok (.newarray .int, 2) := by decide +kernel
theorem dX11_init_10 : decode cX11_init 10 = .ok (.putfield 7, 3) := by decide +kernel
theorem dX11_init_13 : decode cX11_init 13 = .ok (.aload_n 0, 1) := by decide +kernel
theorem dX11_init_14 : decode cX11_init 14 = .ok (.sipush 729, 3) := by decide +kernel
theorem dX11_init_17 : decode cX11_init 17 = .ok (.newarray .int, 2) := by decide +kernel
theorem dX11_init_19 : decode cX11_init 19 = .ok (.putfield 13, 3) := by decide +kernel
theorem dX11_init_22 : decode cX11_init 22 = .ok (.aload_n 0, 1) := by decide +kernel
theorem dX11_init_23 : decode cX11_init 23 = .ok (.sipush 1458, 3) := by decide +kernel
theorem dX11_init_26 : decode cX11_init 26 = .ok (.newarray .int, 2) := by decide +kernel
theorem dX11_init_28 : decode cX11_init 28 = .ok (.putfield 16, 3) := by decide +kernel
theorem dX11_init_31 : decode cX11_init 31 = .ok (.aload_n 0, 1) := by decide +kernel
theorem dX11_init_32 : decode cX11_init 32 = .ok (.iconst 2, 1) := by decide +kernel
theorem dX11_init_33 : decode cX11_init 33 = .ok (.newarray .boolean, 2) := by decide +kernel
theorem dX11_init_35 : decode cX11_init 35 = .ok (.putfield 19, 3) := by decide +kernel
theorem dX11_init_38 : decode cX11_init 38 = .ok (.aload_n 0, 1) := by decide +kernel
theorem dX11_init_39 : decode cX11_init 39 = .ok (.bipush 120, 2) := by decide +kernel
theorem dX11_init_41 : decode cX11_init 41 = .ok (.newarray .int, 2) := by decide +kernel
theorem dX11_init_43 : decode cX11_init 43 = .ok (.putfield 23, 3) := by decide +kernel
theorem dX11_init_46 : decode cX11_init 46 = .ok (.aload_n 0, 1) := by decide +kernel
theorem dX11_init_47 : decode cX11_init 47 = .ok (.sipush 264, 3) := by decide +kernel
theorem dX11_init_50 : decode cX11_init 50 = .ok (.newarray .int, 2) := by decide +kernel
theorem dX11_init_52 : decode cX11_init 52 = .ok (.putfield 26, 3) := by decide +kernel
theorem dX11_init_55 : decode cX11_init 55 = .ok (.aload_n 0, 1) := by decide +kernel
theorem dX11_init_56 : decode cX11_init 56 = .ok (.sipush 240, 3) := by decide +kernel
theorem dX11_init_59 : decode cX11_init 59 = .ok (.newarray .int, 2) := by decide +kernel
theorem dX11_init_61 : decode cX11_init 61 = .ok (.putfield 29, 3) := by decide +kernel
theorem dX11_init_64 : decode cX11_init 64 = .ok (.aload_n 0, 1) := by decide +kernel
theorem dX11_init_65 : decode cX11_init 65 = .ok (.sipush 240, 3) := by decide +kernel
theorem dX11_init_68 : decode cX11_init 68 = .ok (.newarray .boolean, 2) := by decide +kernel
theorem dX11_init_70 : decode cX11_init 70 = .ok (.putfield 32, 3) := by decide +kernel
theorem dX11_init_73 : decode cX11_init 73 = .ok (.aload_n 0, 1) := by decide +kernel
theorem dX11_init_74 : decode cX11_init 74 = .ok (.iconst 4, 1) := by decide +kernel
theorem dX11_init_75 : decode cX11_init 75 = .ok (.bipush 12, 2) := by decide +kernel
theorem dX11_init_77 : decode cX11_init 77 = .ok (.invokevirtual 35, 3) := by decide +kernel
theorem dX11_init_80 : decode cX11_init 80 = .ok (.return_, 1) := by decide +kernel
theorem dX11_within_0 : decode cX11_within 0 = .ok (.iload_n 0, 1) := by decide +kernel
theorem dX11_within_1 : decode cX11_within 1 = .ok (.iload_n 1, 1) := by decide +kernel
theorem dX11_within_2 : decode cX11_within 2 = .ok (.if_icmp .lt 12, 3) := by decide +kernel
theorem dX11_within_5 : decode cX11_within 5 = .ok (.iload_n 0, 1) := by decide +kernel
theorem dX11_within_6 : decode cX11_within 6 = .ok (.iload_n 2, 1) := by decide +kernel
theorem dX11_within_7 : decode cX11_within 7 = .ok (.if_icmp .gt 7, 3) := by decide +kernel
theorem dX11_within_10 : decode cX11_within 10 = .ok (.iconst 1, 1) := by decide +kernel
theorem dX11_within_11 : decode cX11_within 11 = .ok (.goto 4, 3) := by decide +kernel
theorem dX11_within_14 : decode cX11_within 14 = .ok (.iconst 0, 1) := by decide +kernel
theorem dX11_within_15 : decode cX11_within 15 = .ok (.ireturn, 1) := by decide +kernel
theorem dX11_begins_0 : decode cX11_begins 0 = .ok (.iconst 0, 1) := by decide +kernel
theorem dX11_begins_1 : decode cX11_begins 1 = .ok (.istore_n 3, 1) := by decide +kernel
theorem dX11_begins_2 : decode cX11_begins 2 = .ok (.iload_n 3, 1) := by decide +kernel
theorem dX11_begins_3 : decode cX11_begins 3 = .ok (.sipush 729, 3) := by decide +kernel
theorem dX11_begins_6 : decode cX11_begins 6 = .ok (.if_icmp .ge 16, 3) := by decide +kernel
theorem dX11_begins_9 : decode cX11_begins 9 = .ok (.aload_n 0, 1) := by decide +kernel
theorem dX11_begins_10 : decode cX11_begins 10 = .ok (.getfield 7, 3) := by decide +kernel
theorem dX11_begins_13 : decode cX11_begins 13 = .ok (.iload_n 3, 1) := by decide +kernel
theorem dX11_begins_14 : decode cX11_begins 14 = .ok (.iconst 0, 1) := by decide +kernel
theorem dX11_begins_15 : decode cX11_begins 15 = .ok (.iastore, 1) := by decide +kernel
theorem dX11_begins_16 : decode cX11_begins 16 = .ok (.iinc 3 1, 3) := by decide +kernel
theorem dX11_begins_19 : decode cX11_begins 19 = .ok (.goto (-17), 3) := by decide +kernel
theorem dX11_begins_22 : decode cX11_begins 22 = .ok (.aload_n 0, 1) := by decide +kernel
theorem dX11_begins_23 : decode cX11_begins 23 = .ok (.getfield 7, 3) := by decide +kernel
theorem dX11_begins_26 : decode cX11_begins 26 = .ok (.sipush 715, 3) := by decide +kernel
theorem dX11_begins_29 : decode cX11_begins 29 = .ok (.iload_n 1, 1) := by decide +kernel
theorem dX11_begins_30 : decode cX11_begins 30 = .ok (.iastore, 1) := by decide +kernel
theorem dX11_begins_31 : decode cX11_begins 31 = .ok (.aload_n 0, 1) := by decide +kernel
theorem dX11_begins_32 : decode cX11_begins 32 = .ok (.getfield 7, 3) := by decide +kernel
theorem dX11_begins_35 : decode cX11_begins 35 = .ok (.sipush 716, 3) := by decide +kernel
theorem dX11_begins_38 : decode cX11_begins 38 = .ok (.iload_n 2, 1) := by decide +kernel
theorem dX11_begins_39 : decode cX11_begins 39 = .ok (.iastore, 1) := by decide +kernel
theorem dX11_begins_40 : decode cX11_begins 40 = .ok (.aload_n 0, 1) := by decide +kernel
theorem dX11_begins_41 : decode cX11_begins 41 = .ok (.getfield 7, 3) := by decide +kernel
theorem dX11_begins_44 : decode cX11_begins 44 = .ok (.sipush 721, 3) := by decide +kernel
theorem dX11_begins_47 : decode cX11_begins 47 = .ok (.iconst (-1), 1) := by decide +kernel
theorem dX11_begins_48 : decode cX11_begins 48 = .ok (.iastore, 1) := by decide +kernel
theorem dX11_begins_49 : decode cX11_begins 49 = .ok (.aload_n 0, 1) := by decide +kernel
theorem dX11_begins_50 : decode cX11_begins 50 = .ok (.getfield 7, 3) := by decide +kernel
theorem dX11_begins_53 : decode cX11_begins 53 = .ok (.sipush 722, 3) := by decide +kernel
theorem dX11_begins_56 : decode cX11_begins 56 = .ok (.iconst 2, 1) := by decide +kernel
theorem dX11_begins_57 : decode cX11_begins 57 = .ok (.iastore, 1) := by decide +kernel
theorem dX11_begins_58 : decode cX11_begins 58 = .ok (.aload_n 0, 1) := by decide +kernel
theorem dX11_begins_59 : decode cX11_begins 59 = .ok (.getfield 7, 3) := by decide +kernel
theorem dX11_begins_62 : decode cX11_begins 62 = .ok (.sipush 723, 3) := by decide +kernel
theorem dX11_begins_65 : decode cX11_begins 65 = .ok (.iconst 2, 1) := by decide +kernel
theorem dX11_begins_66 : decode cX11_begins 66 = .ok (.iastore, 1) := by decide +kernel
theorem dX11_begins_67 : decode cX11_begins 67 = .ok (.aload_n 0, 1) := by decide +kernel
theorem dX11_begins_68 : decode cX11_begins 68 = .ok (.getfield 7, 3) := by decide +kernel
theorem dX11_begins_71 : decode cX11_begins 71 = .ok (.sipush 724, 3) := by decide +kernel
theorem dX11_begins_74 : decode cX11_begins 74 = .ok (.bipush 20, 2) := by decide +kernel
theorem dX11_begins_76 : decode cX11_begins 76 = .ok (.iastore, 1) := by decide +kernel
theorem dX11_begins_77 : decode cX11_begins 77 = .ok (.aload_n 0, 1) := by decide +kernel
theorem dX11_begins_78 : decode cX11_begins 78 = .ok (.iconst 0, 1) := by decide +kernel
theorem dX11_begins_79 : decode cX11_begins 79 = .ok (.putfield 43, 3) := by decide +kernel
theorem dX11_begins_82 : decode cX11_begins 82 = .ok (.aload_n 0, 1) := by decide +kernel
theorem dX11_begins_83 : decode cX11_begins 83 = .ok (.getfield 19, 3) := by decide +kernel
theorem dX11_begins_86 : decode cX11_begins 86 = .ok (.iconst 0, 1) := by decide +kernel
theorem dX11_begins_87 : decode cX11_begins 87 = .ok (.iconst 0, 1) := by decide +kernel
theorem dX11_begins_88 : decode cX11_begins 88 = .ok (.bastore, 1) := by decide +kernel
theorem dX11_begins_89 : decode cX11_begins 89 = .ok (.aload_n 0, 1) := by decide +kernel
theorem dX11_begins_90 : decode cX11_begins 90 = .ok (.getfield 19, 3) := by decide +kernel
theorem dX11_begins_93 : decode cX11_begins 93 = .ok (.iconst 1, 1) := by decide +kernel
theorem dX11_begins_94 : decode cX11_begins 94 = .ok (.iconst 0, 1) := by decide +kernel
theorem dX11_begins_95 : decode cX11_begins 95 = .ok (.bastore, 1) := by decide +kernel
theorem dX11_begins_96 : decode cX11_begins 96 = .ok (.return_, 1) := by decide +kernel
theorem dX11_isGrown_0 : decode cX11_isGrown 0 = .ok (.aload_n 0, 1) := by decide +kernel
theorem dX11_isGrown_1 : decode cX11_isGrown 1 = .ok (.getfield 7, 3) := by decide +kernel
theorem dX11_isGrown_4 : decode cX11_isGrown 4 = .ok (.sipush 717, 3) := by decide +kernel
theorem dX11_isGrown_7 : decode cX11_isGrown 7 = .ok (.iaload, 1) := by decide +kernel
theorem dX11_isGrown_8 : decode cX11_isGrown 8 = .ok (.iconst 1, 1) := by decide +kernel
theorem dX11_isGrown_9 : decode cX11_isGrown 9 = .ok (.if_icmp .ne 7, 3) := by decide +kernel
theorem dX11_isGrown_12 : decode cX11_isGrown 12 = .ok (.iconst 1, 1) := by decide +kernel
theorem dX11_isGrown_13 : decode cX11_isGrown 13 = .ok (.goto 4, 3) := by decide +kernel
theorem dX11_isGrown_16 : decode cX11_isGrown 16 = .ok (.iconst 0, 1) := by decide +kernel
theorem dX11_isGrown_17 : decode cX11_isGrown 17 = .ok (.ireturn, 1) := by decide +kernel
theorem dX11_disks_0 : decode cX11_disks 0 = .ok (.aload_n 0, 1) := by decide +kernel
theorem dX11_disks_1 : decode cX11_disks 1 = .ok (.getfield 7, 3) := by decide +kernel
theorem dX11_disks_4 : decode cX11_disks 4 = .ok (.sipush 715, 3) := by decide +kernel
theorem dX11_disks_7 : decode cX11_disks 7 = .ok (.iaload, 1) := by decide +kernel
theorem dX11_disks_8 : decode cX11_disks 8 = .ok (.aload_n 0, 1) := by decide +kernel
theorem dX11_disks_9 : decode cX11_disks 9 = .ok (.getfield 7, 3) := by decide +kernel
theorem dX11_disks_12 : decode cX11_disks 12 = .ok (.sipush 717, 3) := by decide +kernel
theorem dX11_disks_15 : decode cX11_disks 15 = .ok (.iaload, 1) := by decide +kernel
theorem dX11_disks_16 : decode cX11_disks 16 = .ok (.iadd, 1) := by decide +kernel
theorem dX11_disks_17 : decode cX11_disks 17 = .ok (.ireturn, 1) := by decide +kernel
theorem dX11_blocks_0 : decode cX11_blocks 0 = .ok (.aload_n 0, 1) := by decide +kernel
theorem dX11_blocks_1 : decode cX11_blocks 1 = .ok (.getfield 7, 3) := by decide +kernel
theorem dX11_blocks_4 : decode cX11_blocks 4 = .ok (.sipush 716, 3) := by decide +kernel
theorem dX11_blocks_7 : decode cX11_blocks 7 = .ok (.iaload, 1) := by decide +kernel
theorem dX11_blocks_8 : decode cX11_blocks 8 = .ok (.aload_n 0, 1) := by decide +kernel
theorem dX11_blocks_9 : decode cX11_blocks 9 = .ok (.getfield 7, 3) := by decide +kernel
theorem dX11_blocks_12 : decode cX11_blocks 12 = .ok (.sipush 715, 3) := by decide +kernel
theorem dX11_blocks_15 : decode cX11_blocks 15 = .ok (.iaload, 1) := by decide +kernel
theorem dX11_blocks_16 : decode cX11_blocks 16 = .ok (.iconst 1, 1) := by decide +kernel
theorem dX11_blocks_17 : decode cX11_blocks 17 = .ok (.isub, 1) := by decide +kernel
theorem dX11_blocks_18 : decode cX11_blocks 18 = .ok (.imul, 1) := by decide +kernel
theorem dX11_blocks_19 : decode cX11_blocks 19 = .ok (.ireturn, 1) := by decide +kernel
theorem dX11_parityOf_0 : decode cX11_parityOf 0 = .ok (.iload_n 0, 1) := by decide +kernel
theorem dX11_parityOf_1 : decode cX11_parityOf 1 = .ok (.iconst 1, 1) := by decide +kernel
theorem dX11_parityOf_2 : decode cX11_parityOf 2 = .ok (.isub, 1) := by decide +kernel
theorem dX11_parityOf_3 : decode cX11_parityOf 3 = .ok (.iload_n 1, 1) := by decide +kernel
theorem dX11_parityOf_4 : decode cX11_parityOf 4 = .ok (.iload_n 0, 1) := by decide +kernel
theorem dX11_parityOf_5 : decode cX11_parityOf 5 = .ok (.irem, 1) := by decide +kernel
theorem dX11_parityOf_6 : decode cX11_parityOf 6 = .ok (.isub, 1) := by decide +kernel
theorem dX11_parityOf_7 : decode cX11_parityOf 7 = .ok (.ireturn, 1) := by decide +kernel
theorem dX11_diskOf_0 : decode cX11_diskOf 0 = .ok (.iload_n 0, 1) := by decide +kernel
theorem dX11_diskOf_1 : decode cX11_diskOf 1 = .ok (.iload_n 1, 1) := by decide +kernel
theorem dX11_diskOf_2 : decode cX11_diskOf 2 = .ok (.iload_n 0, 1) := by decide +kernel
theorem dX11_diskOf_3 : decode cX11_diskOf 3 = .ok (.iconst 1, 1) := by decide +kernel
theorem dX11_diskOf_4 : decode cX11_diskOf 4 = .ok (.isub, 1) := by decide +kernel
theorem dX11_diskOf_5 : decode cX11_diskOf 5 = .ok (.idiv, 1) := by decide +kernel
theorem dX11_diskOf_6 : decode cX11_diskOf 6 = .ok (.invokestatic 46, 3) := by decide +kernel
theorem dX11_diskOf_9 : decode cX11_diskOf 9 = .ok (.iconst 1, 1) := by decide +kernel
theorem dX11_diskOf_10 : decode cX11_diskOf 10 = .ok (.iadd, 1) := by decide +kernel
theorem dX11_diskOf_11 : decode cX11_diskOf 11 = .ok (.iload_n 1, 1) := by decide +kernel
theorem dX11_diskOf_12 : decode cX11_diskOf 12 = .ok (.iload_n 0, 1) := by decide +kernel
theorem dX11_diskOf_13 : decode cX11_diskOf 13 = .ok (.iconst 1, 1) := by decide +kernel
theorem dX11_diskOf_14 : decode cX11_diskOf 14 = .ok (.isub, 1) := by decide +kernel
theorem dX11_diskOf_15 : decode cX11_diskOf 15 = .ok (.irem, 1) := by decide +kernel
theorem dX11_diskOf_16 : decode cX11_diskOf 16 = .ok (.iadd, 1) := by decide +kernel
theorem dX11_diskOf_17 : decode cX11_diskOf 17 = .ok (.iload_n 0, 1) := by decide +kernel
theorem dX11_diskOf_18 : decode cX11_diskOf 18 = .ok (.irem, 1) := by decide +kernel
theorem dX11_diskOf_19 : decode cX11_diskOf 19 = .ok (.ireturn, 1) := by decide +kernel
theorem dX11_rowOf_0 : decode cX11_rowOf 0 = .ok (.iload_n 1, 1) := by decide +kernel
theorem dX11_rowOf_1 : decode cX11_rowOf 1 = .ok (.iload_n 0, 1) := by decide +kernel
theorem dX11_rowOf_2 : decode cX11_rowOf 2 = .ok (.iconst 1, 1) := by decide +kernel
theorem dX11_rowOf_3 : decode cX11_rowOf 3 = .ok (.isub, 1) := by decide +kernel
theorem dX11_rowOf_4 : decode cX11_rowOf 4 = .ok (.idiv, 1) := by decide +kernel
theorem dX11_rowOf_5 : decode cX11_rowOf 5 = .ok (.ireturn, 1) := by decide +kernel
theorem dX11_at_0 : decode cX11_at 0 = .ok (.bipush 40, 2) := by decide +kernel
theorem dX11_at_2 : decode cX11_at 2 = .ok (.iload_n 0, 1) := by decide +kernel
theorem dX11_at_3 : decode cX11_at 3 = .ok (.imul, 1) := by decide +kernel
theorem dX11_at_4 : decode cX11_at 4 = .ok (.iload_n 1, 1) := by decide +kernel
theorem dX11_at_5 : decode cX11_at 5 = .ok (.iadd, 1) := by decide +kernel
theorem dX11_at_6 : decode cX11_at 6 = .ok (.ireturn, 1) := by decide +kernel
theorem dX11_isReadable_0 : decode cX11_isReadable 0 = .ok (.aload_n 0, 1) := by decide +kernel
theorem dX11_isReadable_1 : decode cX11_isReadable 1 = .ok (.getfield 7, 3) := by decide +kernel
theorem dX11_isReadable_4 : decode cX11_isReadable 4 = .ok (.sipush 721, 3) := by decide +kernel
theorem dX11_isReadable_7 : decode cX11_isReadable 7 = .ok (.iaload, 1) := by decide +kernel
theorem dX11_isReadable_8 : decode cX11_isReadable 8 = .ok (.iload_n 1, 1) := by decide +kernel
theorem dX11_isReadable_9 : decode cX11_isReadable 9 = .ok (.if_icmp .eq 24, 3) := by decide +kernel
theorem dX11_isReadable_12 : decode cX11_isReadable 12 = .ok (.aload_n 0, 1) := by decide +kernel
theorem dX11_isReadable_13 : decode cX11_isReadable 13 = .ok (.getfield 7, 3) := by decide +kernel
theorem dX11_isReadable_16 : decode cX11_isReadable 16 = .ok (.sipush 280, 3) := by decide +kernel
theorem dX11_isReadable_19 : decode cX11_isReadable 19 = .ok (.iload_n 1, 1) := by decide +kernel
theorem dX11_isReadable_20 : decode cX11_isReadable 20 = .ok (.iload_n 2, 1) := by decide +kernel
theorem dX11_isReadable_21 : decode cX11_isReadable 21 = .ok (.invokestatic 50, 3) := by decide +kernel
theorem dX11_isReadable_24 : decode cX11_isReadable 24 = .ok (.iadd, 1) := by decide +kernel
theorem dX11_isReadable_25 : decode cX11_isReadable 25 = .ok (.iaload, 1) := by decide +kernel
theorem dX11_isReadable_26 : decode cX11_isReadable 26 = .ok (.ifCond .ne 7, 3) := by decide +kernel
theorem dX11_isReadable_29 : decode cX11_isReadable 29 = .ok (.iconst 1, 1) := by decide +kernel
theorem dX11_isReadable_30 : decode cX11_isReadable 30 = .ok (.goto 4, 3) := by decide +kernel
theorem dX11_isReadable_33 : decode cX11_isReadable 33 = .ok (.iconst 0, 1) := by decide +kernel
theorem dX11_isReadable_34 : decode cX11_isReadable 34 = .ok (.ireturn, 1) := by decide +kernel
theorem dX11_reads_0 : decode cX11_reads 0 = .ok (.aload_n 0, 1) := by decide +kernel
theorem dX11_reads_1 : decode cX11_reads 1 = .ok (.aload_n 0, 1) := by decide +kernel
theorem dX11_reads_2 : decode cX11_reads 2 = .ok (.getfield 7, 3) := by decide +kernel
theorem dX11_reads_5 : decode cX11_reads 5 = .ok (.iconst 0, 1) := by decide +kernel
theorem dX11_reads_6 : decode cX11_reads 6 = .ok (.iload_n 2, 1) := by decide +kernel
theorem dX11_reads_7 : decode cX11_reads 7 = .ok (.iload_n 3, 1) := by decide +kernel
theorem dX11_reads_8 : decode cX11_reads 8 = .ok (.invokestatic 50, 3) := by decide +kernel
theorem dX11_reads_11 : decode cX11_reads 11 = .ok (.iadd, 1) := by decide +kernel
theorem dX11_reads_12 : decode cX11_reads 12 = .ok (.iaload, 1) := by decide +kernel
theorem dX11_reads_13 : decode cX11_reads 13 = .ok (.putfield 53, 3) := by decide +kernel
theorem dX11_reads_16 : decode cX11_reads 16 = .ok (.aload_n 0, 1) := by decide +kernel
theorem dX11_reads_17 : decode cX11_reads 17 = .ok (.iconst 1, 1) := by decide +kernel
theorem dX11_reads_18 : decode cX11_reads 18 = .ok (.putfield 56, 3) := by decide +kernel
theorem dX11_reads_21 : decode cX11_reads 21 = .ok (.aload_n 0, 1) := by decide +kernel
theorem dX11_reads_22 : decode cX11_reads 22 = .ok (.iload_n 2, 1) := by decide +kernel
theorem dX11_reads_23 : decode cX11_reads 23 = .ok (.iload_n 3, 1) := by decide +kernel
theorem dX11_reads_24 : decode cX11_reads 24 = .ok (.invokevirtual 59, 3) := by decide +kernel
theorem dX11_reads_27 : decode cX11_reads 27 = .ok (.ifCond .eq 5, 3) := by decide +kernel
theorem dX11_reads_30 : decode cX11_reads 30 = .ok (.iconst 1, 1) := by decide +kernel
theorem dX11_reads_31 : decode cX11_reads 31 = .ok (.ireturn, 1) := by decide +kernel
theorem dX11_reads_32 : decode cX11_reads 32 = .ok (.aload_n 0, 1) := by decide +kernel
theorem dX11_reads_33 : decode cX11_reads 33 = .ok (.iconst 0, 1) := by decide +kernel
theorem dX11_reads_34 : decode cX11_reads 34 = .ok (.putfield 53, 3) := by decide +kernel
theorem dX11_reads_37 : decode cX11_reads 37 = .ok (.aload_n 0, 1) := by decide +kernel
theorem dX11_reads_38 : decode cX11_reads 38 = .ok (.iload_n 1, 1) := by decide +kernel
theorem dX11_reads_39 : decode cX11_reads 39 = .ok (.iconst 1, 1) := by decide +kernel
theorem dX11_reads_40 : decode cX11_reads 40 = .ok (.isub, 1) := by decide +kernel
theorem dX11_reads_41 : decode cX11_reads 41 = .ok (.putfield 56, 3) := by decide +kernel
theorem dX11_reads_44 : decode cX11_reads 44 = .ok (.iconst 0, 1) := by decide +kernel
theorem dX11_reads_45 : decode cX11_reads 45 = .ok (.istore 4, 2) := by decide +kernel
theorem dX11_reads_47 : decode cX11_reads 47 = .ok (.iload 4, 2) := by decide +kernel
theorem dX11_reads_49 : decode cX11_reads 49 = .ok (.iload_n 1, 1) := by decide +kernel
theorem dX11_reads_50 : decode cX11_reads 50 = .ok (.if_icmp .ge 57, 3) := by decide +kernel
theorem dX11_reads_53 : decode cX11_reads 53 = .ok (.iload 4, 2) := by decide +kernel
theorem dX11_reads_55 : decode cX11_reads 55 = .ok (.iload_n 2, 1) := by decide +kernel
theorem dX11_reads_56 : decode cX11_reads 56 = .ok (.if_icmp .ne 6, 3) := by decide +kernel
theorem dX11_reads_59 : decode cX11_reads 59 = .ok (.goto 42, 3) := by decide +kernel
theorem dX11_reads_62 : decode cX11_reads 62 = .ok (.aload_n 0, 1) := by decide +kernel
theorem dX11_reads_63 : decode cX11_reads 63 = .ok (.iload 4, 2) := by decide +kernel
theorem dX11_reads_65 : decode cX11_reads 65 = .ok (.iload_n 3, 1) := by decide +kernel
theorem dX11_reads_66 : decode cX11_reads 66 = .ok (.invokevirtual 59, 3) := by decide +kernel
theorem dX11_reads_69 : decode cX11_reads 69 = .ok (.ifCond .ne 10, 3) := by decide +kernel
theorem dX11_reads_72 : decode cX11_reads 72 = .ok (.aload_n 0, 1) := by decide +kernel
theorem dX11_reads_73 : decode cX11_reads 73 = .ok (.iconst 0, 1) := by decide +kernel
theorem dX11_reads_74 : decode cX11_reads 74 = .ok (.putfield 56, 3) := by decide +kernel
theorem dX11_reads_77 : decode cX11_reads 77 = .ok (.iconst 0, 1) := by decide +kernel
theorem dX11_reads_78 : decode cX11_reads 78 = .ok (.ireturn, 1) := by decide +kernel
theorem dX11_reads_79 : decode cX11_reads 79 = .ok (.aload_n 0, 1) := by decide +kernel
theorem dX11_reads_80 : decode cX11_reads 80 = .ok (.dup, 1) := by decide +kernel
theorem dX11_reads_81 : decode cX11_reads 81 = .ok (.getfield 53, 3) := by decide +kernel
theorem dX11_reads_84 : decode cX11_reads 84 = .ok (.aload_n 0, 1) := by decide +kernel
theorem dX11_reads_85 : decode cX11_reads 85 = .ok (.getfield 7, 3) := by decide +kernel
theorem dX11_reads_88 : decode cX11_reads 88 = .ok (.iconst 0, 1) := by decide +kernel
theorem dX11_reads_89 : decode cX11_reads 89 = .ok (.iload 4, 2) := by decide +kernel
theorem dX11_reads_91 : decode cX11_reads 91 = .ok (.iload_n 3, 1) := by decide +kernel
theorem dX11_reads_92 : decode cX11_reads 92 = .ok (.invokestatic 50, 3) := by decide +kernel
theorem dX11_reads_95 : decode cX11_reads 95 = .ok (.iadd, 1) := by decide +kernel
theorem dX11_reads_96 : decode cX11_reads 96 = .ok (.iaload, 1) := by decide +kernel
theorem dX11_reads_97 : decode cX11_reads 97 = .ok (.ixor, 1) := by decide +kernel
theorem dX11_reads_98 : decode cX11_reads 98 = .ok (.putfield 53, 3) := by decide +kernel
theorem dX11_reads_101 : decode cX11_reads 101 = .ok (.iinc 4 1, 3) := by decide +kernel
theorem dX11_reads_104 : decode cX11_reads 104 = .ok (.goto (-57), 3) := by decide +kernel
theorem dX11_reads_107 : decode cX11_reads 107 = .ok (.iconst 1, 1) := by decide +kernel
theorem dX11_reads_108 : decode cX11_reads 108 = .ok (.ireturn, 1) := by decide +kernel
theorem dX11_lays_0 : decode cX11_lays 0 = .ok (.aload_n 0, 1) := by decide +kernel
theorem dX11_lays_1 : decode cX11_lays 1 = .ok (.getfield 7, 3) := by decide +kernel
theorem dX11_lays_4 : decode cX11_lays 4 = .ok (.sipush 721, 3) := by decide +kernel
theorem dX11_lays_7 : decode cX11_lays 7 = .ok (.iaload, 1) := by decide +kernel
theorem dX11_lays_8 : decode cX11_lays 8 = .ok (.iload_n 1, 1) := by decide +kernel
theorem dX11_lays_9 : decode cX11_lays 9 = .ok (.if_icmp .ne 4, 3) := by decide +kernel
theorem dX11_lays_12 : decode cX11_lays 12 = .ok (.return_, 1) := by decide +kernel
theorem dX11_lays_13 : decode cX11_lays 13 = .ok (.aload_n 0, 1) := by decide +kernel
theorem dX11_lays_14 : decode cX11_lays 14 = .ok (.getfield 7, 3) := by decide +kernel
theorem dX11_lays_17 : decode cX11_lays 17 = .ok (.iconst 0, 1) := by decide +kernel
theorem dX11_lays_18 : decode cX11_lays 18 = .ok (.iload_n 1, 1) := by decide +kernel
theorem dX11_lays_19 : decode cX11_lays 19 = .ok (.iload_n 2, 1) := by decide +kernel
theorem dX11_lays_20 : decode cX11_lays 20 = .ok (.invokestatic 50, 3) := by decide +kernel
theorem dX11_lays_23 : decode cX11_lays 23 = .ok (.iadd, 1) := by decide +kernel
theorem dX11_lays_24 : decode cX11_lays 24 = .ok (.iload_n 3, 1) := by decide +kernel
theorem dX11_lays_25 : decode cX11_lays 25 = .ok (.iastore, 1) := by decide +kernel
theorem dX11_lays_26 : decode cX11_lays 26 = .ok (.aload_n 0, 1) := by decide +kernel
theorem dX11_lays_27 : decode cX11_lays 27 = .ok (.getfield 7, 3) := by decide +kernel
theorem dX11_lays_30 : decode cX11_lays 30 = .ok (.sipush 280, 3) := by decide +kernel
theorem dX11_lays_33 : decode cX11_lays 33 = .ok (.iload_n 1, 1) := by decide +kernel
theorem dX11_lays_34 : decode cX11_lays 34 = .ok (.iload_n 2, 1) := by decide +kernel
theorem dX11_lays_35 : decode cX11_lays 35 = .ok (.invokestatic 50, 3) := by decide +kernel
theorem dX11_lays_38 : decode cX11_lays 38 = .ok (.iadd, 1) := by decide +kernel
theorem dX11_lays_39 : decode cX11_lays 39 = .ok (.iconst 0, 1) := by decide +kernel
theorem dX11_lays_40 : decode cX11_lays 40 = .ok (.iastore, 1) := by decide +kernel
theorem dX11_lays_41 : decode cX11_lays 41 = .ok (.aload_n 0, 1) := by decide +kernel
theorem dX11_lays_42 : decode cX11_lays 42 = .ok (.getfield 7, 3) := by decide +kernel
theorem dX11_lays_45 : decode cX11_lays 45 = .ok (.sipush 708, 3) := by decide +kernel
theorem dX11_lays_48 : decode cX11_lays 48 = .ok (.iload_n 1, 1) := by decide +kernel
theorem dX11_lays_49 : decode cX11_lays 49 = .ok (.iadd, 1) := by decide +kernel
theorem dX11_lays_50 : decode cX11_lays 50 = .ok (.dup2, 1) := by decide +kernel
theorem dX11_lays_51 : decode cX11_lays 51 = .ok (.iaload, 1) := by decide +kernel
theorem dX11_lays_52 : decode cX11_lays 52 = .ok (.iconst 1, 1) := by decide +kernel
theorem dX11_lays_53 : decode cX11_lays 53 = .ok (.iadd, 1) := by decide +kernel
theorem dX11_lays_54 : decode cX11_lays 54 = .ok (.iastore, 1) := by decide +kernel
theorem dX11_lays_55 : decode cX11_lays 55 = .ok (.return_, 1) := by decide +kernel
theorem dX11_newStripes_0 : decode cX11_newStripes 0 = .ok (.aload_n 0, 1) := by decide +kernel
theorem dX11_newStripes_1 : decode cX11_newStripes 1 = .ok (.invokevirtual 63, 3) := by decide +kernel
theorem dX11_newStripes_4 : decode cX11_newStripes 4 = .ok (.aload_n 0, 1) := by decide +kernel
theorem dX11_newStripes_5 : decode cX11_newStripes 5 = .ok (.getfield 7, 3) := by decide +kernel
theorem dX11_newStripes_8 : decode cX11_newStripes 8 = .ok (.sipush 715, 3) := by decide +kernel
theorem dX11_newStripes_11 : decode cX11_newStripes 11 = .ok (.iaload, 1) := by decide +kernel
theorem dX11_newStripes_12 : decode cX11_newStripes 12 = .ok (.iadd, 1) := by decide +kernel
theorem dX11_newStripes_13 : decode cX11_newStripes 13 = .ok (.iconst 1, 1) := by decide +kernel
theorem dX11_newStripes_14 : decode cX11_newStripes 14 = .ok (.isub, 1) := by decide +kernel
theorem dX11_newStripes_15 : decode cX11_newStripes 15 = .ok (.aload_n 0, 1) := by decide +kernel
theorem dX11_newStripes_16 : decode cX11_newStripes 16 = .ok (.getfield 7, 3) := by decide +kernel
theorem dX11_newStripes_19 : decode cX11_newStripes 19 = .ok (.sipush 715, 3) := by decide +kernel
theorem dX11_newStripes_22 : decode cX11_newStripes 22 = .ok (.iaload, 1) := by decide +kernel
theorem dX11_newStripes_23 : decode cX11_newStripes 23 = .ok (.idiv, 1) := by decide +kernel
theorem dX11_newStripes_24 : decode cX11_newStripes 24 = .ok (.ireturn, 1) := by decide +kernel
theorem dX11_stripesFrom_0 : decode cX11_stripesFrom 0 = .ok (.aload_n 0, 1) := by decide +kernel
theorem dX11_stripesFrom_1 : decode cX11_stripesFrom 1 = .ok (.invokevirtual 67, 3) := by decide +kernel
theorem dX11_stripesFrom_4 : decode cX11_stripesFrom 4 = .ok (.iload_n 1, 1) := by decide +kernel
theorem dX11_stripesFrom_5 : decode cX11_stripesFrom 5 = .ok (.isub, 1) := by decide +kernel
theorem dX11_stripesFrom_6 : decode cX11_stripesFrom 6 = .ok (.istore_n 2, 1) := by decide +kernel
theorem dX11_stripesFrom_7 : decode cX11_stripesFrom 7 = .ok (.iload_n 2, 1) := by decide +kernel
theorem dX11_stripesFrom_8 : decode cX11_stripesFrom 8 = .ok (.aload_n 0, 1) := by decide +kernel
theorem dX11_stripesFrom_9 : decode cX11_stripesFrom 9 = .ok (.getfield 7, 3) := by decide +kernel
theorem dX11_stripesFrom_12 : decode cX11_stripesFrom 12 = .ok (.sipush 722, 3) := by decide +kernel
theorem dX11_stripesFrom_15 : decode cX11_stripesFrom 15 = .ok (.iaload, 1) := by decide +kernel
theorem dX11_stripesFrom_16 : decode cX11_stripesFrom 16 = .ok (.if_icmp .ge 7, 3) := by decide +kernel
theorem dX11_stripesFrom_19 : decode cX11_stripesFrom 19 = .ok (.iload_n 2, 1) := by decide +kernel
theorem dX11_stripesFrom_20 : decode cX11_stripesFrom 20 = .ok (.goto 11, 3) := by decide +kernel
theorem dX11_stripesFrom_23 : decode cX11_stripesFrom 23 = .ok (.aload_n 0, 1) := by decide +kernel
theorem dX11_stripesFrom_24 : decode cX11_stripesFrom 24 = .ok (.getfield 7, 3) := by decide +kernel
theorem dX11_stripesFrom_27 : decode cX11_stripesFrom 27 = .ok (.sipush 722, 3) := by decide +kernel
theorem dX11_stripesFrom_30 : decode cX11_stripesFrom 30 = .ok (.iaload, 1) := by decide +kernel
theorem dX11_stripesFrom_31 : decode cX11_stripesFrom 31 = .ok (.ireturn, 1) := by decide +kernel
theorem dX11_readsFrom_0 : decode cX11_readsFrom 0 = .ok (.aload_n 0, 1) := by decide +kernel
theorem dX11_readsFrom_1 : decode cX11_readsFrom 1 = .ok (.invokevirtual 63, 3) := by decide +kernel
theorem dX11_readsFrom_4 : decode cX11_readsFrom 4 = .ok (.iload_n 1, 1) := by decide +kernel
theorem dX11_readsFrom_5 : decode cX11_readsFrom 5 = .ok (.aload_n 0, 1) := by decide +kernel
theorem dX11_readsFrom_6 : decode cX11_readsFrom 6 = .ok (.getfield 7, 3) := by decide +kernel
theorem dX11_readsFrom_9 : decode cX11_readsFrom 9 = .ok (.sipush 715, 3) := by decide +kernel
theorem dX11_readsFrom_12 : decode cX11_readsFrom 12 = .ok (.iaload, 1) := by decide +kernel
theorem dX11_readsFrom_13 : decode cX11_readsFrom 13 = .ok (.imul, 1) := by decide +kernel
theorem dX11_readsFrom_14 : decode cX11_readsFrom 14 = .ok (.isub, 1) := by decide +kernel
theorem dX11_readsFrom_15 : decode cX11_readsFrom 15 = .ok (.istore_n 2, 1) := by decide +kernel
theorem dX11_readsFrom_16 : decode cX11_readsFrom 16 = .ok (.aload_n 0, 1) := by decide +kernel
theorem dX11_readsFrom_17 : decode cX11_readsFrom 17 = .ok (.iload_n 1, 1) := by decide +kernel
theorem dX11_readsFrom_18 : decode cX11_readsFrom 18 = .ok (.invokevirtual 70, 3) := by decide +kernel
theorem dX11_readsFrom_21 : decode cX11_readsFrom 21 = .ok (.aload_n 0, 1) := by decide +kernel
theorem dX11_readsFrom_22 : decode cX11_readsFrom 22 = .ok (.getfield 7, 3) := by decide +kernel
theorem dX11_readsFrom_25 : decode cX11_readsFrom 25 = .ok (.sipush 715, 3) := by decide +kernel
theorem dX11_readsFrom_28 : decode cX11_readsFrom 28 = .ok (.iaload, 1) := by decide +kernel
theorem dX11_readsFrom_29 : decode cX11_readsFrom 29 = .ok (.imul, 1) := by decide +kernel
theorem dX11_readsFrom_30 : decode cX11_readsFrom 30 = .ok (.istore_n 3, 1) := by decide +kernel
theorem dX11_readsFrom_31 : decode cX11_readsFrom 31 = .ok (.iload_n 2, 1) := by decide +kernel
theorem dX11_readsFrom_32 : decode cX11_readsFrom 32 = .ok (.iload_n 3, 1) := by decide +kernel
theorem dX11_readsFrom_33 : decode cX11_readsFrom 33 = .ok (.if_icmp .ge 7, 3) := by decide +kernel
theorem dX11_readsFrom_36 : decode cX11_readsFrom 36 = .ok (.iload_n 2, 1) := by decide +kernel
theorem dX11_readsFrom_37 : decode cX11_readsFrom 37 = .ok (.goto 4, 3) := by decide +kernel
theorem dX11_readsFrom_40 : decode cX11_readsFrom 40 = .ok (.iload_n 3, 1) := by decide +kernel
theorem dX11_readsFrom_41 : decode cX11_readsFrom 41 = .ok (.ireturn, 1) := by decide +kernel
theorem dX11_isCritical_0 : decode cX11_isCritical 0 = .ok (.iload_n 1, 1) := by decide +kernel
theorem dX11_isCritical_1 : decode cX11_isCritical 1 = .ok (.aload_n 0, 1) := by decide +kernel
theorem dX11_isCritical_2 : decode cX11_isCritical 2 = .ok (.getfield 7, 3) := by decide +kernel
theorem dX11_isCritical_5 : decode cX11_isCritical 5 = .ok (.sipush 715, 3) := by decide +kernel
theorem dX11_isCritical_8 : decode cX11_isCritical 8 = .ok (.iaload, 1) := by decide +kernel
theorem dX11_isCritical_9 : decode cX11_isCritical 9 = .ok (.imul, 1) := by decide +kernel
theorem dX11_isCritical_10 : decode cX11_isCritical 10 = .ok (.aload_n 0, 1) := by decide +kernel
theorem dX11_isCritical_11 : decode cX11_isCritical 11 = .ok (.getfield 7, 3) := by decide +kernel
theorem dX11_isCritical_14 : decode cX11_isCritical 14 = .ok (.sipush 715, 3) := by decide +kernel
theorem dX11_isCritical_17 : decode cX11_isCritical 17 = .ok (.iaload, 1) := by decide +kernel
theorem dX11_isCritical_18 : decode cX11_isCritical 18 = .ok (.iconst 1, 1) := by decide +kernel
theorem dX11_isCritical_19 : decode cX11_isCritical 19 = .ok (.isub, 1) := by decide +kernel
theorem dX11_isCritical_20 : decode cX11_isCritical 20 = .ok (.idiv, 1) := by decide +kernel
theorem dX11_isCritical_21 : decode cX11_isCritical 21 = .ok (.iload_n 1, 1) := by decide +kernel
theorem dX11_isCritical_22 : decode cX11_isCritical 22 = .ok (.aload_n 0, 1) := by decide +kernel
theorem dX11_isCritical_23 : decode cX11_isCritical 23 = .ok (.iload_n 1, 1) := by decide +kernel
theorem dX11_isCritical_24 : decode cX11_isCritical 24 = .ok (.invokevirtual 70, 3) := by decide +kernel
theorem dX11_isCritical_27 : decode cX11_isCritical 27 = .ok (.iadd, 1) := by decide +kernel
theorem dX11_isCritical_28 : decode cX11_isCritical 28 = .ok (.iconst 1, 1) := by decide +kernel
theorem dX11_isCritical_29 : decode cX11_isCritical 29 = .ok (.isub, 1) := by decide +kernel
theorem dX11_isCritical_30 : decode cX11_isCritical 30 = .ok (.if_icmp .gt 7, 3) := by decide +kernel
theorem dX11_isCritical_33 : decode cX11_isCritical 33 = .ok (.iconst 1, 1) := by decide +kernel
theorem dX11_isCritical_34 : decode cX11_isCritical 34 = .ok (.goto 4, 3) := by decide +kernel
theorem dX11_isCritical_37 : decode cX11_isCritical 37 = .ok (.iconst 0, 1) := by decide +kernel
theorem dX11_isCritical_38 : decode cX11_isCritical 38 = .ok (.ireturn, 1) := by decide +kernel
theorem dX11_backupsFrom_0 : decode cX11_backupsFrom 0 = .ok (.aload_n 0, 1) := by decide +kernel
theorem dX11_backupsFrom_1 : decode cX11_backupsFrom 1 = .ok (.iload_n 1, 1) := by decide +kernel
theorem dX11_backupsFrom_2 : decode cX11_backupsFrom 2 = .ok (.invokevirtual 74, 3) := by decide +kernel
theorem dX11_backupsFrom_5 : decode cX11_backupsFrom 5 = .ok (.ifCond .eq 20, 3) := by decide +kernel
theorem dX11_backupsFrom_8 : decode cX11_backupsFrom 8 = .ok (.aload_n 0, 1) := by decide +kernel
theorem dX11_backupsFrom_9 : decode cX11_backupsFrom 9 = .ok (.iload_n 1, 1) := by decide +kernel
theorem dX11_backupsFrom_10 : decode cX11_backupsFrom 10 = .ok (.invokevirtual 70, 3) := by decide +kernel
theorem dX11_backupsFrom_13 : decode cX11_backupsFrom 13 = .ok (.aload_n 0, 1) := by decide +kernel
theorem dX11_backupsFrom_14 : decode cX11_backupsFrom 14 = .ok (.getfield 7, 3) := by decide +kernel
theorem dX11_backupsFrom_17 : decode cX11_backupsFrom 17 = .ok (.sipush 715, 3) := by decide +kernel
theorem dX11_backupsFrom_20 : decode cX11_backupsFrom 20 = .ok (.iaload, 1) := by decide +kernel
theorem dX11_backupsFrom_21 : decode cX11_backupsFrom 21 = .ok (.imul, 1) := by decide +kernel
theorem dX11_backupsFrom_22 : decode cX11_backupsFrom 22 = .ok (.goto 4, 3) := by decide +kernel
theorem dX11_backupsFrom_25 : decode cX11_backupsFrom 25 = .ok (.iconst 0, 1) := by decide +kernel
theorem dX11_backupsFrom_26 : decode cX11_backupsFrom 26 = .ok (.ireturn, 1) := by decide +kernel
theorem dX11_stepsFrom_0 : decode cX11_stepsFrom 0 = .ok (.aload_n 0, 1) := by decide +kernel
theorem dX11_stepsFrom_1 : decode cX11_stepsFrom 1 = .ok (.iload_n 1, 1) := by decide +kernel
theorem dX11_stepsFrom_2 : decode cX11_stepsFrom 2 = .ok (.invokevirtual 78, 3) := by decide +kernel
theorem dX11_stepsFrom_5 : decode cX11_stepsFrom 5 = .ok (.aload_n 0, 1) := by decide +kernel
theorem dX11_stepsFrom_6 : decode cX11_stepsFrom 6 = .ok (.iload_n 1, 1) := by decide +kernel
theorem dX11_stepsFrom_7 : decode cX11_stepsFrom 7 = .ok (.invokevirtual 70, 3) := by decide +kernel
theorem dX11_stepsFrom_10 : decode cX11_stepsFrom 10 = .ok (.aload_n 0, 1) := by decide +kernel
theorem dX11_stepsFrom_11 : decode cX11_stepsFrom 11 = .ok (.getfield 7, 3) := by decide +kernel
theorem dX11_stepsFrom_14 : decode cX11_stepsFrom 14 = .ok (.sipush 715, 3) := by decide +kernel
theorem dX11_stepsFrom_17 : decode cX11_stepsFrom 17 = .ok (.iaload, 1) := by decide +kernel
theorem dX11_stepsFrom_18 : decode cX11_stepsFrom 18 = .ok (.iconst 1, 1) := by decide +kernel
theorem dX11_stepsFrom_19 : decode cX11_stepsFrom 19 = .ok (.iadd, 1) := by decide +kernel
theorem dX11_stepsFrom_20 : decode cX11_stepsFrom 20 = .ok (.imul, 1) := by decide +kernel
theorem dX11_stepsFrom_21 : decode cX11_stepsFrom 21 = .ok (.iadd, 1) := by decide +kernel
theorem dX11_stepsFrom_22 : decode cX11_stepsFrom 22 = .ok (.iconst 1, 1) := by decide +kernel
theorem dX11_stepsFrom_23 : decode cX11_stepsFrom 23 = .ok (.iadd, 1) := by decide +kernel
theorem dX11_stepsFrom_24 : decode cX11_stepsFrom 24 = .ok (.istore_n 2, 1) := by decide +kernel
theorem dX11_stepsFrom_25 : decode cX11_stepsFrom 25 = .ok (.aload_n 0, 1) := by decide +kernel
theorem dX11_stepsFrom_26 : decode cX11_stepsFrom 26 = .ok (.iload_n 1, 1) := by decide +kernel
theorem dX11_stepsFrom_27 : decode cX11_stepsFrom 27 = .ok (.invokevirtual 74, 3) := by decide +kernel
theorem dX11_stepsFrom_30 : decode cX11_stepsFrom 30 = .ok (.ifCond .eq 15, 3) := by decide +kernel
theorem dX11_stepsFrom_33 : decode cX11_stepsFrom 33 = .ok (.iload_n 2, 1) := by decide +kernel
theorem dX11_stepsFrom_34 : decode cX11_stepsFrom 34 = .ok (.aload_n 0, 1) := by decide +kernel
theorem dX11_stepsFrom_35 : decode cX11_stepsFrom 35 = .ok (.iload_n 1, 1) := by decide +kernel
theorem dX11_stepsFrom_36 : decode cX11_stepsFrom 36 = .ok (.invokevirtual 81, 3) := by decide +kernel
theorem dX11_stepsFrom_39 : decode cX11_stepsFrom 39 = .ok (.iadd, 1) := by decide +kernel
theorem dX11_stepsFrom_40 : decode cX11_stepsFrom 40 = .ok (.iconst 1, 1) := by decide +kernel
theorem dX11_stepsFrom_41 : decode cX11_stepsFrom 41 = .ok (.iadd, 1) := by decide +kernel
theorem dX11_stepsFrom_42 : decode cX11_stepsFrom 42 = .ok (.goto 4, 3) := by decide +kernel
theorem dX11_stepsFrom_45 : decode cX11_stepsFrom 45 = .ok (.iload_n 2, 1) := by decide +kernel
theorem dX11_stepsFrom_46 : decode cX11_stepsFrom 46 = .ok (.ireturn, 1) := by decide +kernel
theorem dX11_isMoving_0 : decode cX11_isMoving 0 = .ok (.aload_n 0, 1) := by decide +kernel
theorem dX11_isMoving_1 : decode cX11_isMoving 1 = .ok (.invokevirtual 84, 3) := by decide +kernel
theorem dX11_isMoving_4 : decode cX11_isMoving 4 = .ok (.ifCond .eq 18, 3) := by decide +kernel
theorem dX11_isMoving_7 : decode cX11_isMoving 7 = .ok (.aload_n 0, 1) := by decide +kernel
theorem dX11_isMoving_8 : decode cX11_isMoving 8 = .ok (.getfield 7, 3) := by decide +kernel
theorem dX11_isMoving_11 : decode cX11_isMoving 11 = .ok (.sipush 719, 3) := by decide +kernel
theorem dX11_isMoving_14 : decode cX11_isMoving 14 = .ok (.iaload, 1) := by decide +kernel
theorem dX11_isMoving_15 : decode cX11_isMoving 15 = .ok (.ifCond .le 7, 3) := by decide +kernel
theorem dX11_isMoving_18 : decode cX11_isMoving 18 = .ok (.iconst 1, 1) := by decide +kernel
theorem dX11_isMoving_19 : decode cX11_isMoving 19 = .ok (.goto 4, 3) := by decide +kernel
theorem dX11_isMoving_22 : decode cX11_isMoving 22 = .ok (.iconst 0, 1) := by decide +kernel
theorem dX11_isMoving_23 : decode cX11_isMoving 23 = .ok (.ireturn, 1) := by decide +kernel
theorem dX11_isInBatch_0 : decode cX11_isInBatch 0 = .ok (.aload_n 0, 1) := by decide +kernel
theorem dX11_isInBatch_1 : decode cX11_isInBatch 1 = .ok (.invokevirtual 88, 3) := by decide +kernel
theorem dX11_isInBatch_4 : decode cX11_isInBatch 4 = .ok (.ifCond .eq 62, 3) := by decide +kernel
theorem dX11_isInBatch_7 : decode cX11_isInBatch 7 = .ok (.iload_n 1, 1) := by decide +kernel
theorem dX11_isInBatch_8 : decode cX11_isInBatch 8 = .ok (.aload_n 0, 1) := by decide +kernel
theorem dX11_isInBatch_9 : decode cX11_isInBatch 9 = .ok (.getfield 7, 3) := by decide +kernel
theorem dX11_isInBatch_12 : decode cX11_isInBatch 12 = .ok (.sipush 718, 3) := by decide +kernel
theorem dX11_isInBatch_15 : decode cX11_isInBatch 15 = .ok (.iaload, 1) := by decide +kernel
theorem dX11_isInBatch_16 : decode cX11_isInBatch 16 = .ok (.aload_n 0, 1) := by decide +kernel
theorem dX11_isInBatch_17 : decode cX11_isInBatch 17 = .ok (.getfield 7, 3) := by decide +kernel
theorem dX11_isInBatch_20 : decode cX11_isInBatch 20 = .ok (.sipush 715, 3) := by decide +kernel
theorem dX11_isInBatch_23 : decode cX11_isInBatch 23 = .ok (.iaload, 1) := by decide +kernel
theorem dX11_isInBatch_24 : decode cX11_isInBatch 24 = .ok (.imul, 1) := by decide +kernel
theorem dX11_isInBatch_25 : decode cX11_isInBatch 25 = .ok (.if_icmp .lt 41, 3) := by decide +kernel
theorem dX11_isInBatch_28 : decode cX11_isInBatch 28 = .ok (.iload_n 1, 1) := by decide +kernel
theorem dX11_isInBatch_29 : decode cX11_isInBatch 29 = .ok (.aload_n 0, 1) := by decide +kernel
theorem dX11_isInBatch_30 : decode cX11_isInBatch 30 = .ok (.getfield 7, 3) := by decide +kernel
theorem dX11_isInBatch_33 : decode cX11_isInBatch 33 = .ok (.sipush 718, 3) := by decide +kernel
theorem dX11_isInBatch_36 : decode cX11_isInBatch 36 = .ok (.iaload, 1) := by decide +kernel
theorem dX11_isInBatch_37 : decode cX11_isInBatch 37 = .ok (.aload_n 0, 1) := by decide +kernel
theorem dX11_isInBatch_38 : decode cX11_isInBatch 38 = .ok (.getfield 7, 3) := by decide +kernel
theorem dX11_isInBatch_41 : decode cX11_isInBatch 41 = .ok (.sipush 715, 3) := by decide +kernel
theorem dX11_isInBatch_44 : decode cX11_isInBatch 44 = .ok (.iaload, 1) := by decide +kernel
theorem dX11_isInBatch_45 : decode cX11_isInBatch 45 = .ok (.imul, 1) := by decide +kernel
theorem dX11_isInBatch_46 : decode cX11_isInBatch 46 = .ok (.aload_n 0, 1) := by decide +kernel
theorem dX11_isInBatch_47 : decode cX11_isInBatch 47 = .ok (.aload_n 0, 1) := by decide +kernel
theorem dX11_isInBatch_48 : decode cX11_isInBatch 48 = .ok (.getfield 7, 3) := by decide +kernel
theorem dX11_isInBatch_51 : decode cX11_isInBatch 51 = .ok (.sipush 718, 3) := by decide +kernel
theorem dX11_isInBatch_54 : decode cX11_isInBatch 54 = .ok (.iaload, 1) := by decide +kernel
theorem dX11_isInBatch_55 : decode cX11_isInBatch 55 = .ok (.invokevirtual 78, 3) := by decide +kernel
theorem dX11_isInBatch_58 : decode cX11_isInBatch 58 = .ok (.iadd, 1) := by decide +kernel
theorem dX11_isInBatch_59 : decode cX11_isInBatch 59 = .ok (.if_icmp .ge 7, 3) := by decide +kernel
theorem dX11_isInBatch_62 : decode cX11_isInBatch 62 = .ok (.iconst 1, 1) := by decide +kernel
theorem dX11_isInBatch_63 : decode cX11_isInBatch 63 = .ok (.goto 4, 3) := by decide +kernel
theorem dX11_isInBatch_66 : decode cX11_isInBatch 66 = .ok (.iconst 0, 1) := by decide +kernel
theorem dX11_isInBatch_67 : decode cX11_isInBatch 67 = .ok (.ireturn, 1) := by decide +kernel
theorem dX11_isAllRead_0 : decode cX11_isAllRead 0 = .ok (.aload_n 0, 1) := by decide +kernel
theorem dX11_isAllRead_1 : decode cX11_isAllRead 1 = .ok (.getfield 7, 3) := by decide +kernel
theorem dX11_isAllRead_4 : decode cX11_isAllRead 4 = .ok (.sipush 719, 3) := by decide +kernel
theorem dX11_isAllRead_7 : decode cX11_isAllRead 7 = .ok (.iaload, 1) := by decide +kernel
theorem dX11_isAllRead_8 : decode cX11_isAllRead 8 = .ok (.aload_n 0, 1) := by decide +kernel
theorem dX11_isAllRead_9 : decode cX11_isAllRead 9 = .ok (.aload_n 0, 1) := by decide +kernel
theorem dX11_isAllRead_10 : decode cX11_isAllRead 10 = .ok (.getfield 7, 3) := by decide +kernel
theorem dX11_isAllRead_13 : decode cX11_isAllRead 13 = .ok (.sipush 718, 3) := by decide +kernel
theorem dX11_isAllRead_16 : decode cX11_isAllRead 16 = .ok (.iaload, 1) := by decide +kernel
theorem dX11_isAllRead_17 : decode cX11_isAllRead 17 = .ok (.invokevirtual 78, 3) := by decide +kernel
theorem dX11_isAllRead_20 : decode cX11_isAllRead 20 = .ok (.if_icmp .lt 7, 3) := by decide +kernel
theorem dX11_isAllRead_23 : decode cX11_isAllRead 23 = .ok (.iconst 1, 1) := by decide +kernel
theorem dX11_isAllRead_24 : decode cX11_isAllRead 24 = .ok (.goto 4, 3) := by decide +kernel
theorem dX11_isAllRead_27 : decode cX11_isAllRead 27 = .ok (.iconst 0, 1) := by decide +kernel
theorem dX11_isAllRead_28 : decode cX11_isAllRead 28 = .ok (.ireturn, 1) := by decide +kernel
theorem dX11_step_0 : decode cX11_step 0 = .ok (.aload_n 0, 1) := by decide +kernel
theorem dX11_step_1 : decode cX11_step 1 = .ok (.getfield 7, 3) := by decide +kernel
theorem dX11_step_4 : decode cX11_step 4 = .ok (.sipush 718, 3) := by decide +kernel
theorem dX11_step_7 : decode cX11_step 7 = .ok (.iaload, 1) := by decide +kernel
theorem dX11_step_8 : decode cX11_step 8 = .ok (.istore_n 1, 1) := by decide +kernel
theorem dX11_step_9 : decode cX11_step 9 = .ok (.aload_n 0, 1) := by decide +kernel
theorem dX11_step_10 : decode cX11_step 10 = .ok (.getfield 7, 3) := by decide +kernel
theorem dX11_step_13 : decode cX11_step 13 = .ok (.sipush 719, 3) := by decide +kernel
theorem dX11_step_16 : decode cX11_step 16 = .ok (.iaload, 1) := by decide +kernel
theorem dX11_step_17 : decode cX11_step 17 = .ok (.istore_n 2, 1) := by decide +kernel
theorem dX11_step_18 : decode cX11_step 18 = .ok (.aload_n 0, 1) := by decide +kernel
theorem dX11_step_19 : decode cX11_step 19 = .ok (.iload_n 1, 1) := by decide +kernel
theorem dX11_step_20 : decode cX11_step 20 = .ok (.invokevirtual 78, 3) := by decide +kernel
theorem dX11_step_23 : decode cX11_step 23 = .ok (.istore_n 3, 1) := by decide +kernel
theorem dX11_step_24 : decode cX11_step 24 = .ok (.iload_n 2, 1) := by decide +kernel
theorem dX11_step_25 : decode cX11_step 25 = .ok (.ifCond .ne 31, 3) := by decide +kernel
theorem dX11_step_28 : decode cX11_step 28 = .ok (.iconst 0, 1) := by decide +kernel
theorem dX11_step_29 : decode cX11_step 29 = .ok (.istore 4, 2) := by decide +kernel
theorem dX11_step_31 : decode cX11_step 31 = .ok (.iload 4, 2) := by decide +kernel
theorem dX11_step_33 : decode cX11_step 33 = .ok (.bipush 24, 2) := by decide +kernel
theorem dX11_step_35 : decode cX11_step 35 = .ok (.if_icmp .ge 21, 3) := by decide +kernel
theorem dX11_step_38 : decode cX11_step 38 = .ok (.aload_n 0, 1) := by decide +kernel
theorem dX11_step_39 : decode cX11_step 39 = .ok (.getfield 7, 3) := by decide +kernel
theorem dX11_step_42 : decode cX11_step 42 = .ok (.sipush 560, 3) := by decide +kernel
theorem dX11_step_45 : decode cX11_step 45 = .ok (.iload 4, 2) := by decide +kernel
theorem dX11_step_47 : decode cX11_step 47 = .ok (.iadd, 1) := by decide +kernel
theorem dX11_step_48 : decode cX11_step 48 = .ok (.iconst 0, 1) := by decide +kernel
theorem dX11_step_49 : decode cX11_step 49 = .ok (.iastore, 1) := by decide +kernel
theorem dX11_step_50 : decode cX11_step 50 = .ok (.iinc 4 1, 3) := by decide +kernel
theorem dX11_step_53 : decode cX11_step 53 = .ok (.goto (-22), 3) := by decide +kernel
theorem dX11_step_56 : decode cX11_step 56 = .ok (.iload_n 2, 1) := by decide +kernel
theorem dX11_step_57 : decode cX11_step 57 = .ok (.iload_n 3, 1) := by decide +kernel
theorem dX11_step_58 : decode cX11_step 58 = .ok (.if_icmp .ge 77, 3) := by decide +kernel
theorem dX11_step_61 : decode cX11_step 61 = .ok (.iload_n 1, 1) := by decide +kernel
theorem dX11_step_62 : decode cX11_step 62 = .ok (.aload_n 0, 1) := by decide +kernel
theorem dX11_step_63 : decode cX11_step 63 = .ok (.getfield 7, 3) := by decide +kernel
theorem dX11_step_66 : decode cX11_step 66 = .ok (.sipush 715, 3) := by decide +kernel
theorem dX11_step_69 : decode cX11_step 69 = .ok (.iaload, 1) := by decide +kernel
theorem dX11_step_70 : decode cX11_step 70 = .ok (.imul, 1) := by decide +kernel
theorem dX11_step_71 : decode cX11_step 71 = .ok (.iload_n 2, 1) := by decide +kernel
theorem dX11_step_72 : decode cX11_step 72 = .ok (.iadd, 1) := by decide +kernel
theorem dX11_step_73 : decode cX11_step 73 = .ok (.istore 4, 2) := by decide +kernel
theorem dX11_step_75 : decode cX11_step 75 = .ok (.aload_n 0, 1) := by decide +kernel
theorem dX11_step_76 : decode cX11_step 76 = .ok (.aload_n 0, 1) := by decide +kernel
theorem dX11_step_77 : decode cX11_step 77 = .ok (.getfield 7, 3) := by decide +kernel
theorem dX11_step_80 : decode cX11_step 80 = .ok (.sipush 715, 3) := by decide +kernel
theorem dX11_step_83 : decode cX11_step 83 = .ok (.iaload, 1) := by decide +kernel
theorem dX11_step_84 : decode cX11_step 84 = .ok (.aload_n 0, 1) := by decide +kernel
theorem dX11_step_85 : decode cX11_step 85 = .ok (.getfield 7, 3) := by decide +kernel
theorem dX11_step_88 : decode cX11_step 88 = .ok (.sipush 715, 3) := by decide +kernel
theorem dX11_step_91 : decode cX11_step 91 = .ok (.iaload, 1) := by decide +kernel
theorem dX11_step_92 : decode cX11_step 92 = .ok (.iload 4, 2) := by decide +kernel
theorem dX11_step_94 : decode cX11_step 94 = .ok (.invokestatic 91, 3) := by decide +kernel
theorem dX11_step_97 : decode cX11_step 97 = .ok (.aload_n 0, 1) := by decide +kernel
theorem dX11_step_98 : decode cX11_step 98 = .ok (.getfield 7, 3) := by decide +kernel
theorem dX11_step_101 : decode cX11_step 101 = .ok (.sipush 715, 3) := by decide +kernel
theorem dX11_step_104 : decode cX11_step 104 = .ok (.iaload, 1) := by decide +kernel
theorem dX11_step_105 : decode cX11_step 105 = .ok (.iload 4, 2) := by decide +kernel
theorem dX11_step_107 : decode cX11_step 107 = .ok (.invokestatic 94, 3) := by decide +kernel
theorem dX11_step_110 : decode cX11_step 110 = .ok (.invokevirtual 97, 3) := by decide +kernel
theorem dX11_step_113 : decode cX11_step 113 = .ok (.ifCond .ne 5, 3) := by decide +kernel
theorem dX11_step_116 : decode cX11_step 116 = .ok (.iconst 0, 1) := by decide +kernel
theorem dX11_step_117 : decode cX11_step 117 = .ok (.ireturn, 1) := by decide +kernel
theorem dX11_step_118 : decode cX11_step 118 = .ok (.aload_n 0, 1) := by decide +kernel
theorem dX11_step_119 : decode cX11_step 119 = .ok (.getfield 7, 3) := by decide +kernel
theorem dX11_step_122 : decode cX11_step 122 = .ok (.sipush 560, 3) := by decide +kernel
theorem dX11_step_125 : decode cX11_step 125 = .ok (.iload_n 2, 1) := by decide +kernel
theorem dX11_step_126 : decode cX11_step 126 = .ok (.iadd, 1) := by decide +kernel
theorem dX11_step_127 : decode cX11_step 127 = .ok (.aload_n 0, 1) := by decide +kernel
theorem dX11_step_128 : decode cX11_step 128 = .ok (.getfield 53, 3) := by decide +kernel
theorem dX11_step_131 : decode cX11_step 131 = .ok (.iastore, 1) := by decide +kernel
theorem dX11_step_132 : decode cX11_step 132 = .ok (.goto 98, 3) := by decide +kernel
theorem dX11_step_135 : decode cX11_step 135 = .ok (.iload_n 2, 1) := by decide +kernel
theorem dX11_step_136 : decode cX11_step 136 = .ok (.iload_n 3, 1) := by decide +kernel
theorem dX11_step_137 : decode cX11_step 137 = .ok (.isub, 1) := by decide +kernel
theorem dX11_step_138 : decode cX11_step 138 = .ok (.istore_n 2, 1) := by decide +kernel
theorem dX11_step_139 : decode cX11_step 139 = .ok (.aload_n 0, 1) := by decide +kernel
theorem dX11_step_140 : decode cX11_step 140 = .ok (.iload_n 1, 1) := by decide +kernel
theorem dX11_step_141 : decode cX11_step 141 = .ok (.invokevirtual 81, 3) := by decide +kernel
theorem dX11_step_144 : decode cX11_step 144 = .ok (.istore 4, 2) := by decide +kernel
theorem dX11_step_146 : decode cX11_step 146 = .ok (.aload_n 0, 1) := by decide +kernel
theorem dX11_step_147 : decode cX11_step 147 = .ok (.iload_n 1, 1) := by decide +kernel
theorem dX11_step_148 : decode cX11_step 148 = .ok (.invokevirtual 74, 3) := by decide +kernel
theorem dX11_step_151 : decode cX11_step 151 = .ok (.istore 5, 2) := by decide +kernel
theorem dX11_step_153 : decode cX11_step 153 = .ok (.iload 5, 2) := by decide +kernel
theorem dX11_step_155 : decode cX11_step 155 = .ok (.ifCond .eq 32, 3) := by decide +kernel
theorem dX11_step_158 : decode cX11_step 158 = .ok (.iload_n 2, 1) := by decide +kernel
theorem dX11_step_159 : decode cX11_step 159 = .ok (.iload 4, 2) := by decide +kernel
theorem dX11_step_161 : decode cX11_step 161 = .ok (.if_icmp .ge 26, 3) := by decide +kernel
theorem dX11_step_164 : decode cX11_step 164 = .ok (.aload_n 0, 1) := by decide +kernel
theorem dX11_step_165 : decode cX11_step 165 = .ok (.getfield 7, 3) := by decide +kernel
theorem dX11_step_168 : decode cX11_step 168 = .ok (.sipush 584, 3) := by decide +kernel
theorem dX11_step_171 : decode cX11_step 171 = .ok (.iload_n 2, 1) := by decide +kernel
theorem dX11_step_172 : decode cX11_step 172 = .ok (.iadd, 1) := by decide +kernel
theorem dX11_step_173 : decode cX11_step 173 = .ok (.aload_n 0, 1) := by decide +kernel
theorem dX11_step_174 : decode cX11_step 174 = .ok (.getfield 7, 3) := by decide +kernel
theorem dX11_step_177 : decode cX11_step 177 = .ok (.sipush 560, 3) := by decide +kernel
theorem dX11_step_180 : decode cX11_step 180 = .ok (.iload_n 2, 1) := by decide +kernel
theorem dX11_step_181 : decode cX11_step 181 = .ok (.iadd, 1) := by decide +kernel
theorem dX11_step_182 : decode cX11_step 182 = .ok (.iaload, 1) := by decide +kernel
theorem dX11_step_183 : decode cX11_step 183 = .ok (.iastore, 1) := by decide +kernel
theorem dX11_step_184 : decode cX11_step 184 = .ok (.goto 46, 3) := by decide +kernel
theorem dX11_step_187 : decode cX11_step 187 = .ok (.iload 5, 2) := by decide +kernel
theorem dX11_step_189 : decode cX11_step 189 = .ok (.ifCond .eq 21, 3) := by decide +kernel
theorem dX11_step_192 : decode cX11_step 192 = .ok (.iload_n 2, 1) := by decide +kernel
theorem dX11_step_193 : decode cX11_step 193 = .ok (.iload 4, 2) := by decide +kernel
theorem dX11_step_195 : decode cX11_step 195 = .ok (.if_icmp .ne 15, 3) := by decide +kernel
theorem dX11_step_198 : decode cX11_step 198 = .ok (.aload_n 0, 1) := by decide +kernel
theorem dX11_step_199 : decode cX11_step 199 = .ok (.getfield 7, 3) := by decide +kernel
theorem dX11_step_202 : decode cX11_step 202 = .ok (.sipush 720, 3) := by decide +kernel
theorem dX11_step_205 : decode cX11_step 205 = .ok (.iconst 1, 1) := by decide +kernel
theorem dX11_step_206 : decode cX11_step 206 = .ok (.iastore, 1) := by decide +kernel
theorem dX11_step_207 : decode cX11_step 207 = .ok (.goto 23, 3) := by decide +kernel
theorem dX11_step_210 : decode cX11_step 210 = .ok (.aload_n 0, 1) := by decide +kernel
theorem dX11_step_211 : decode cX11_step 211 = .ok (.iload_n 1, 1) := by decide +kernel
theorem dX11_step_212 : decode cX11_step 212 = .ok (.iload 5, 2) := by decide +kernel
theorem dX11_step_214 : decode cX11_step 214 = .ok (.ifCond .eq 12, 3) := by decide +kernel
theorem dX11_step_217 : decode cX11_step 217 = .ok (.iload_n 2, 1) := by decide +kernel
theorem dX11_step_218 : decode cX11_step 218 = .ok (.iload 4, 2) := by decide +kernel
theorem dX11_step_220 : decode cX11_step 220 = .ok (.isub, 1) := by decide +kernel
theorem dX11_step_221 : decode cX11_step 221 = .ok (.iconst 1, 1) := by decide +kernel
theorem dX11_step_222 : decode cX11_step 222 = .ok (.isub, 1) := by decide +kernel
theorem dX11_step_223 : decode cX11_step 223 = .ok (.goto 4, 3) := by decide +kernel
theorem dX11_step_226 : decode cX11_step 226 = .ok (.iload_n 2, 1) := by decide +kernel
theorem dX11_step_227 : decode cX11_step 227 = .ok (.invokevirtual 101, 3) := by decide +kernel
theorem dX11_step_230 : decode cX11_step 230 = .ok (.aload_n 0, 1) := by decide +kernel
theorem dX11_step_231 : decode cX11_step 231 = .ok (.getfield 7, 3) := by decide +kernel
theorem dX11_step_234 : decode cX11_step 234 = .ok (.sipush 719, 3) := by decide +kernel
theorem dX11_step_237 : decode cX11_step 237 = .ok (.dup2, 1) := by decide +kernel
theorem dX11_step_238 : decode cX11_step 238 = .ok (.iaload, 1) := by decide +kernel
theorem dX11_step_239 : decode cX11_step 239 = .ok (.iconst 1, 1) := by decide +kernel
theorem dX11_step_240 : decode cX11_step 240 = .ok (.iadd, 1) := by decide +kernel
theorem dX11_step_241 : decode cX11_step 241 = .ok (.iastore, 1) := by decide +kernel
theorem dX11_step_242 : decode cX11_step 242 = .ok (.aload_n 0, 1) := by decide +kernel
theorem dX11_step_243 : decode cX11_step 243 = .ok (.getfield 7, 3) := by decide +kernel
theorem dX11_step_246 : decode cX11_step 246 = .ok (.sipush 728, 3) := by decide +kernel
theorem dX11_step_249 : decode cX11_step 249 = .ok (.dup2, 1) := by decide +kernel
theorem dX11_step_250 : decode cX11_step 250 = .ok (.iaload, 1) := by decide +kernel
theorem dX11_step_251 : decode cX11_step 251 = .ok (.iconst 1, 1) := by decide +kernel
theorem dX11_step_252 : decode cX11_step 252 = .ok (.iadd, 1) := by decide +kernel
theorem dX11_step_253 : decode cX11_step 253 = .ok (.iastore, 1) := by decide +kernel
theorem dX11_step_254 : decode cX11_step 254 = .ok (.aload_n 0, 1) := by decide +kernel
theorem dX11_step_255 : decode cX11_step 255 = .ok (.getfield 7, 3) := by decide +kernel
theorem dX11_step_258 : decode cX11_step 258 = .ok (.sipush 719, 3) := by decide +kernel
theorem dX11_step_261 : decode cX11_step 261 = .ok (.iaload, 1) := by decide +kernel
theorem dX11_step_262 : decode cX11_step 262 = .ok (.aload_n 0, 1) := by decide +kernel
theorem dX11_step_263 : decode cX11_step 263 = .ok (.iload_n 1, 1) := by decide +kernel
theorem dX11_step_264 : decode cX11_step 264 = .ok (.invokevirtual 104, 3) := by decide +kernel
theorem dX11_step_267 : decode cX11_step 267 = .ok (.if_icmp .ne 7, 3) := by decide +kernel
theorem dX11_step_270 : decode cX11_step 270 = .ok (.aload_n 0, 1) := by decide +kernel
theorem dX11_step_271 : decode cX11_step 271 = .ok (.invokevirtual 107, 3) := by decide +kernel
theorem dX11_step_274 : decode cX11_step 274 = .ok (.iconst 1, 1) := by decide +kernel
theorem dX11_step_275 : decode cX11_step 275 = .ok (.ireturn, 1) := by decide +kernel
theorem dX11_writes_0 : decode cX11_writes 0 = .ok (.aload_n 0, 1) := by decide +kernel
theorem dX11_writes_1 : decode cX11_writes 1 = .ok (.getfield 7, 3) := by decide +kernel
theorem dX11_writes_4 : decode cX11_writes 4 = .ok (.sipush 715, 3) := by decide +kernel
theorem dX11_writes_7 : decode cX11_writes 7 = .ok (.iaload, 1) := by decide +kernel
theorem dX11_writes_8 : decode cX11_writes 8 = .ok (.iconst 1, 1) := by decide +kernel
theorem dX11_writes_9 : decode cX11_writes 9 = .ok (.iadd, 1) := by decide +kernel
theorem dX11_writes_10 : decode cX11_writes 10 = .ok (.istore_n 3, 1) := by decide +kernel
theorem dX11_writes_11 : decode cX11_writes 11 = .ok (.iload_n 2, 1) := by decide +kernel
theorem dX11_writes_12 : decode cX11_writes 12 = .ok (.iload_n 3, 1) := by decide +kernel
theorem dX11_writes_13 : decode cX11_writes 13 = .ok (.idiv, 1) := by decide +kernel
theorem dX11_writes_14 : decode cX11_writes 14 = .ok (.istore 4, 2) := by decide +kernel
theorem dX11_writes_16 : decode cX11_writes 16 = .ok (.iload 4, 2) := by decide +kernel
theorem dX11_writes_18 : decode cX11_writes 18 = .ok (.aload_n 0, 1) := by decide +kernel
theorem dX11_writes_19 : decode cX11_writes 19 = .ok (.iload_n 1, 1) := by decide +kernel
theorem dX11_writes_20 : decode cX11_writes 20 = .ok (.invokevirtual 70, 3) := by decide +kernel
theorem dX11_writes_23 : decode cX11_writes 23 = .ok (.if_icmp .lt 4, 3) := by decide +kernel
theorem dX11_writes_26 : decode cX11_writes 26 = .ok (.return_, 1) := by decide +kernel
theorem dX11_writes_27 : decode cX11_writes 27 = .ok (.iload_n 1, 1) := by decide +kernel
theorem dX11_writes_28 : decode cX11_writes 28 = .ok (.iload 4, 2) := by decide +kernel
theorem dX11_writes_30 : decode cX11_writes 30 = .ok (.iadd, 1) := by decide +kernel
theorem dX11_writes_31 : decode cX11_writes 31 = .ok (.istore 5, 2) := by decide +kernel
theorem dX11_writes_33 : decode cX11_writes 33 = .ok (.iload_n 2, 1) := by decide +kernel
theorem dX11_writes_34 : decode cX11_writes 34 = .ok (.iload_n 3, 1) := by decide +kernel
theorem dX11_writes_35 : decode cX11_writes 35 = .ok (.irem, 1) := by decide +kernel
theorem dX11_writes_36 : decode cX11_writes 36 = .ok (.istore 6, 2) := by decide +kernel
theorem dX11_writes_38 : decode cX11_writes 38 = .ok (.sipush 560, 3) := by decide +kernel
theorem dX11_writes_41 : decode cX11_writes 41 = .ok (.iload 4, 2) := by decide +kernel
theorem dX11_writes_43 : decode cX11_writes 43 = .ok (.aload_n 0, 1) := by decide +kernel
theorem dX11_writes_44 : decode cX11_writes 44 = .ok (.getfield 7, 3) := by decide +kernel
theorem dX11_writes_47 : decode cX11_writes 47 = .ok (.sipush 715, 3) := by decide +kernel
theorem dX11_writes_50 : decode cX11_writes 50 = .ok (.iaload, 1) := by decide +kernel
theorem dX11_writes_51 : decode cX11_writes 51 = .ok (.imul, 1) := by decide +kernel
theorem dX11_writes_52 : decode cX11_writes 52 = .ok (.iadd, 1) := by decide +kernel
theorem dX11_writes_53 : decode cX11_writes 53 = .ok (.istore 7, 2) := by decide +kernel
theorem dX11_writes_55 : decode cX11_writes 55 = .ok (.iload 6, 2) := by decide +kernel
theorem dX11_writes_57 : decode cX11_writes 57 = .ok (.aload_n 0, 1) := by decide +kernel
theorem dX11_writes_58 : decode cX11_writes 58 = .ok (.getfield 7, 3) := by decide +kernel
theorem dX11_writes_61 : decode cX11_writes 61 = .ok (.sipush 715, 3) := by decide +kernel
theorem dX11_writes_64 : decode cX11_writes 64 = .ok (.iaload, 1) := by decide +kernel
theorem dX11_writes_65 : decode cX11_writes 65 = .ok (.if_icmp .ge 33, 3) := by decide +kernel
theorem dX11_writes_68 : decode cX11_writes 68 = .ok (.aload_n 0, 1) := by decide +kernel
theorem dX11_writes_69 : decode cX11_writes 69 = .ok (.iload_n 3, 1) := by decide +kernel
theorem dX11_writes_70 : decode cX11_writes 70 = .ok (.iload 5, 2) := by decide +kernel
theorem dX11_writes_72 : decode cX11_writes 72 = .ok (.invokestatic 46, 3) := by decide +kernel
theorem dX11_writes_75 : decode cX11_writes 75 = .ok (.iconst 1, 1) := by decide +kernel
theorem dX11_writes_76 : decode cX11_writes 76 = .ok (.iadd, 1) := by decide +kernel
theorem dX11_writes_77 : decode cX11_writes 77 = .ok (.iload 6, 2) := by decide +kernel
theorem dX11_writes_79 : decode cX11_writes 79 = .ok (.iadd, 1) := by decide +kernel
theorem dX11_writes_80 : decode cX11_writes 80 = .ok (.iload_n 3, 1) := by decide +kernel
theorem dX11_writes_81 : decode cX11_writes 81 = .ok (.irem, 1) := by decide +kernel
theorem dX11_writes_82 : decode cX11_writes 82 = .ok (.iload 5, 2) := by decide +kernel
theorem dX11_writes_84 : decode cX11_writes 84 = .ok (.aload_n 0, 1) := by decide +kernel
theorem dX11_writes_85 : decode cX11_writes 85 = .ok (.getfield 7, 3) := by decide +kernel
theorem dX11_writes_88 : decode cX11_writes 88 = .ok (.iload 7, 2) := by decide +kernel
theorem dX11_writes_90 : decode cX11_writes 90 = .ok (.iload 6, 2) := by decide +kernel
theorem dX11_writes_92 : decode cX11_writes 92 = .ok (.iadd, 1) := by decide +kernel
theorem dX11_writes_93 : decode cX11_writes 93 = .ok (.iaload, 1) := by decide +kernel
theorem dX11_writes_94 : decode cX11_writes 94 = .ok (.invokevirtual 110, 3) := by decide +kernel
theorem dX11_writes_97 : decode cX11_writes 97 = .ok (.return_, 1) := by decide +kernel
theorem dX11_writes_98 : decode cX11_writes 98 = .ok (.iconst 0, 1) := by decide +kernel
theorem dX11_writes_99 : decode cX11_writes 99 = .ok (.istore 8, 2) := by decide +kernel
theorem dX11_writes_101 : decode cX11_writes 101 = .ok (.iconst 0, 1) := by decide +kernel
theorem dX11_writes_102 : decode cX11_writes 102 = .ok (.istore 9, 2) := by decide +kernel
theorem dX11_writes_104 : decode cX11_writes 104 = .ok (.iload 9, 2) := by decide +kernel
theorem dX11_writes_106 : decode cX11_writes 106 = .ok (.aload_n 0, 1) := by decide +kernel
theorem dX11_writes_107 : decode cX11_writes 107 = .ok (.getfield 7, 3) := by decide +kernel
theorem dX11_writes_110 : decode cX11_writes 110 = .ok (.sipush 715, 3) := by decide +kernel
theorem dX11_writes_113 : decode cX11_writes 113 = .ok (.iaload, 1) := by decide +kernel
theorem dX11_writes_114 : decode cX11_writes 114 = .ok (.if_icmp .ge 24, 3) := by decide +kernel
theorem dX11_writes_117 : decode cX11_writes 117 = .ok (.iload 8, 2) := by decide +kernel
theorem dX11_writes_119 : decode cX11_writes 119 = .ok (.aload_n 0, 1) := by decide +kernel
theorem dX11_writes_120 : decode cX11_writes 120 = .ok (.getfield 7, 3) := by decide +kernel
theorem dX11_writes_123 : decode cX11_writes 123 = .ok (.iload 7, 2) := by decide +kernel
theorem dX11_writes_125 : decode cX11_writes 125 = .ok (.iload 9, 2) := by decide +kernel
theorem dX11_writes_127 : decode cX11_writes 127 = .ok (.iadd, 1) := by decide +kernel
theorem dX11_writes_128 : decode cX11_writes 128 = .ok (.iaload, 1) := by decide +kernel
theorem dX11_writes_129 : decode cX11_writes 129 = .ok (.ixor, 1) := by decide +kernel
theorem dX11_writes_130 : decode cX11_writes 130 = .ok (.istore 8, 2) := by decide +kernel
theorem dX11_writes_132 : decode cX11_writes 132 = .ok (.iinc 9 1, 3) := by decide +kernel
theorem dX11_writes_135 : decode cX11_writes 135 = .ok (.goto (-31), 3) := by decide +kernel
theorem dX11_writes_138 : decode cX11_writes 138 = .ok (.aload_n 0, 1) := by decide +kernel
theorem dX11_writes_139 : decode cX11_writes 139 = .ok (.iload_n 3, 1) := by decide +kernel
theorem dX11_writes_140 : decode cX11_writes 140 = .ok (.iload 5, 2) := by decide +kernel
theorem dX11_writes_142 : decode cX11_writes 142 = .ok (.invokestatic 46, 3) := by decide +kernel
theorem dX11_writes_145 : decode cX11_writes 145 = .ok (.iload 5, 2) := by decide +kernel
theorem dX11_writes_147 : decode cX11_writes 147 = .ok (.iload 8, 2) := by decide +kernel
theorem dX11_writes_149 : decode cX11_writes 149 = .ok (.invokevirtual 110, 3) := by decide +kernel
theorem dX11_writes_152 : decode cX11_writes 152 = .ok (.return_, 1) := by decide +kernel
theorem dX11_checkpoints_0 : decode cX11_checkpoints 0 = .ok (.aload_n 0, 1) := by decide +kernel
theorem dX11_checkpoints_1 : decode cX11_checkpoints 1 = .ok (.getfield 7, 3) := by decide +kernel
theorem dX11_checkpoints_4 : decode cX11_checkpoints 4 = .ok (.sipush 718, 3) := by decide +kernel
theorem dX11_checkpoints_7 : decode cX11_checkpoints 7 = .ok (.dup2, 1) := by decide +kernel
theorem dX11_checkpoints_8 : decode cX11_checkpoints 8 = .ok (.iaload, 1) := by decide +kernel
theorem dX11_checkpoints_9 : decode cX11_checkpoints 9 = .ok (.aload_n 0, 1) := by decide +kernel
theorem dX11_checkpoints_10 : decode cX11_checkpoints 10 = .ok (.aload_n 0, 1) := by decide +kernel
theorem dX11_checkpoints_11 : decode cX11_checkpoints 11 = .ok (.getfield 7, 3) := by decide +kernel
theorem dX11_checkpoints_14 : decode cX11_checkpoints 14 = .ok (.sipush 718, 3) := by decide +kernel
theorem dX11_checkpoints_17 : decode cX11_checkpoints 17 = .ok (.iaload, 1) := by decide +kernel
theorem dX11_checkpoints_18 : decode cX11_checkpoints 18 = .ok (.invokevirtual 70, 3) := by decide +kernel
theorem dX11_checkpoints_21 : decode cX11_checkpoints 21 = .ok (.iadd, 1) := by decide +kernel
theorem dX11_checkpoints_22 : decode cX11_checkpoints 22 = .ok (.iastore, 1) := by decide +kernel
theorem dX11_checkpoints_23 : decode cX11_checkpoints 23 = .ok (.aload_n 0, 1) := by decide +kernel
theorem dX11_checkpoints_24 : decode cX11_checkpoints 24 = .ok (.getfield 7, 3) := by decide +kernel
theorem dX11_checkpoints_27 : decode cX11_checkpoints 27 = .ok (.sipush 719, 3) := by decide +kernel
theorem dX11_checkpoints_30 : decode cX11_checkpoints 30 = .ok (.iconst 0, 1) := by decide +kernel
theorem dX11_checkpoints_31 : decode cX11_checkpoints 31 = .ok (.iastore, 1) := by decide +kernel
theorem dX11_checkpoints_32 : decode cX11_checkpoints 32 = .ok (.aload_n 0, 1) := by decide +kernel
theorem dX11_checkpoints_33 : decode cX11_checkpoints 33 = .ok (.getfield 7, 3) := by decide +kernel
theorem dX11_checkpoints_36 : decode cX11_checkpoints 36 = .ok (.sipush 720, 3) := by decide +kernel
theorem dX11_checkpoints_39 : decode cX11_checkpoints 39 = .ok (.iconst 0, 1) := by decide +kernel
theorem dX11_checkpoints_40 : decode cX11_checkpoints 40 = .ok (.iastore, 1) := by decide +kernel
theorem dX11_checkpoints_41 : decode cX11_checkpoints 41 = .ok (.aload_n 0, 1) := by decide +kernel
theorem dX11_checkpoints_42 : decode cX11_checkpoints 42 = .ok (.getfield 7, 3) := by decide +kernel
theorem dX11_checkpoints_45 : decode cX11_checkpoints 45 = .ok (.sipush 718, 3) := by decide +kernel
theorem dX11_checkpoints_48 : decode cX11_checkpoints 48 = .ok (.iaload, 1) := by decide +kernel
theorem dX11_checkpoints_49 : decode cX11_checkpoints 49 = .ok (.aload_n 0, 1) := by decide +kernel
theorem dX11_checkpoints_50 : decode cX11_checkpoints 50 = .ok (.invokevirtual 67, 3) := by decide +kernel
theorem dX11_checkpoints_53 : decode cX11_checkpoints 53 = .ok (.if_icmp .ge 4, 3) := by decide +kernel
theorem dX11_checkpoints_56 : decode cX11_checkpoints 56 = .ok (.return_, 1) := by decide +kernel
theorem dX11_checkpoints_57 : decode cX11_checkpoints 57 = .ok (.iconst 0, 1) := by decide +kernel
theorem dX11_checkpoints_58 : decode cX11_checkpoints 58 = .ok (.istore_n 1, 1) := by decide +kernel
theorem dX11_checkpoints_59 : decode cX11_checkpoints 59 = .ok (.iload_n 1, 1) := by decide +kernel
theorem dX11_checkpoints_60 : decode cX11_checkpoints 60 = .ok (.aload_n 0, 1) := by decide +kernel
theorem dX11_checkpoints_61 : decode cX11_checkpoints 61 = .ok (.getfield 7, 3) := by decide +kernel
theorem dX11_checkpoints_64 : decode cX11_checkpoints 64 = .ok (.sipush 715, 3) := by decide +kernel
theorem dX11_checkpoints_67 : decode cX11_checkpoints 67 = .ok (.iaload, 1) := by decide +kernel
theorem dX11_checkpoints_68 : decode cX11_checkpoints 68 = .ok (.if_icmp .gt 64, 3) := by decide +kernel
theorem dX11_checkpoints_71 : decode cX11_checkpoints 71 = .ok (.aload_n 0, 1) := by decide +kernel
theorem dX11_checkpoints_72 : decode cX11_checkpoints 72 = .ok (.getfield 7, 3) := by decide +kernel
theorem dX11_checkpoints_75 : decode cX11_checkpoints 75 = .ok (.sipush 718, 3) := by decide +kernel
theorem dX11_checkpoints_78 : decode cX11_checkpoints 78 = .ok (.iaload, 1) := by decide +kernel
theorem dX11_checkpoints_79 : decode cX11_checkpoints 79 = .ok (.istore_n 2, 1) := by decide +kernel
theorem dX11_checkpoints_80 : decode cX11_checkpoints 80 = .ok (.iload_n 2, 1) := by decide +kernel
theorem dX11_checkpoints_81 : decode cX11_checkpoints 81 = .ok (.aload_n 0, 1) := by decide +kernel
theorem dX11_checkpoints_82 : decode cX11_checkpoints 82 = .ok (.getfield 7, 3) := by decide +kernel
theorem dX11_checkpoints_85 : decode cX11_checkpoints 85 = .ok (.sipush 716, 3) := by decide +kernel
theorem dX11_checkpoints_88 : decode cX11_checkpoints 88 = .ok (.iaload, 1) := by decide +kernel
theorem dX11_checkpoints_89 : decode cX11_checkpoints 89 = .ok (.if_icmp .ge 37, 3) := by decide +kernel
theorem dX11_checkpoints_92 : decode cX11_checkpoints 92 = .ok (.aload_n 0, 1) := by decide +kernel
theorem dX11_checkpoints_93 : decode cX11_checkpoints 93 = .ok (.getfield 7, 3) := by decide +kernel
theorem dX11_checkpoints_96 : decode cX11_checkpoints 96 = .ok (.iconst 0, 1) := by decide +kernel
theorem dX11_checkpoints_97 : decode cX11_checkpoints 97 = .ok (.iload_n 1, 1) := by decide +kernel
theorem dX11_checkpoints_98 : decode cX11_checkpoints 98 = .ok (.iload_n 2, 1) := by decide +kernel
theorem dX11_checkpoints_99 : decode cX11_checkpoints 99 = .ok (.invokestatic 50, 3) := by decide +kernel
theorem dX11_checkpoints_102 : decode cX11_checkpoints 102 = .ok (.iadd, 1) := by decide +kernel
theorem dX11_checkpoints_103 : decode cX11_checkpoints 103 = .ok (.iconst 0, 1) := by decide +kernel
theorem dX11_checkpoints_104 : decode cX11_checkpoints 104 = .ok (.iastore, 1) := by decide +kernel
theorem dX11_checkpoints_105 : decode cX11_checkpoints 105 = .ok (.aload_n 0, 1) := by decide +kernel
theorem dX11_checkpoints_106 : decode cX11_checkpoints 106 = .ok (.getfield 7, 3) := by decide +kernel
theorem dX11_checkpoints_109 : decode cX11_checkpoints 109 = .ok (.sipush 280, 3) := by decide +kernel
theorem dX11_checkpoints_112 : decode cX11_checkpoints 112 = .ok (.iload_n 1, 1) := by decide +kernel
theorem dX11_checkpoints_113 : decode cX11_checkpoints 113 = .ok (.iload_n 2, 1) := by decide +kernel
theorem dX11_checkpoints_114 : decode cX11_checkpoints 114 = .ok (.invokestatic 50, 3) := by decide +kernel
theorem dX11_checkpoints_117 : decode cX11_checkpoints 117 = .ok (.iadd, 1) := by decide +kernel
theorem dX11_checkpoints_118 : decode cX11_checkpoints 118 = .ok (.iconst 0, 1) := by decide +kernel
theorem dX11_checkpoints_119 : decode cX11_checkpoints 119 = .ok (.iastore, 1) := by decide +kernel
theorem dX11_checkpoints_120 : decode cX11_checkpoints 120 = .ok (.iinc 2 1, 3) := by decide +kernel
theorem dX11_checkpoints_123 : decode cX11_checkpoints 123 = .ok (.goto (-43), 3) := by decide +kernel
theorem dX11_checkpoints_126 : decode cX11_checkpoints 126 = .ok (.iinc 1 1, 3) := by decide +kernel
theorem dX11_checkpoints_129 : decode cX11_checkpoints 129 = .ok (.goto (-70), 3) := by decide +kernel
theorem dX11_checkpoints_132 : decode cX11_checkpoints 132 = .ok (.aload_n 0, 1) := by decide +kernel
theorem dX11_checkpoints_133 : decode cX11_checkpoints 133 = .ok (.getfield 7, 3) := by decide +kernel
theorem dX11_checkpoints_136 : decode cX11_checkpoints 136 = .ok (.sipush 715, 3) := by decide +kernel
theorem dX11_checkpoints_139 : decode cX11_checkpoints 139 = .ok (.dup2, 1) := by decide +kernel
theorem dX11_checkpoints_140 : decode cX11_checkpoints 140 = .ok (.iaload, 1) := by decide +kernel
theorem dX11_checkpoints_141 : decode cX11_checkpoints 141 = .ok (.iconst 1, 1) := by decide +kernel
theorem dX11_checkpoints_142 : decode cX11_checkpoints 142 = .ok (.iadd, 1) := by decide +kernel
theorem dX11_checkpoints_143 : decode cX11_checkpoints 143 = .ok (.iastore, 1) := by decide +kernel
theorem dX11_checkpoints_144 : decode cX11_checkpoints 144 = .ok (.aload_n 0, 1) := by decide +kernel
theorem dX11_checkpoints_145 : decode cX11_checkpoints 145 = .ok (.getfield 7, 3) := by decide +kernel
theorem dX11_checkpoints_148 : decode cX11_checkpoints 148 = .ok (.sipush 717, 3) := by decide +kernel
theorem dX11_checkpoints_151 : decode cX11_checkpoints 151 = .ok (.iconst 0, 1) := by decide +kernel
theorem dX11_checkpoints_152 : decode cX11_checkpoints 152 = .ok (.iastore, 1) := by decide +kernel
theorem dX11_checkpoints_153 : decode cX11_checkpoints 153 = .ok (.aload_n 0, 1) := by decide +kernel
theorem dX11_checkpoints_154 : decode cX11_checkpoints 154 = .ok (.getfield 7, 3) := by decide +kernel
theorem dX11_checkpoints_157 : decode cX11_checkpoints 157 = .ok (.sipush 718, 3) := by decide +kernel
theorem dX11_checkpoints_160 : decode cX11_checkpoints 160 = .ok (.iconst 0, 1) := by decide +kernel
theorem dX11_checkpoints_161 : decode cX11_checkpoints 161 = .ok (.iastore, 1) := by decide +kernel
theorem dX11_checkpoints_162 : decode cX11_checkpoints 162 = .ok (.return_, 1) := by decide +kernel
theorem dX11_crashes_0 : decode cX11_crashes 0 = .ok (.aload_n 0, 1) := by decide +kernel
theorem dX11_crashes_1 : decode cX11_crashes 1 = .ok (.getfield 7, 3) := by decide +kernel
theorem dX11_crashes_4 : decode cX11_crashes 4 = .ok (.sipush 725, 3) := by decide +kernel
theorem dX11_crashes_7 : decode cX11_crashes 7 = .ok (.iconst 0, 1) := by decide +kernel
theorem dX11_crashes_8 : decode cX11_crashes 8 = .ok (.iastore, 1) := by decide +kernel
theorem dX11_crashes_9 : decode cX11_crashes 9 = .ok (.aload_n 0, 1) := by decide +kernel
theorem dX11_crashes_10 : decode cX11_crashes 10 = .ok (.getfield 7, 3) := by decide +kernel
theorem dX11_crashes_13 : decode cX11_crashes 13 = .ok (.sipush 719, 3) := by decide +kernel
theorem dX11_crashes_16 : decode cX11_crashes 16 = .ok (.iconst 0, 1) := by decide +kernel
theorem dX11_crashes_17 : decode cX11_crashes 17 = .ok (.iastore, 1) := by decide +kernel
theorem dX11_crashes_18 : decode cX11_crashes 18 = .ok (.aload_n 0, 1) := by decide +kernel
theorem dX11_crashes_19 : decode cX11_crashes 19 = .ok (.getfield 7, 3) := by decide +kernel
theorem dX11_crashes_22 : decode cX11_crashes 22 = .ok (.sipush 720, 3) := by decide +kernel
theorem dX11_crashes_25 : decode cX11_crashes 25 = .ok (.iaload, 1) := by decide +kernel
theorem dX11_crashes_26 : decode cX11_crashes 26 = .ok (.ifCond .ne 4, 3) := by decide +kernel
theorem dX11_crashes_29 : decode cX11_crashes 29 = .ok (.return_, 1) := by decide +kernel
theorem dX11_crashes_30 : decode cX11_crashes 30 = .ok (.iconst 0, 1) := by decide +kernel
theorem dX11_crashes_31 : decode cX11_crashes 31 = .ok (.istore_n 1, 1) := by decide +kernel
theorem dX11_crashes_32 : decode cX11_crashes 32 = .ok (.iload_n 1, 1) := by decide +kernel
theorem dX11_crashes_33 : decode cX11_crashes 33 = .ok (.bipush 24, 2) := by decide +kernel
theorem dX11_crashes_35 : decode cX11_crashes 35 = .ok (.if_icmp .ge 29, 3) := by decide +kernel
theorem dX11_crashes_38 : decode cX11_crashes 38 = .ok (.aload_n 0, 1) := by decide +kernel
theorem dX11_crashes_39 : decode cX11_crashes 39 = .ok (.getfield 7, 3) := by decide +kernel
theorem dX11_crashes_42 : decode cX11_crashes 42 = .ok (.sipush 560, 3) := by decide +kernel
theorem dX11_crashes_45 : decode cX11_crashes 45 = .ok (.iload_n 1, 1) := by decide +kernel
theorem dX11_crashes_46 : decode cX11_crashes 46 = .ok (.iadd, 1) := by decide +kernel
theorem dX11_crashes_47 : decode cX11_crashes 47 = .ok (.aload_n 0, 1) := by decide +kernel
theorem dX11_crashes_48 : decode cX11_crashes 48 = .ok (.getfield 7, 3) := by decide +kernel
theorem dX11_crashes_51 : decode cX11_crashes 51 = .ok (.sipush 584, 3) := by decide +kernel
theorem dX11_crashes_54 : decode cX11_crashes 54 = .ok (.iload_n 1, 1) := by decide +kernel
theorem dX11_crashes_55 : decode cX11_crashes 55 = .ok (.iadd, 1) := by decide +kernel
theorem dX11_crashes_56 : decode cX11_crashes 56 = .ok (.iaload, 1) := by decide +kernel
theorem dX11_crashes_57 : decode cX11_crashes 57 = .ok (.iastore, 1) := by decide +kernel
theorem dX11_crashes_58 : decode cX11_crashes 58 = .ok (.iinc 1 1, 3) := by decide +kernel
theorem dX11_crashes_61 : decode cX11_crashes 61 = .ok (.goto (-29), 3) := by decide +kernel
theorem dX11_crashes_64 : decode cX11_crashes 64 = .ok (.aload_n 0, 1) := by decide +kernel
theorem dX11_crashes_65 : decode cX11_crashes 65 = .ok (.getfield 7, 3) := by decide +kernel
theorem dX11_crashes_68 : decode cX11_crashes 68 = .ok (.sipush 719, 3) := by decide +kernel
theorem dX11_crashes_71 : decode cX11_crashes 71 = .ok (.aload_n 0, 1) := by decide +kernel
theorem dX11_crashes_72 : decode cX11_crashes 72 = .ok (.aload_n 0, 1) := by decide +kernel
theorem dX11_crashes_73 : decode cX11_crashes 73 = .ok (.getfield 7, 3) := by decide +kernel
theorem dX11_crashes_76 : decode cX11_crashes 76 = .ok (.sipush 718, 3) := by decide +kernel
theorem dX11_crashes_79 : decode cX11_crashes 79 = .ok (.iaload, 1) := by decide +kernel
theorem dX11_crashes_80 : decode cX11_crashes 80 = .ok (.invokevirtual 78, 3) := by decide +kernel
theorem dX11_crashes_83 : decode cX11_crashes 83 = .ok (.aload_n 0, 1) := by decide +kernel
theorem dX11_crashes_84 : decode cX11_crashes 84 = .ok (.aload_n 0, 1) := by decide +kernel
theorem dX11_crashes_85 : decode cX11_crashes 85 = .ok (.getfield 7, 3) := by decide +kernel
theorem dX11_crashes_88 : decode cX11_crashes 88 = .ok (.sipush 718, 3) := by decide +kernel
theorem dX11_crashes_91 : decode cX11_crashes 91 = .ok (.iaload, 1) := by decide +kernel
theorem dX11_crashes_92 : decode cX11_crashes 92 = .ok (.invokevirtual 81, 3) := by decide +kernel
theorem dX11_crashes_95 : decode cX11_crashes 95 = .ok (.iadd, 1) := by decide +kernel
theorem dX11_crashes_96 : decode cX11_crashes 96 = .ok (.iconst 1, 1) := by decide +kernel
theorem dX11_crashes_97 : decode cX11_crashes 97 = .ok (.iadd, 1) := by decide +kernel
theorem dX11_crashes_98 : decode cX11_crashes 98 = .ok (.iastore, 1) := by decide +kernel
theorem dX11_crashes_99 : decode cX11_crashes 99 = .ok (.return_, 1) := by decide +kernel
theorem dX11_make_0 : decode cX11_make 0 = .ok (.aload_n 0, 1) := by decide +kernel
theorem dX11_make_1 : decode cX11_make 1 = .ok (.iconst 0, 1) := by decide +kernel
theorem dX11_make_2 : decode cX11_make 2 = .ok (.putfield 39, 3) := by decide +kernel
theorem dX11_make_5 : decode cX11_make 5 = .ok (.iload_n 1, 1) := by decide +kernel
theorem dX11_make_6 : decode cX11_make 6 = .ok (.iconst 3, 1) := by decide +kernel
theorem dX11_make_7 : decode cX11_make 7 = .ok (.bipush 6, 2) := by decide +kernel
theorem dX11_make_9 : decode cX11_make 9 = .ok (.invokestatic 114, 3) := by decide +kernel
theorem dX11_make_12 : decode cX11_make 12 = .ok (.ifCond .eq 13, 3) := by decide +kernel
theorem dX11_make_15 : decode cX11_make 15 = .ok (.iload_n 2, 1) := by decide +kernel
theorem dX11_make_16 : decode cX11_make 16 = .ok (.iconst 4, 1) := by decide +kernel
theorem dX11_make_17 : decode cX11_make 17 = .ok (.bipush 40, 2) := by decide +kernel
theorem dX11_make_19 : decode cX11_make 19 = .ok (.invokestatic 114, 3) := by decide +kernel
theorem dX11_make_22 : decode cX11_make 22 = .ok (.ifCond .ne 5, 3) := by decide +kernel
theorem dX11_make_25 : decode cX11_make 25 = .ok (.iconst (-1), 1) := by decide +kernel
theorem dX11_make_26 : decode cX11_make 26 = .ok (.ireturn, 1) := by decide +kernel
theorem dX11_make_27 : decode cX11_make 27 = .ok (.aload_n 0, 1) := by decide +kernel
theorem dX11_make_28 : decode cX11_make 28 = .ok (.iload_n 1, 1) := by decide +kernel
theorem dX11_make_29 : decode cX11_make 29 = .ok (.iload_n 2, 1) := by decide +kernel
theorem dX11_make_30 : decode cX11_make 30 = .ok (.invokevirtual 35, 3) := by decide +kernel
theorem dX11_make_33 : decode cX11_make 33 = .ok (.aload_n 0, 1) := by decide +kernel
theorem dX11_make_34 : decode cX11_make 34 = .ok (.invokevirtual 63, 3) := by decide +kernel
theorem dX11_make_37 : decode cX11_make 37 = .ok (.ireturn, 1) := by decide +kernel
theorem dX11_set_0 : decode cX11_set 0 = .ok (.aload_n 0, 1) := by decide +kernel
theorem dX11_set_1 : decode cX11_set 1 = .ok (.iconst 0, 1) := by decide +kernel
theorem dX11_set_2 : decode cX11_set 2 = .ok (.putfield 39, 3) := by decide +kernel
theorem dX11_set_5 : decode cX11_set 5 = .ok (.iload_n 1, 1) := by decide +kernel
theorem dX11_set_6 : decode cX11_set 6 = .ok (.ifCond .ne 22, 3) := by decide +kernel
theorem dX11_set_9 : decode cX11_set 9 = .ok (.iload_n 2, 1) := by decide +kernel
theorem dX11_set_10 : decode cX11_set 10 = .ok (.iconst 1, 1) := by decide +kernel
theorem dX11_set_11 : decode cX11_set 11 = .ok (.iconst 4, 1) := by decide +kernel
theorem dX11_set_12 : decode cX11_set 12 = .ok (.invokestatic 114, 3) := by decide +kernel
theorem dX11_set_15 : decode cX11_set 15 = .ok (.ifCond .eq 46, 3) := by decide +kernel
theorem dX11_set_18 : decode cX11_set 18 = .ok (.aload_n 0, 1) := by decide +kernel
theorem dX11_set_19 : decode cX11_set 19 = .ok (.invokevirtual 88, 3) := by decide +kernel
theorem dX11_set_22 : decode cX11_set 22 = .ok (.ifCond .eq 41, 3) := by decide +kernel
theorem dX11_set_25 : decode cX11_set 25 = .ok (.goto 36, 3) := by decide +kernel
theorem dX11_set_28 : decode cX11_set 28 = .ok (.iload_n 1, 1) := by decide +kernel
theorem dX11_set_29 : decode cX11_set 29 = .ok (.iconst 1, 1) := by decide +kernel
theorem dX11_set_30 : decode cX11_set 30 = .ok (.if_icmp .ne 16, 3) := by decide +kernel
theorem dX11_set_33 : decode cX11_set 33 = .ok (.iload_n 2, 1) := by decide +kernel
theorem dX11_set_34 : decode cX11_set 34 = .ok (.iconst 0, 1) := by decide +kernel
theorem dX11_set_35 : decode cX11_set 35 = .ok (.bipush 20, 2) := by decide +kernel
theorem dX11_set_37 : decode cX11_set 37 = .ok (.invokestatic 114, 3) := by decide +kernel
theorem dX11_set_40 : decode cX11_set 40 = .ok (.ifCond .ne 23, 3) := by decide +kernel
theorem dX11_set_43 : decode cX11_set 43 = .ok (.goto 18, 3) := by decide +kernel
theorem dX11_set_46 : decode cX11_set 46 = .ok (.iload_n 1, 1) := by decide +kernel
theorem dX11_set_47 : decode cX11_set 47 = .ok (.iconst 2, 1) := by decide +kernel
theorem dX11_set_48 : decode cX11_set 48 = .ok (.if_icmp .ne 13, 3) := by decide +kernel
theorem dX11_set_51 : decode cX11_set 51 = .ok (.iload_n 2, 1) := by decide +kernel
theorem dX11_set_52 : decode cX11_set 52 = .ok (.iconst 1, 1) := by decide +kernel
theorem dX11_set_53 : decode cX11_set 53 = .ok (.bipush 60, 2) := by decide +kernel
theorem dX11_set_55 : decode cX11_set 55 = .ok (.invokestatic 114, 3) := by decide +kernel
theorem dX11_set_58 : decode cX11_set 58 = .ok (.ifCond .ne 5, 3) := by decide +kernel
theorem dX11_set_61 : decode cX11_set 61 = .ok (.iconst (-1), 1) := by decide +kernel
theorem dX11_set_62 : decode cX11_set 62 = .ok (.ireturn, 1) := by decide +kernel
theorem dX11_set_63 : decode cX11_set 63 = .ok (.aload_n 0, 1) := by decide +kernel
theorem dX11_set_64 : decode cX11_set 64 = .ok (.getfield 7, 3) := by decide +kernel
theorem dX11_set_67 : decode cX11_set 67 = .ok (.sipush 722, 3) := by decide +kernel
theorem dX11_set_70 : decode cX11_set 70 = .ok (.iload_n 1, 1) := by decide +kernel
theorem dX11_set_71 : decode cX11_set 71 = .ok (.iadd, 1) := by decide +kernel
theorem dX11_set_72 : decode cX11_set 72 = .ok (.iaload, 1) := by decide +kernel
theorem dX11_set_73 : decode cX11_set 73 = .ok (.istore_n 3, 1) := by decide +kernel
theorem dX11_set_74 : decode cX11_set 74 = .ok (.aload_n 0, 1) := by decide +kernel
theorem dX11_set_75 : decode cX11_set 75 = .ok (.getfield 7, 3) := by decide +kernel
theorem dX11_set_78 : decode cX11_set 78 = .ok (.sipush 722, 3) := by decide +kernel
theorem dX11_set_81 : decode cX11_set 81 = .ok (.iload_n 1, 1) := by decide +kernel
theorem dX11_set_82 : decode cX11_set 82 = .ok (.iadd, 1) := by decide +kernel
theorem dX11_set_83 : decode cX11_set 83 = .ok (.iload_n 2, 1) := by decide +kernel
theorem dX11_set_84 : decode cX11_set 84 = .ok (.iastore, 1) := by decide +kernel
theorem dX11_set_85 : decode cX11_set 85 = .ok (.iload_n 3, 1) := by decide +kernel
theorem dX11_set_86 : decode cX11_set 86 = .ok (.ireturn, 1) := by decide +kernel
theorem dX11_grow_0 : decode cX11_grow 0 = .ok (.aload_n 0, 1) := by decide +kernel
theorem dX11_grow_1 : decode cX11_grow 1 = .ok (.iconst 0, 1) := by decide +kernel
theorem dX11_grow_2 : decode cX11_grow 2 = .ok (.putfield 39, 3) := by decide +kernel
theorem dX11_grow_5 : decode cX11_grow 5 = .ok (.aload_n 0, 1) := by decide +kernel
theorem dX11_grow_6 : decode cX11_grow 6 = .ok (.invokevirtual 84, 3) := by decide +kernel
theorem dX11_grow_9 : decode cX11_grow 9 = .ok (.ifCond .ne 27, 3) := by decide +kernel
theorem dX11_grow_12 : decode cX11_grow 12 = .ok (.aload_n 0, 1) := by decide +kernel
theorem dX11_grow_13 : decode cX11_grow 13 = .ok (.getfield 7, 3) := by decide +kernel
theorem dX11_grow_16 : decode cX11_grow 16 = .ok (.sipush 715, 3) := by decide +kernel
theorem dX11_grow_19 : decode cX11_grow 19 = .ok (.iaload, 1) := by decide +kernel
theorem dX11_grow_20 : decode cX11_grow 20 = .ok (.bipush 7, 2) := by decide +kernel
theorem dX11_grow_22 : decode cX11_grow 22 = .ok (.if_icmp .eq 14, 3) := by decide +kernel
theorem dX11_grow_25 : decode cX11_grow 25 = .ok (.aload_n 0, 1) := by decide +kernel
theorem dX11_grow_26 : decode cX11_grow 26 = .ok (.getfield 7, 3) := by decide +kernel
theorem dX11_grow_29 : decode cX11_grow 29 = .ok (.sipush 721, 3) := by decide +kernel
theorem dX11_grow_32 : decode cX11_grow 32 = .ok (.iaload, 1) := by decide +kernel
theorem dX11_grow_33 : decode cX11_grow 33 = .ok (.ifCond .lt 5, 3) := by decide +kernel
theorem dX11_grow_36 : decode cX11_grow 36 = .ok (.iconst (-1), 1) := by decide +kernel
theorem dX11_grow_37 : decode cX11_grow 37 = .ok (.ireturn, 1) := by decide +kernel
theorem dX11_grow_38 : decode cX11_grow 38 = .ok (.iconst 0, 1) := by decide +kernel
theorem dX11_grow_39 : decode cX11_grow 39 = .ok (.istore_n 1, 1) := by decide +kernel
theorem dX11_grow_40 : decode cX11_grow 40 = .ok (.iload_n 1, 1) := by decide +kernel
theorem dX11_grow_41 : decode cX11_grow 41 = .ok (.bipush 40, 2) := by decide +kernel
theorem dX11_grow_43 : decode cX11_grow 43 = .ok (.if_icmp .ge 51, 3) := by decide +kernel
theorem dX11_grow_46 : decode cX11_grow 46 = .ok (.aload_n 0, 1) := by decide +kernel
theorem dX11_grow_47 : decode cX11_grow 47 = .ok (.getfield 7, 3) := by decide +kernel
theorem dX11_grow_50 : decode cX11_grow 50 = .ok (.iconst 0, 1) := by decide +kernel
theorem dX11_grow_51 : decode cX11_grow 51 = .ok (.aload_n 0, 1) := by decide +kernel
theorem dX11_grow_52 : decode cX11_grow 52 = .ok (.getfield 7, 3) := by decide +kernel
theorem dX11_grow_55 : decode cX11_grow 55 = .ok (.sipush 715, 3) := by decide +kernel
theorem dX11_grow_58 : decode cX11_grow 58 = .ok (.iaload, 1) := by decide +kernel
theorem dX11_grow_59 : decode cX11_grow 59 = .ok (.iload_n 1, 1) := by decide +kernel
theorem dX11_grow_60 : decode cX11_grow 60 = .ok (.invokestatic 50, 3) := by decide +kernel
theorem dX11_grow_63 : decode cX11_grow 63 = .ok (.iadd, 1) := by decide +kernel
theorem dX11_grow_64 : decode cX11_grow 64 = .ok (.iconst 0, 1) := by decide +kernel
theorem dX11_grow_65 : decode cX11_grow 65 = .ok (.iastore, 1) := by decide +kernel
theorem dX11_grow_66 : decode cX11_grow 66 = .ok (.aload_n 0, 1) := by decide +kernel
theorem dX11_grow_67 : decode cX11_grow 67 = .ok (.getfield 7, 3) := by decide +kernel
theorem dX11_grow_70 : decode cX11_grow 70 = .ok (.sipush 280, 3) := by decide +kernel
theorem dX11_grow_73 : decode cX11_grow 73 = .ok (.aload_n 0, 1) := by decide +kernel
theorem dX11_grow_74 : decode cX11_grow 74 = .ok (.getfield 7, 3) := by decide +kernel
theorem dX11_grow_77 : decode cX11_grow 77 = .ok (.sipush 715, 3) := by decide +kernel
theorem dX11_grow_80 : decode cX11_grow 80 = .ok (.iaload, 1) := by decide +kernel
theorem dX11_grow_81 : decode cX11_grow 81 = .ok (.iload_n 1, 1) := by decide +kernel
theorem dX11_grow_82 : decode cX11_grow 82 = .ok (.invokestatic 50, 3) := by decide +kernel
theorem dX11_grow_85 : decode cX11_grow 85 = .ok (.iadd, 1) := by decide +kernel
theorem dX11_grow_86 : decode cX11_grow 86 = .ok (.iconst 0, 1) := by decide +kernel
theorem dX11_grow_87 : decode cX11_grow 87 = .ok (.iastore, 1) := by decide +kernel
theorem dX11_grow_88 : decode cX11_grow 88 = .ok (.iinc 1 1, 3) := by decide +kernel
theorem dX11_grow_91 : decode cX11_grow 91 = .ok (.goto (-51), 3) := by decide +kernel
theorem dX11_grow_94 : decode cX11_grow 94 = .ok (.aload_n 0, 1) := by decide +kernel
theorem dX11_grow_95 : decode cX11_grow 95 = .ok (.getfield 7, 3) := by decide +kernel
theorem dX11_grow_98 : decode cX11_grow 98 = .ok (.sipush 717, 3) := by decide +kernel
theorem dX11_grow_101 : decode cX11_grow 101 = .ok (.iconst 1, 1) := by decide +kernel
theorem dX11_grow_102 : decode cX11_grow 102 = .ok (.iastore, 1) := by decide +kernel
theorem dX11_grow_103 : decode cX11_grow 103 = .ok (.aload_n 0, 1) := by decide +kernel
theorem dX11_grow_104 : decode cX11_grow 104 = .ok (.getfield 7, 3) := by decide +kernel
theorem dX11_grow_107 : decode cX11_grow 107 = .ok (.sipush 718, 3) := by decide +kernel
theorem dX11_grow_110 : decode cX11_grow 110 = .ok (.iconst 0, 1) := by decide +kernel
theorem dX11_grow_111 : decode cX11_grow 111 = .ok (.iastore, 1) := by decide +kernel
theorem dX11_grow_112 : decode cX11_grow 112 = .ok (.aload_n 0, 1) := by decide +kernel
theorem dX11_grow_113 : decode cX11_grow 113 = .ok (.getfield 7, 3) := by decide +kernel
theorem dX11_grow_116 : decode cX11_grow 116 = .ok (.sipush 719, 3) := by decide +kernel
theorem dX11_grow_119 : decode cX11_grow 119 = .ok (.iconst 0, 1) := by decide +kernel
theorem dX11_grow_120 : decode cX11_grow 120 = .ok (.iastore, 1) := by decide +kernel
theorem dX11_grow_121 : decode cX11_grow 121 = .ok (.aload_n 0, 1) := by decide +kernel
theorem dX11_grow_122 : decode cX11_grow 122 = .ok (.getfield 7, 3) := by decide +kernel
theorem dX11_grow_125 : decode cX11_grow 125 = .ok (.sipush 720, 3) := by decide +kernel
theorem dX11_grow_128 : decode cX11_grow 128 = .ok (.iconst 0, 1) := by decide +kernel
theorem dX11_grow_129 : decode cX11_grow 129 = .ok (.iastore, 1) := by decide +kernel
theorem dX11_grow_130 : decode cX11_grow 130 = .ok (.aload_n 0, 1) := by decide +kernel
theorem dX11_grow_131 : decode cX11_grow 131 = .ok (.invokevirtual 67, 3) := by decide +kernel
theorem dX11_grow_134 : decode cX11_grow 134 = .ok (.ireturn, 1) := by decide +kernel
theorem dX11_stepsDone_0 : decode cX11_stepsDone 0 = .ok (.iconst 0, 1) := by decide +kernel
theorem dX11_stepsDone_1 : decode cX11_stepsDone 1 = .ok (.istore_n 2, 1) := by decide +kernel
theorem dX11_stepsDone_2 : decode cX11_stepsDone 2 = .ok (.iload_n 2, 1) := by decide +kernel
theorem dX11_stepsDone_3 : decode cX11_stepsDone 3 = .ok (.iload_n 1, 1) := by decide +kernel
theorem dX11_stepsDone_4 : decode cX11_stepsDone 4 = .ok (.if_icmp .ge 23, 3) := by decide +kernel
theorem dX11_stepsDone_7 : decode cX11_stepsDone 7 = .ok (.aload_n 0, 1) := by decide +kernel
theorem dX11_stepsDone_8 : decode cX11_stepsDone 8 = .ok (.invokevirtual 84, 3) := by decide +kernel
theorem dX11_stepsDone_11 : decode cX11_stepsDone 11 = .ok (.ifCond .eq 16, 3) := by decide +kernel
theorem dX11_stepsDone_14 : decode cX11_stepsDone 14 = .ok (.aload_n 0, 1) := by decide +kernel
theorem dX11_stepsDone_15 : decode cX11_stepsDone 15 = .ok (.invokevirtual 117, 3) := by decide +kernel
theorem dX11_stepsDone_18 : decode cX11_stepsDone 18 = .ok (.ifCond .eq 9, 3) := by decide +kernel
theorem dX11_stepsDone_21 : decode cX11_stepsDone 21 = .ok (.iinc 2 1, 3) := by decide +kernel
theorem dX11_stepsDone_24 : decode cX11_stepsDone 24 = .ok (.goto (-22), 3) := by decide +kernel
theorem dX11_stepsDone_27 : decode cX11_stepsDone 27 = .ok (.iload_n 2, 1) := by decide +kernel
theorem dX11_stepsDone_28 : decode cX11_stepsDone 28 = .ok (.ireturn, 1) := by decide +kernel
theorem dX11_steps_0 : decode cX11_steps 0 = .ok (.aload_n 0, 1) := by decide +kernel
theorem dX11_steps_1 : decode cX11_steps 1 = .ok (.iconst 0, 1) := by decide +kernel
theorem dX11_steps_2 : decode cX11_steps 2 = .ok (.putfield 39, 3) := by decide +kernel
theorem dX11_steps_5 : decode cX11_steps 5 = .ok (.iload_n 1, 1) := by decide +kernel
theorem dX11_steps_6 : decode cX11_steps 6 = .ok (.iconst 1, 1) := by decide +kernel
theorem dX11_steps_7 : decode cX11_steps 7 = .ok (.sipush 400, 3) := by decide +kernel
theorem dX11_steps_10 : decode cX11_steps 10 = .ok (.invokestatic 114, 3) := by decide +kernel
theorem dX11_steps_13 : decode cX11_steps 13 = .ok (.ifCond .eq 18, 3) := by decide +kernel
theorem dX11_steps_16 : decode cX11_steps 16 = .ok (.aload_n 0, 1) := by decide +kernel
theorem dX11_steps_17 : decode cX11_steps 17 = .ok (.invokevirtual 84, 3) := by decide +kernel
theorem dX11_steps_20 : decode cX11_steps 20 = .ok (.ifCond .eq 11, 3) := by decide +kernel
theorem dX11_steps_23 : decode cX11_steps 23 = .ok (.aload_n 0, 1) := by decide +kernel
theorem dX11_steps_24 : decode cX11_steps 24 = .ok (.iload_n 1, 1) := by decide +kernel
theorem dX11_steps_25 : decode cX11_steps 25 = .ok (.invokevirtual 120, 3) := by decide +kernel
theorem dX11_steps_28 : decode cX11_steps 28 = .ok (.goto 4, 3) := by decide +kernel
theorem dX11_steps_31 : decode cX11_steps 31 = .ok (.iconst (-1), 1) := by decide +kernel
theorem dX11_steps_32 : decode cX11_steps 32 = .ok (.ireturn, 1) := by decide +kernel
theorem dX11_crash_0 : decode cX11_crash 0 = .ok (.aload_n 0, 1) := by decide +kernel
theorem dX11_crash_1 : decode cX11_crash 1 = .ok (.iconst 0, 1) := by decide +kernel
theorem dX11_crash_2 : decode cX11_crash 2 = .ok (.putfield 39, 3) := by decide +kernel
theorem dX11_crash_5 : decode cX11_crash 5 = .ok (.aload_n 0, 1) := by decide +kernel
theorem dX11_crash_6 : decode cX11_crash 6 = .ok (.invokevirtual 84, 3) := by decide +kernel
theorem dX11_crash_9 : decode cX11_crash 9 = .ok (.ifCond .ne 5, 3) := by decide +kernel
theorem dX11_crash_12 : decode cX11_crash 12 = .ok (.iconst 0, 1) := by decide +kernel
theorem dX11_crash_13 : decode cX11_crash 13 = .ok (.ireturn, 1) := by decide +kernel
theorem dX11_crash_14 : decode cX11_crash 14 = .ok (.aload_n 0, 1) := by decide +kernel
theorem dX11_crash_15 : decode cX11_crash 15 = .ok (.invokevirtual 123, 3) := by decide +kernel
theorem dX11_crash_18 : decode cX11_crash 18 = .ok (.iconst 1, 1) := by decide +kernel
theorem dX11_crash_19 : decode cX11_crash 19 = .ok (.ireturn, 1) := by decide +kernel
theorem dX11_isBlock_0 : decode cX11_isBlock 0 = .ok (.iload_n 1, 1) := by decide +kernel
theorem dX11_isBlock_1 : decode cX11_isBlock 1 = .ok (.iconst 0, 1) := by decide +kernel
theorem dX11_isBlock_2 : decode cX11_isBlock 2 = .ok (.aload_n 0, 1) := by decide +kernel
theorem dX11_isBlock_3 : decode cX11_isBlock 3 = .ok (.invokevirtual 63, 3) := by decide +kernel
theorem dX11_isBlock_6 : decode cX11_isBlock 6 = .ok (.iconst 1, 1) := by decide +kernel
theorem dX11_isBlock_7 : decode cX11_isBlock 7 = .ok (.isub, 1) := by decide +kernel
theorem dX11_isBlock_8 : decode cX11_isBlock 8 = .ok (.invokestatic 114, 3) := by decide +kernel
theorem dX11_isBlock_11 : decode cX11_isBlock 11 = .ok (.ireturn, 1) := by decide +kernel
theorem dX11_isNew_0 : decode cX11_isNew 0 = .ok (.aload_n 0, 1) := by decide +kernel
theorem dX11_isNew_1 : decode cX11_isNew 1 = .ok (.invokevirtual 84, 3) := by decide +kernel
theorem dX11_isNew_4 : decode cX11_isNew 4 = .ok (.ifCond .eq 28, 3) := by decide +kernel
theorem dX11_isNew_7 : decode cX11_isNew 7 = .ok (.iload_n 1, 1) := by decide +kernel
theorem dX11_isNew_8 : decode cX11_isNew 8 = .ok (.aload_n 0, 1) := by decide +kernel
theorem dX11_isNew_9 : decode cX11_isNew 9 = .ok (.getfield 7, 3) := by decide +kernel
theorem dX11_isNew_12 : decode cX11_isNew 12 = .ok (.sipush 718, 3) := by decide +kernel
theorem dX11_isNew_15 : decode cX11_isNew 15 = .ok (.iaload, 1) := by decide +kernel
theorem dX11_isNew_16 : decode cX11_isNew 16 = .ok (.aload_n 0, 1) := by decide +kernel
theorem dX11_isNew_17 : decode cX11_isNew 17 = .ok (.getfield 7, 3) := by decide +kernel
theorem dX11_isNew_20 : decode cX11_isNew 20 = .ok (.sipush 715, 3) := by decide +kernel
theorem dX11_isNew_23 : decode cX11_isNew 23 = .ok (.iaload, 1) := by decide +kernel
theorem dX11_isNew_24 : decode cX11_isNew 24 = .ok (.imul, 1) := by decide +kernel
theorem dX11_isNew_25 : decode cX11_isNew 25 = .ok (.if_icmp .ge 7, 3) := by decide +kernel
theorem dX11_isNew_28 : decode cX11_isNew 28 = .ok (.iconst 1, 1) := by decide +kernel
theorem dX11_isNew_29 : decode cX11_isNew 29 = .ok (.goto 4, 3) := by decide +kernel
theorem dX11_isNew_32 : decode cX11_isNew 32 = .ok (.iconst 0, 1) := by decide +kernel
theorem dX11_isNew_33 : decode cX11_isNew 33 = .ok (.ireturn, 1) := by decide +kernel
theorem dX11_layoutOf_0 : decode cX11_layoutOf 0 = .ok (.aload_n 0, 1) := by decide +kernel
theorem dX11_layoutOf_1 : decode cX11_layoutOf 1 = .ok (.iload_n 1, 1) := by decide +kernel
theorem dX11_layoutOf_2 : decode cX11_layoutOf 2 = .ok (.invokevirtual 126, 3) := by decide +kernel
theorem dX11_layoutOf_5 : decode cX11_layoutOf 5 = .ok (.ifCond .eq 16, 3) := by decide +kernel
theorem dX11_layoutOf_8 : decode cX11_layoutOf 8 = .ok (.aload_n 0, 1) := by decide +kernel
theorem dX11_layoutOf_9 : decode cX11_layoutOf 9 = .ok (.getfield 7, 3) := by decide +kernel
theorem dX11_layoutOf_12 : decode cX11_layoutOf 12 = .ok (.sipush 715, 3) := by decide +kernel
theorem dX11_layoutOf_15 : decode cX11_layoutOf 15 = .ok (.iaload, 1) := by decide +kernel
theorem dX11_layoutOf_16 : decode cX11_layoutOf 16 = .ok (.iconst 1, 1) := by decide +kernel
theorem dX11_layoutOf_17 : decode cX11_layoutOf 17 = .ok (.iadd, 1) := by decide +kernel
theorem dX11_layoutOf_18 : decode cX11_layoutOf 18 = .ok (.goto 11, 3) := by decide +kernel
theorem dX11_layoutOf_21 : decode cX11_layoutOf 21 = .ok (.aload_n 0, 1) := by decide +kernel
theorem dX11_layoutOf_22 : decode cX11_layoutOf 22 = .ok (.getfield 7, 3) := by decide +kernel
theorem dX11_layoutOf_25 : decode cX11_layoutOf 25 = .ok (.sipush 715, 3) := by decide +kernel
theorem dX11_layoutOf_28 : decode cX11_layoutOf 28 = .ok (.iaload, 1) := by decide +kernel
theorem dX11_layoutOf_29 : decode cX11_layoutOf 29 = .ok (.ireturn, 1) := by decide +kernel
theorem dX11_readsBlock_0 : decode cX11_readsBlock 0 = .ok (.aload_n 0, 1) := by decide +kernel
theorem dX11_readsBlock_1 : decode cX11_readsBlock 1 = .ok (.iload_n 1, 1) := by decide +kernel
theorem dX11_readsBlock_2 : decode cX11_readsBlock 2 = .ok (.invokevirtual 129, 3) := by decide +kernel
theorem dX11_readsBlock_5 : decode cX11_readsBlock 5 = .ok (.ifCond .eq 49, 3) := by decide +kernel
theorem dX11_readsBlock_8 : decode cX11_readsBlock 8 = .ok (.aload_n 0, 1) := by decide +kernel
theorem dX11_readsBlock_9 : decode cX11_readsBlock 9 = .ok (.invokevirtual 132, 3) := by decide +kernel
theorem dX11_readsBlock_12 : decode cX11_readsBlock 12 = .ok (.ifCond .eq 42, 3) := by decide +kernel
theorem dX11_readsBlock_15 : decode cX11_readsBlock 15 = .ok (.aload_n 0, 1) := by decide +kernel
theorem dX11_readsBlock_16 : decode cX11_readsBlock 16 = .ok (.aload_n 0, 1) := by decide +kernel
theorem dX11_readsBlock_17 : decode cX11_readsBlock 17 = .ok (.getfield 7, 3) := by decide +kernel
theorem dX11_readsBlock_20 : decode cX11_readsBlock 20 = .ok (.sipush 560, 3) := by decide +kernel
theorem dX11_readsBlock_23 : decode cX11_readsBlock 23 = .ok (.iload_n 1, 1) := by decide +kernel
theorem dX11_readsBlock_24 : decode cX11_readsBlock 24 = .ok (.iadd, 1) := by decide +kernel
theorem dX11_readsBlock_25 : decode cX11_readsBlock 25 = .ok (.aload_n 0, 1) := by decide +kernel
theorem dX11_readsBlock_26 : decode cX11_readsBlock 26 = .ok (.getfield 7, 3) := by decide +kernel
theorem dX11_readsBlock_29 : decode cX11_readsBlock 29 = .ok (.sipush 718, 3) := by decide +kernel
theorem dX11_readsBlock_32 : decode cX11_readsBlock 32 = .ok (.iaload, 1) := by decide +kernel
theorem dX11_readsBlock_33 : decode cX11_readsBlock 33 = .ok (.aload_n 0, 1) := by decide +kernel
theorem dX11_readsBlock_34 : decode cX11_readsBlock 34 = .ok (.getfield 7, 3) := by decide +kernel
theorem dX11_readsBlock_37 : decode cX11_readsBlock 37 = .ok (.sipush 715, 3) := by decide +kernel
theorem dX11_readsBlock_40 : decode cX11_readsBlock 40 = .ok (.iaload, 1) := by decide +kernel
theorem dX11_readsBlock_41 : decode cX11_readsBlock 41 = .ok (.imul, 1) := by decide +kernel
theorem dX11_readsBlock_42 : decode cX11_readsBlock 42 = .ok (.isub, 1) := by decide +kernel
theorem dX11_readsBlock_43 : decode cX11_readsBlock 43 = .ok (.iaload, 1) := by decide +kernel
theorem dX11_readsBlock_44 : decode cX11_readsBlock 44 = .ok (.putfield 53, 3) := by decide +kernel
theorem dX11_readsBlock_47 : decode cX11_readsBlock 47 = .ok (.aload_n 0, 1) := by decide +kernel
theorem dX11_readsBlock_48 : decode cX11_readsBlock 48 = .ok (.iconst 0, 1) := by decide +kernel
theorem dX11_readsBlock_49 : decode cX11_readsBlock 49 = .ok (.putfield 56, 3) := by decide +kernel
theorem dX11_readsBlock_52 : decode cX11_readsBlock 52 = .ok (.iconst 1, 1) := by decide +kernel
theorem dX11_readsBlock_53 : decode cX11_readsBlock 53 = .ok (.ireturn, 1) := by decide +kernel
theorem dX11_readsBlock_54 : decode cX11_readsBlock 54 = .ok (.aload_n 0, 1) := by decide +kernel
theorem dX11_readsBlock_55 : decode cX11_readsBlock 55 = .ok (.iload_n 1, 1) := by decide +kernel
theorem dX11_readsBlock_56 : decode cX11_readsBlock 56 = .ok (.invokevirtual 135, 3) := by decide +kernel
theorem dX11_readsBlock_59 : decode cX11_readsBlock 59 = .ok (.istore_n 2, 1) := by decide +kernel
theorem dX11_readsBlock_60 : decode cX11_readsBlock 60 = .ok (.aload_n 0, 1) := by decide +kernel
theorem dX11_readsBlock_61 : decode cX11_readsBlock 61 = .ok (.iload_n 2, 1) := by decide +kernel
theorem dX11_readsBlock_62 : decode cX11_readsBlock 62 = .ok (.iload_n 2, 1) := by decide +kernel
theorem dX11_readsBlock_63 : decode cX11_readsBlock 63 = .ok (.iload_n 1, 1) := by decide +kernel
theorem dX11_readsBlock_64 : decode cX11_readsBlock 64 = .ok (.invokestatic 91, 3) := by decide +kernel
theorem dX11_readsBlock_67 : decode cX11_readsBlock 67 = .ok (.iload_n 2, 1) := by decide +kernel
theorem dX11_readsBlock_68 : decode cX11_readsBlock 68 = .ok (.iload_n 1, 1) := by decide +kernel
theorem dX11_readsBlock_69 : decode cX11_readsBlock 69 = .ok (.invokestatic 94, 3) := by decide +kernel
theorem dX11_readsBlock_72 : decode cX11_readsBlock 72 = .ok (.invokevirtual 97, 3) := by decide +kernel
theorem dX11_readsBlock_75 : decode cX11_readsBlock 75 = .ok (.ireturn, 1) := by decide +kernel
theorem dX11_read_0 : decode cX11_read 0 = .ok (.aload_n 0, 1) := by decide +kernel
theorem dX11_read_1 : decode cX11_read 1 = .ok (.aload_n 0, 1) := by decide +kernel
theorem dX11_read_2 : decode cX11_read 2 = .ok (.iload_n 1, 1) := by decide +kernel
theorem dX11_read_3 : decode cX11_read 3 = .ok (.invokevirtual 138, 3) := by decide +kernel
theorem dX11_read_6 : decode cX11_read 6 = .ok (.ifCond .eq 15, 3) := by decide +kernel
theorem dX11_read_9 : decode cX11_read 9 = .ok (.aload_n 0, 1) := by decide +kernel
theorem dX11_read_10 : decode cX11_read 10 = .ok (.iload_n 1, 1) := by decide +kernel
theorem dX11_read_11 : decode cX11_read 11 = .ok (.invokevirtual 141, 3) := by decide +kernel
theorem dX11_read_14 : decode cX11_read 14 = .ok (.ifCond .eq 7, 3) := by decide +kernel
theorem dX11_read_17 : decode cX11_read 17 = .ok (.iconst 0, 1) := by decide +kernel
theorem dX11_read_18 : decode cX11_read 18 = .ok (.goto 4, 3) := by decide +kernel
theorem dX11_read_21 : decode cX11_read 21 = .ok (.iconst 1, 1) := by decide +kernel
theorem dX11_read_22 : decode cX11_read 22 = .ok (.putfield 39, 3) := by decide +kernel
theorem dX11_read_25 : decode cX11_read 25 = .ok (.aload_n 0, 1) := by decide +kernel
theorem dX11_read_26 : decode cX11_read 26 = .ok (.getfield 39, 3) := by decide +kernel
theorem dX11_read_29 : decode cX11_read 29 = .ok (.ifCond .ne 10, 3) := by decide +kernel
theorem dX11_read_32 : decode cX11_read 32 = .ok (.aload_n 0, 1) := by decide +kernel
theorem dX11_read_33 : decode cX11_read 33 = .ok (.getfield 53, 3) := by decide +kernel
theorem dX11_read_36 : decode cX11_read 36 = .ok (.goto 4, 3) := by decide +kernel
theorem dX11_read_39 : decode cX11_read 39 = .ok (.iconst 0, 1) := by decide +kernel
theorem dX11_read_40 : decode cX11_read 40 = .ok (.ireturn, 1) := by decide +kernel
theorem dX11_writesBlock_0 : decode cX11_writesBlock 0 = .ok (.aload_n 0, 1) := by decide +kernel
theorem dX11_writesBlock_1 : decode cX11_writesBlock 1 = .ok (.iload_n 1, 1) := by decide +kernel
theorem dX11_writesBlock_2 : decode cX11_writesBlock 2 = .ok (.invokevirtual 129, 3) := by decide +kernel
theorem dX11_writesBlock_5 : decode cX11_writesBlock 5 = .ok (.ifCond .eq 6, 3) := by decide +kernel
theorem dX11_writesBlock_8 : decode cX11_writesBlock 8 = .ok (.bipush (-3), 2) := by decide +kernel
theorem dX11_writesBlock_10 : decode cX11_writesBlock 10 = .ok (.ireturn, 1) := by decide +kernel
theorem dX11_writesBlock_11 : decode cX11_writesBlock 11 = .ok (.aload_n 0, 1) := by decide +kernel
theorem dX11_writesBlock_12 : decode cX11_writesBlock 12 = .ok (.iload_n 1, 1) := by decide +kernel
theorem dX11_writesBlock_13 : decode cX11_writesBlock 13 = .ok (.invokevirtual 135, 3) := by decide +kernel
theorem dX11_writesBlock_16 : decode cX11_writesBlock 16 = .ok (.istore_n 3, 1) := by decide +kernel
theorem dX11_writesBlock_17 : decode cX11_writesBlock 17 = .ok (.iload_n 3, 1) := by decide +kernel
theorem dX11_writesBlock_18 : decode cX11_writesBlock 18 = .ok (.iload_n 1, 1) := by decide +kernel
theorem dX11_writesBlock_19 : decode cX11_writesBlock 19 = .ok (.invokestatic 94, 3) := by decide +kernel
theorem dX11_writesBlock_22 : decode cX11_writesBlock 22 = .ok (.istore 4, 2) := by decide +kernel
theorem dX11_writesBlock_24 : decode cX11_writesBlock 24 = .ok (.iload_n 3, 1) := by decide +kernel
theorem dX11_writesBlock_25 : decode cX11_writesBlock 25 = .ok (.iload_n 1, 1) := by decide +kernel
theorem dX11_writesBlock_26 : decode cX11_writesBlock 26 = .ok (.invokestatic 91, 3) := by decide +kernel
theorem dX11_writesBlock_29 : decode cX11_writesBlock 29 = .ok (.istore 5, 2) := by decide +kernel
theorem dX11_writesBlock_31 : decode cX11_writesBlock 31 = .ok (.iload_n 3, 1) := by decide +kernel
theorem dX11_writesBlock_32 : decode cX11_writesBlock 32 = .ok (.iload 4, 2) := by decide +kernel
theorem dX11_writesBlock_34 : decode cX11_writesBlock 34 = .ok (.invokestatic 46, 3) := by decide +kernel
theorem dX11_writesBlock_37 : decode cX11_writesBlock 37 = .ok (.istore 6, 2) := by decide +kernel
theorem dX11_writesBlock_39 : decode cX11_writesBlock 39 = .ok (.iload_n 2, 1) := by decide +kernel
theorem dX11_writesBlock_40 : decode cX11_writesBlock 40 = .ok (.istore 7, 2) := by decide +kernel
theorem dX11_writesBlock_42 : decode cX11_writesBlock 42 = .ok (.iconst 0, 1) := by decide +kernel
theorem dX11_writesBlock_43 : decode cX11_writesBlock 43 = .ok (.istore 8, 2) := by decide +kernel
theorem dX11_writesBlock_45 : decode cX11_writesBlock 45 = .ok (.iload 8, 2) := by decide +kernel
theorem dX11_writesBlock_47 : decode cX11_writesBlock 47 = .ok (.iload_n 3, 1) := by decide +kernel
theorem dX11_writesBlock_48 : decode cX11_writesBlock 48 = .ok (.if_icmp .ge 49, 3) := by decide +kernel
theorem dX11_writesBlock_51 : decode cX11_writesBlock 51 = .ok (.iload 8, 2) := by decide +kernel
theorem dX11_writesBlock_53 : decode cX11_writesBlock 53 = .ok (.iload 5, 2) := by decide +kernel
theorem dX11_writesBlock_55 : decode cX11_writesBlock 55 = .ok (.if_icmp .eq 36, 3) := by decide +kernel
theorem dX11_writesBlock_58 : decode cX11_writesBlock 58 = .ok (.iload 8, 2) := by decide +kernel
theorem dX11_writesBlock_60 : decode cX11_writesBlock 60 = .ok (.iload 6, 2) := by decide +kernel
theorem dX11_writesBlock_62 : decode cX11_writesBlock 62 = .ok (.if_icmp .ne 6, 3) := by decide +kernel
theorem dX11_writesBlock_65 : decode cX11_writesBlock 65 = .ok (.goto 26, 3) := by decide +kernel
theorem dX11_writesBlock_68 : decode cX11_writesBlock 68 = .ok (.aload_n 0, 1) := by decide +kernel
theorem dX11_writesBlock_69 : decode cX11_writesBlock 69 = .ok (.iload_n 3, 1) := by decide +kernel
theorem dX11_writesBlock_70 : decode cX11_writesBlock 70 = .ok (.iload 8, 2) := by decide +kernel
theorem dX11_writesBlock_72 : decode cX11_writesBlock 72 = .ok (.iload 4, 2) := by decide +kernel
theorem dX11_writesBlock_74 : decode cX11_writesBlock 74 = .ok (.invokevirtual 97, 3) := by decide +kernel
theorem dX11_writesBlock_77 : decode cX11_writesBlock 77 = .ok (.ifCond .ne 5, 3) := by decide +kernel
theorem dX11_writesBlock_80 : decode cX11_writesBlock 80 = .ok (.iconst 0, 1) := by decide +kernel
theorem dX11_writesBlock_81 : decode cX11_writesBlock 81 = .ok (.ireturn, 1) := by decide +kernel
theorem dX11_writesBlock_82 : decode cX11_writesBlock 82 = .ok (.iload 7, 2) := by decide +kernel
theorem dX11_writesBlock_84 : decode cX11_writesBlock 84 = .ok (.aload_n 0, 1) := by decide +kernel
theorem dX11_writesBlock_85 : decode cX11_writesBlock 85 = .ok (.getfield 53, 3) := by decide +kernel
theorem dX11_writesBlock_88 : decode cX11_writesBlock 88 = .ok (.ixor, 1) := by decide +kernel
theorem dX11_writesBlock_89 : decode cX11_writesBlock 89 = .ok (.istore 7, 2) := by decide +kernel
theorem dX11_writesBlock_91 : decode cX11_writesBlock 91 = .ok (.iinc 8 1, 3) := by decide +kernel
theorem dX11_writesBlock_94 : decode cX11_writesBlock 94 = .ok (.goto (-49), 3) := by decide +kernel
theorem dX11_writesBlock_97 : decode cX11_writesBlock 97 = .ok (.aload_n 0, 1) := by decide +kernel
theorem dX11_writesBlock_98 : decode cX11_writesBlock 98 = .ok (.iload 5, 2) := by decide +kernel
theorem dX11_writesBlock_100 : decode cX11_writesBlock 100 = .ok (.iload 4, 2) := by decide +kernel
theorem dX11_writesBlock_102 : decode cX11_writesBlock 102 = .ok (.iload_n 2, 1) := by decide +kernel
theorem dX11_writesBlock_103 : decode cX11_writesBlock 103 = .ok (.invokevirtual 110, 3) := by decide +kernel
theorem dX11_writesBlock_106 : decode cX11_writesBlock 106 = .ok (.aload_n 0, 1) := by decide +kernel
theorem dX11_writesBlock_107 : decode cX11_writesBlock 107 = .ok (.iload 6, 2) := by decide +kernel
theorem dX11_writesBlock_109 : decode cX11_writesBlock 109 = .ok (.iload 4, 2) := by decide +kernel
theorem dX11_writesBlock_111 : decode cX11_writesBlock 111 = .ok (.iload 7, 2) := by decide +kernel
theorem dX11_writesBlock_113 : decode cX11_writesBlock 113 = .ok (.invokevirtual 110, 3) := by decide +kernel
theorem dX11_writesBlock_116 : decode cX11_writesBlock 116 = .ok (.iconst 1, 1) := by decide +kernel
theorem dX11_writesBlock_117 : decode cX11_writesBlock 117 = .ok (.ireturn, 1) := by decide +kernel
theorem dX11_write_0 : decode cX11_write 0 = .ok (.aload_n 0, 1) := by decide +kernel
theorem dX11_write_1 : decode cX11_write 1 = .ok (.iconst 0, 1) := by decide +kernel
theorem dX11_write_2 : decode cX11_write 2 = .ok (.putfield 39, 3) := by decide +kernel
theorem dX11_write_5 : decode cX11_write 5 = .ok (.aload_n 0, 1) := by decide +kernel
theorem dX11_write_6 : decode cX11_write 6 = .ok (.iload_n 1, 1) := by decide +kernel
theorem dX11_write_7 : decode cX11_write 7 = .ok (.invokevirtual 138, 3) := by decide +kernel
theorem dX11_write_10 : decode cX11_write 10 = .ok (.ifCond .eq 12, 3) := by decide +kernel
theorem dX11_write_13 : decode cX11_write 13 = .ok (.aload_n 0, 1) := by decide +kernel
theorem dX11_write_14 : decode cX11_write 14 = .ok (.iload_n 1, 1) := by decide +kernel
theorem dX11_write_15 : decode cX11_write 15 = .ok (.iload_n 2, 1) := by decide +kernel
theorem dX11_write_16 : decode cX11_write 16 = .ok (.invokevirtual 144, 3) := by decide +kernel
theorem dX11_write_19 : decode cX11_write 19 = .ok (.goto 4, 3) := by decide +kernel
theorem dX11_write_22 : decode cX11_write 22 = .ok (.iconst (-1), 1) := by decide +kernel
theorem dX11_write_23 : decode cX11_write 23 = .ok (.ireturn, 1) := by decide +kernel
theorem dX11_fill_0 : decode cX11_fill 0 = .ok (.aload_n 0, 1) := by decide +kernel
theorem dX11_fill_1 : decode cX11_fill 1 = .ok (.iconst 0, 1) := by decide +kernel
theorem dX11_fill_2 : decode cX11_fill 2 = .ok (.putfield 39, 3) := by decide +kernel
theorem dX11_fill_5 : decode cX11_fill 5 = .ok (.aload_n 0, 1) := by decide +kernel
theorem dX11_fill_6 : decode cX11_fill 6 = .ok (.iload_n 1, 1) := by decide +kernel
theorem dX11_fill_7 : decode cX11_fill 7 = .ok (.invokevirtual 138, 3) := by decide +kernel
theorem dX11_fill_10 : decode cX11_fill 10 = .ok (.ifCond .eq 26, 3) := by decide +kernel
theorem dX11_fill_13 : decode cX11_fill 13 = .ok (.iload_n 2, 1) := by decide +kernel
theorem dX11_fill_14 : decode cX11_fill 14 = .ok (.iconst 1, 1) := by decide +kernel
theorem dX11_fill_15 : decode cX11_fill 15 = .ok (.sipush 200, 3) := by decide +kernel
theorem dX11_fill_18 : decode cX11_fill 18 = .ok (.invokestatic 114, 3) := by decide +kernel
theorem dX11_fill_21 : decode cX11_fill 21 = .ok (.ifCond .eq 15, 3) := by decide +kernel
theorem dX11_fill_24 : decode cX11_fill 24 = .ok (.aload_n 0, 1) := by decide +kernel
theorem dX11_fill_25 : decode cX11_fill 25 = .ok (.iload_n 1, 1) := by decide +kernel
theorem dX11_fill_26 : decode cX11_fill 26 = .ok (.iload_n 2, 1) := by decide +kernel
theorem dX11_fill_27 : decode cX11_fill 27 = .ok (.iadd, 1) := by decide +kernel
theorem dX11_fill_28 : decode cX11_fill 28 = .ok (.iconst 1, 1) := by decide +kernel
theorem dX11_fill_29 : decode cX11_fill 29 = .ok (.isub, 1) := by decide +kernel
theorem dX11_fill_30 : decode cX11_fill 30 = .ok (.invokevirtual 138, 3) := by decide +kernel
theorem dX11_fill_33 : decode cX11_fill 33 = .ok (.ifCond .ne 5, 3) := by decide +kernel
theorem dX11_fill_36 : decode cX11_fill 36 = .ok (.iconst (-1), 1) := by decide +kernel
theorem dX11_fill_37 : decode cX11_fill 37 = .ok (.ireturn, 1) := by decide +kernel
theorem dX11_fill_38 : decode cX11_fill 38 = .ok (.iconst 0, 1) := by decide +kernel
theorem dX11_fill_39 : decode cX11_fill 39 = .ok (.istore 4, 2) := by decide +kernel
theorem dX11_fill_41 : decode cX11_fill 41 = .ok (.iconst 0, 1) := by decide +kernel
theorem dX11_fill_42 : decode cX11_fill 42 = .ok (.istore 5, 2) := by decide +kernel
theorem dX11_fill_44 : decode cX11_fill 44 = .ok (.iload 5, 2) := by decide +kernel
theorem dX11_fill_46 : decode cX11_fill 46 = .ok (.iload_n 2, 1) := by decide +kernel
theorem dX11_fill_47 : decode cX11_fill 47 = .ok (.if_icmp .ge 28, 3) := by decide +kernel
theorem dX11_fill_50 : decode cX11_fill 50 = .ok (.aload_n 0, 1) := by decide +kernel
theorem dX11_fill_51 : decode cX11_fill 51 = .ok (.iload_n 1, 1) := by decide +kernel
theorem dX11_fill_52 : decode cX11_fill 52 = .ok (.iload 5, 2) := by decide +kernel
theorem dX11_fill_54 : decode cX11_fill 54 = .ok (.iadd, 1) := by decide +kernel
theorem dX11_fill_55 : decode cX11_fill 55 = .ok (.iload_n 3, 1) := by decide +kernel
theorem dX11_fill_56 : decode cX11_fill 56 = .ok (.iload 5, 2) := by decide +kernel
theorem dX11_fill_58 : decode cX11_fill 58 = .ok (.iadd, 1) := by decide +kernel
theorem dX11_fill_59 : decode cX11_fill 59 = .ok (.invokevirtual 144, 3) := by decide +kernel
theorem dX11_fill_62 : decode cX11_fill 62 = .ok (.iconst 1, 1) := by decide +kernel
theorem dX11_fill_63 : decode cX11_fill 63 = .ok (.if_icmp .ne 6, 3) := by decide +kernel
theorem dX11_fill_66 : decode cX11_fill 66 = .ok (.iinc 4 1, 3) := by decide +kernel
theorem dX11_fill_69 : decode cX11_fill 69 = .ok (.iinc 5 1, 3) := by decide +kernel
theorem dX11_fill_72 : decode cX11_fill 72 = .ok (.goto (-28), 3) := by decide +kernel
theorem dX11_fill_75 : decode cX11_fill 75 = .ok (.iload 4, 2) := by decide +kernel
theorem dX11_fill_77 : decode cX11_fill 77 = .ok (.ireturn, 1) := by decide +kernel
theorem dX11_isWord_0 : decode cX11_isWord 0 = .ok (.iload_n 1, 1) := by decide +kernel
theorem dX11_isWord_1 : decode cX11_isWord 1 = .ok (.iconst 0, 1) := by decide +kernel
theorem dX11_isWord_2 : decode cX11_isWord 2 = .ok (.aload_n 0, 1) := by decide +kernel
theorem dX11_isWord_3 : decode cX11_isWord 3 = .ok (.invokevirtual 147, 3) := by decide +kernel
theorem dX11_isWord_6 : decode cX11_isWord 6 = .ok (.iconst 1, 1) := by decide +kernel
theorem dX11_isWord_7 : decode cX11_isWord 7 = .ok (.isub, 1) := by decide +kernel
theorem dX11_isWord_8 : decode cX11_isWord 8 = .ok (.invokestatic 114, 3) := by decide +kernel
theorem dX11_isWord_11 : decode cX11_isWord 11 = .ok (.ifCond .eq 25, 3) := by decide +kernel
theorem dX11_isWord_14 : decode cX11_isWord 14 = .ok (.iload_n 2, 1) := by decide +kernel
theorem dX11_isWord_15 : decode cX11_isWord 15 = .ok (.iconst 0, 1) := by decide +kernel
theorem dX11_isWord_16 : decode cX11_isWord 16 = .ok (.aload_n 0, 1) := by decide +kernel
theorem dX11_isWord_17 : decode cX11_isWord 17 = .ok (.getfield 7, 3) := by decide +kernel
theorem dX11_isWord_20 : decode cX11_isWord 20 = .ok (.sipush 716, 3) := by decide +kernel
theorem dX11_isWord_23 : decode cX11_isWord 23 = .ok (.iaload, 1) := by decide +kernel
theorem dX11_isWord_24 : decode cX11_isWord 24 = .ok (.iconst 1, 1) := by decide +kernel
theorem dX11_isWord_25 : decode cX11_isWord 25 = .ok (.isub, 1) := by decide +kernel
theorem dX11_isWord_26 : decode cX11_isWord 26 = .ok (.invokestatic 114, 3) := by decide +kernel
theorem dX11_isWord_29 : decode cX11_isWord 29 = .ok (.ifCond .eq 7, 3) := by decide +kernel
theorem dX11_isWord_32 : decode cX11_isWord 32 = .ok (.iconst 1, 1) := by decide +kernel
theorem dX11_isWord_33 : decode cX11_isWord 33 = .ok (.goto 4, 3) := by decide +kernel
theorem dX11_isWord_36 : decode cX11_isWord 36 = .ok (.iconst 0, 1) := by decide +kernel
theorem dX11_isWord_37 : decode cX11_isWord 37 = .ok (.ireturn, 1) := by decide +kernel
theorem dX11_lose_0 : decode cX11_lose 0 = .ok (.aload_n 0, 1) := by decide +kernel
theorem dX11_lose_1 : decode cX11_lose 1 = .ok (.iconst 0, 1) := by decide +kernel
theorem dX11_lose_2 : decode cX11_lose 2 = .ok (.putfield 39, 3) := by decide +kernel
theorem dX11_lose_5 : decode cX11_lose 5 = .ok (.iload_n 1, 1) := by decide +kernel
theorem dX11_lose_6 : decode cX11_lose 6 = .ok (.iconst 0, 1) := by decide +kernel
theorem dX11_lose_7 : decode cX11_lose 7 = .ok (.aload_n 0, 1) := by decide +kernel
theorem dX11_lose_8 : decode cX11_lose 8 = .ok (.invokevirtual 147, 3) := by decide +kernel
theorem dX11_lose_11 : decode cX11_lose 11 = .ok (.iconst 1, 1) := by decide +kernel
theorem dX11_lose_12 : decode cX11_lose 12 = .ok (.isub, 1) := by decide +kernel
theorem dX11_lose_13 : decode cX11_lose 13 = .ok (.invokestatic 114, 3) := by decide +kernel
theorem dX11_lose_16 : decode cX11_lose 16 = .ok (.ifCond .eq 14, 3) := by decide +kernel
theorem dX11_lose_19 : decode cX11_lose 19 = .ok (.aload_n 0, 1) := by decide +kernel
theorem dX11_lose_20 : decode cX11_lose 20 = .ok (.getfield 7, 3) := by decide +kernel
theorem dX11_lose_23 : decode cX11_lose 23 = .ok (.sipush 721, 3) := by decide +kernel
theorem dX11_lose_26 : decode cX11_lose 26 = .ok (.iaload, 1) := by decide +kernel
theorem dX11_lose_27 : decode cX11_lose 27 = .ok (.ifCond .lt 5, 3) := by decide +kernel
theorem dX11_lose_30 : decode cX11_lose 30 = .ok (.iconst 0, 1) := by decide +kernel
theorem dX11_lose_31 : decode cX11_lose 31 = .ok (.ireturn, 1) := by decide +kernel
theorem dX11_lose_32 : decode cX11_lose 32 = .ok (.aload_n 0, 1) := by decide +kernel
theorem dX11_lose_33 : decode cX11_lose 33 = .ok (.getfield 7, 3) := by decide +kernel
theorem dX11_lose_36 : decode cX11_lose 36 = .ok (.sipush 721, 3) := by decide +kernel
theorem dX11_lose_39 : decode cX11_lose 39 = .ok (.iload_n 1, 1) := by decide +kernel
theorem dX11_lose_40 : decode cX11_lose 40 = .ok (.iastore, 1) := by decide +kernel
theorem dX11_lose_41 : decode cX11_lose 41 = .ok (.iconst 1, 1) := by decide +kernel
theorem dX11_lose_42 : decode cX11_lose 42 = .ok (.ireturn, 1) := by decide +kernel
theorem dX11_replace_0 : decode cX11_replace 0 = .ok (.aload_n 0, 1) := by decide +kernel
theorem dX11_replace_1 : decode cX11_replace 1 = .ok (.iconst 0, 1) := by decide +kernel
theorem dX11_replace_2 : decode cX11_replace 2 = .ok (.putfield 39, 3) := by decide +kernel
theorem dX11_replace_5 : decode cX11_replace 5 = .ok (.aload_n 0, 1) := by decide +kernel
theorem dX11_replace_6 : decode cX11_replace 6 = .ok (.getfield 7, 3) := by decide +kernel
theorem dX11_replace_9 : decode cX11_replace 9 = .ok (.sipush 721, 3) := by decide +kernel
theorem dX11_replace_12 : decode cX11_replace 12 = .ok (.iaload, 1) := by decide +kernel
theorem dX11_replace_13 : decode cX11_replace 13 = .ok (.ifCond .lt 10, 3) := by decide +kernel
theorem dX11_replace_16 : decode cX11_replace 16 = .ok (.aload_n 0, 1) := by decide +kernel
theorem dX11_replace_17 : decode cX11_replace 17 = .ok (.invokevirtual 88, 3) := by decide +kernel
theorem dX11_replace_20 : decode cX11_replace 20 = .ok (.ifCond .eq 5, 3) := by decide +kernel
theorem dX11_replace_23 : decode cX11_replace 23 = .ok (.iconst (-1), 1) := by decide +kernel
theorem dX11_replace_24 : decode cX11_replace 24 = .ok (.ireturn, 1) := by decide +kernel
theorem dX11_replace_25 : decode cX11_replace 25 = .ok (.aload_n 0, 1) := by decide +kernel
theorem dX11_replace_26 : decode cX11_replace 26 = .ok (.getfield 7, 3) := by decide +kernel
theorem dX11_replace_29 : decode cX11_replace 29 = .ok (.sipush 721, 3) := by decide +kernel
theorem dX11_replace_32 : decode cX11_replace 32 = .ok (.iaload, 1) := by decide +kernel
theorem dX11_replace_33 : decode cX11_replace 33 = .ok (.istore_n 1, 1) := by decide +kernel
theorem dX11_replace_34 : decode cX11_replace 34 = .ok (.iconst 0, 1) := by decide +kernel
theorem dX11_replace_35 : decode cX11_replace 35 = .ok (.istore_n 2, 1) := by decide +kernel
theorem dX11_replace_36 : decode cX11_replace 36 = .ok (.iconst 0, 1) := by decide +kernel
theorem dX11_replace_37 : decode cX11_replace 37 = .ok (.istore_n 3, 1) := by decide +kernel
theorem dX11_replace_38 : decode cX11_replace 38 = .ok (.iload_n 3, 1) := by decide +kernel
theorem dX11_replace_39 : decode cX11_replace 39 = .ok (.aload_n 0, 1) := by decide +kernel
theorem dX11_replace_40 : decode cX11_replace 40 = .ok (.getfield 7, 3) := by decide +kernel
theorem dX11_replace_43 : decode cX11_replace 43 = .ok (.sipush 716, 3) := by decide +kernel
theorem dX11_replace_46 : decode cX11_replace 46 = .ok (.iaload, 1) := by decide +kernel
theorem dX11_replace_47 : decode cX11_replace 47 = .ok (.if_icmp .ge 135, 3) := by decide +kernel
theorem dX11_replace_50 : decode cX11_replace 50 = .ok (.aload_n 0, 1) := by decide +kernel
theorem dX11_replace_51 : decode cX11_replace 51 = .ok (.invokevirtual 84, 3) := by decide +kernel
theorem dX11_replace_54 : decode cX11_replace 54 = .ok (.ifCond .eq 28, 3) := by decide +kernel
theorem dX11_replace_57 : decode cX11_replace 57 = .ok (.iload_n 3, 1) := by decide +kernel
theorem dX11_replace_58 : decode cX11_replace 58 = .ok (.aload_n 0, 1) := by decide +kernel
theorem dX11_replace_59 : decode cX11_replace 59 = .ok (.getfield 7, 3) := by decide +kernel
theorem dX11_replace_62 : decode cX11_replace 62 = .ok (.sipush 718, 3) := by decide +kernel
theorem dX11_replace_65 : decode cX11_replace 65 = .ok (.iaload, 1) := by decide +kernel
theorem dX11_replace_66 : decode cX11_replace 66 = .ok (.if_icmp .ge 16, 3) := by decide +kernel
theorem dX11_replace_69 : decode cX11_replace 69 = .ok (.aload_n 0, 1) := by decide +kernel
theorem dX11_replace_70 : decode cX11_replace 70 = .ok (.getfield 7, 3) := by decide +kernel
theorem dX11_replace_73 : decode cX11_replace 73 = .ok (.sipush 715, 3) := by decide +kernel
theorem dX11_replace_76 : decode cX11_replace 76 = .ok (.iaload, 1) := by decide +kernel
theorem dX11_replace_77 : decode cX11_replace 77 = .ok (.iconst 1, 1) := by decide +kernel
theorem dX11_replace_78 : decode cX11_replace 78 = .ok (.iadd, 1) := by decide +kernel
theorem dX11_replace_79 : decode cX11_replace 79 = .ok (.goto 11, 3) := by decide +kernel
theorem dX11_replace_82 : decode cX11_replace 82 = .ok (.aload_n 0, 1) := by decide +kernel
theorem dX11_replace_83 : decode cX11_replace 83 = .ok (.getfield 7, 3) := by decide +kernel
theorem dX11_replace_86 : decode cX11_replace 86 = .ok (.sipush 715, 3) := by decide +kernel
theorem dX11_replace_89 : decode cX11_replace 89 = .ok (.iaload, 1) := by decide +kernel
theorem dX11_replace_90 : decode cX11_replace 90 = .ok (.istore 4, 2) := by decide +kernel
theorem dX11_replace_92 : decode cX11_replace 92 = .ok (.iconst 1, 1) := by decide +kernel
theorem dX11_replace_93 : decode cX11_replace 93 = .ok (.istore 5, 2) := by decide +kernel
theorem dX11_replace_95 : decode cX11_replace 95 = .ok (.iload_n 1, 1) := by decide +kernel
theorem dX11_replace_96 : decode cX11_replace 96 = .ok (.iload 4, 2) := by decide +kernel
theorem dX11_replace_98 : decode cX11_replace 98 = .ok (.if_icmp .lt 11, 3) := by decide +kernel
theorem dX11_replace_101 : decode cX11_replace 101 = .ok (.aload_n 0, 1) := by decide +kernel
theorem dX11_replace_102 : decode cX11_replace 102 = .ok (.iconst 0, 1) := by decide +kernel
theorem dX11_replace_103 : decode cX11_replace 103 = .ok (.putfield 53, 3) := by decide +kernel
theorem dX11_replace_106 : decode cX11_replace 106 = .ok (.goto 13, 3) := by decide +kernel
theorem dX11_replace_109 : decode cX11_replace 109 = .ok (.aload_n 0, 1) := by decide +kernel
theorem dX11_replace_110 : decode cX11_replace 110 = .ok (.iload 4, 2) := by decide +kernel
theorem dX11_replace_112 : decode cX11_replace 112 = .ok (.iload_n 1, 1) := by decide +kernel
theorem dX11_replace_113 : decode cX11_replace 113 = .ok (.iload_n 3, 1) := by decide +kernel
theorem dX11_replace_114 : decode cX11_replace 114 = .ok (.invokevirtual 97, 3) := by decide +kernel
theorem dX11_replace_117 : decode cX11_replace 117 = .ok (.istore 5, 2) := by decide +kernel
theorem dX11_replace_119 : decode cX11_replace 119 = .ok (.aload_n 0, 1) := by decide +kernel
theorem dX11_replace_120 : decode cX11_replace 120 = .ok (.getfield 7, 3) := by decide +kernel
theorem dX11_replace_123 : decode cX11_replace 123 = .ok (.iconst 0, 1) := by decide +kernel
theorem dX11_replace_124 : decode cX11_replace 124 = .ok (.iload_n 1, 1) := by decide +kernel
theorem dX11_replace_125 : decode cX11_replace 125 = .ok (.iload_n 3, 1) := by decide +kernel
theorem dX11_replace_126 : decode cX11_replace 126 = .ok (.invokestatic 50, 3) := by decide +kernel
theorem dX11_replace_129 : decode cX11_replace 129 = .ok (.iadd, 1) := by decide +kernel
theorem dX11_replace_130 : decode cX11_replace 130 = .ok (.iload 5, 2) := by decide +kernel
theorem dX11_replace_132 : decode cX11_replace 132 = .ok (.ifCond .eq 10, 3) := by decide +kernel
theorem dX11_replace_135 : decode cX11_replace 135 = .ok (.aload_n 0, 1) := by decide +kernel
theorem dX11_replace_136 : decode cX11_replace 136 = .ok (.getfield 53, 3) := by decide +kernel
theorem dX11_replace_139 : decode cX11_replace 139 = .ok (.goto 4, 3) := by decide +kernel
theorem dX11_replace_142 : decode cX11_replace 142 = .ok (.iconst 0, 1) := by decide +kernel
theorem dX11_replace_143 : decode cX11_replace 143 = .ok (.iastore, 1) := by decide +kernel
theorem dX11_replace_144 : decode cX11_replace 144 = .ok (.aload_n 0, 1) := by decide +kernel
theorem dX11_replace_145 : decode cX11_replace 145 = .ok (.getfield 7, 3) := by decide +kernel
theorem dX11_replace_148 : decode cX11_replace 148 = .ok (.sipush 280, 3) := by decide +kernel
theorem dX11_replace_151 : decode cX11_replace 151 = .ok (.iload_n 1, 1) := by decide +kernel
theorem dX11_replace_152 : decode cX11_replace 152 = .ok (.iload_n 3, 1) := by decide +kernel
theorem dX11_replace_153 : decode cX11_replace 153 = .ok (.invokestatic 50, 3) := by decide +kernel
theorem dX11_replace_156 : decode cX11_replace 156 = .ok (.iadd, 1) := by decide +kernel
theorem dX11_replace_157 : decode cX11_replace 157 = .ok (.iload 5, 2) := by decide +kernel
theorem dX11_replace_159 : decode cX11_replace 159 = .ok (.ifCond .eq 7, 3) := by decide +kernel
theorem dX11_replace_162 : decode cX11_replace 162 = .ok (.iconst 0, 1) := by decide +kernel
theorem dX11_replace_163 : decode cX11_replace 163 = .ok (.goto 4, 3) := by decide +kernel
theorem dX11_replace_166 : decode cX11_replace 166 = .ok (.iconst 1, 1) := by decide +kernel
theorem dX11_replace_167 : decode cX11_replace 167 = .ok (.iastore, 1) := by decide +kernel
theorem dX11_replace_168 : decode cX11_replace 168 = .ok (.iload 5, 2) := by decide +kernel
theorem dX11_replace_170 : decode cX11_replace 170 = .ok (.ifCond .ne 6, 3) := by decide +kernel
theorem dX11_replace_173 : decode cX11_replace 173 = .ok (.iinc 2 1, 3) := by decide +kernel
theorem dX11_replace_176 : decode cX11_replace 176 = .ok (.iinc 3 1, 3) := by decide +kernel
theorem dX11_replace_179 : decode cX11_replace 179 = .ok (.goto (-141), 3) := by decide +kernel
theorem dX11_replace_182 : decode cX11_replace 182 = .ok (.aload_n 0, 1) := by decide +kernel
theorem dX11_replace_183 : decode cX11_replace 183 = .ok (.getfield 7, 3) := by decide +kernel
theorem dX11_replace_186 : decode cX11_replace 186 = .ok (.sipush 721, 3) := by decide +kernel
theorem dX11_replace_189 : decode cX11_replace 189 = .ok (.iconst (-1), 1) := by decide +kernel
theorem dX11_replace_190 : decode cX11_replace 190 = .ok (.iastore, 1) := by decide +kernel
theorem dX11_replace_191 : decode cX11_replace 191 = .ok (.iload_n 2, 1) := by decide +kernel
theorem dX11_replace_192 : decode cX11_replace 192 = .ok (.ireturn, 1) := by decide +kernel
theorem dX11_bad_0 : decode cX11_bad 0 = .ok (.aload_n 0, 1) := by decide +kernel
theorem dX11_bad_1 : decode cX11_bad 1 = .ok (.iconst 0, 1) := by decide +kernel
theorem dX11_bad_2 : decode cX11_bad 2 = .ok (.putfield 39, 3) := by decide +kernel
theorem dX11_bad_5 : decode cX11_bad 5 = .ok (.aload_n 0, 1) := by decide +kernel
theorem dX11_bad_6 : decode cX11_bad 6 = .ok (.iload_n 1, 1) := by decide +kernel
theorem dX11_bad_7 : decode cX11_bad 7 = .ok (.iload_n 2, 1) := by decide +kernel
theorem dX11_bad_8 : decode cX11_bad 8 = .ok (.invokevirtual 150, 3) := by decide +kernel
theorem dX11_bad_11 : decode cX11_bad 11 = .ok (.ifCond .eq 33, 3) := by decide +kernel
theorem dX11_bad_14 : decode cX11_bad 14 = .ok (.aload_n 0, 1) := by decide +kernel
theorem dX11_bad_15 : decode cX11_bad 15 = .ok (.getfield 7, 3) := by decide +kernel
theorem dX11_bad_18 : decode cX11_bad 18 = .ok (.sipush 721, 3) := by decide +kernel
theorem dX11_bad_21 : decode cX11_bad 21 = .ok (.iaload, 1) := by decide +kernel
theorem dX11_bad_22 : decode cX11_bad 22 = .ok (.iload_n 1, 1) := by decide +kernel
theorem dX11_bad_23 : decode cX11_bad 23 = .ok (.if_icmp .eq 21, 3) := by decide +kernel
theorem dX11_bad_26 : decode cX11_bad 26 = .ok (.aload_n 0, 1) := by decide +kernel
theorem dX11_bad_27 : decode cX11_bad 27 = .ok (.getfield 7, 3) := by decide +kernel
theorem dX11_bad_30 : decode cX11_bad 30 = .ok (.sipush 280, 3) := by decide +kernel
theorem dX11_bad_33 : decode cX11_bad 33 = .ok (.iload_n 1, 1) := by decide +kernel
theorem dX11_bad_34 : decode cX11_bad 34 = .ok (.iload_n 2, 1) := by decide +kernel
theorem dX11_bad_35 : decode cX11_bad 35 = .ok (.invokestatic 50, 3) := by decide +kernel
theorem dX11_bad_38 : decode cX11_bad 38 = .ok (.iadd, 1) := by decide +kernel
theorem dX11_bad_39 : decode cX11_bad 39 = .ok (.iaload, 1) := by decide +kernel
theorem dX11_bad_40 : decode cX11_bad 40 = .ok (.iconst 1, 1) := by decide +kernel
theorem dX11_bad_41 : decode cX11_bad 41 = .ok (.if_icmp .ne 5, 3) := by decide +kernel
theorem dX11_bad_44 : decode cX11_bad 44 = .ok (.iconst 0, 1) := by decide +kernel
theorem dX11_bad_45 : decode cX11_bad 45 = .ok (.ireturn, 1) := by decide +kernel
theorem dX11_bad_46 : decode cX11_bad 46 = .ok (.aload_n 0, 1) := by decide +kernel
theorem dX11_bad_47 : decode cX11_bad 47 = .ok (.getfield 7, 3) := by decide +kernel
theorem dX11_bad_50 : decode cX11_bad 50 = .ok (.sipush 280, 3) := by decide +kernel
theorem dX11_bad_53 : decode cX11_bad 53 = .ok (.iload_n 1, 1) := by decide +kernel
theorem dX11_bad_54 : decode cX11_bad 54 = .ok (.iload_n 2, 1) := by decide +kernel
theorem dX11_bad_55 : decode cX11_bad 55 = .ok (.invokestatic 50, 3) := by decide +kernel
theorem dX11_bad_58 : decode cX11_bad 58 = .ok (.iadd, 1) := by decide +kernel
theorem dX11_bad_59 : decode cX11_bad 59 = .ok (.iconst 1, 1) := by decide +kernel
theorem dX11_bad_60 : decode cX11_bad 60 = .ok (.iastore, 1) := by decide +kernel
theorem dX11_bad_61 : decode cX11_bad 61 = .ok (.iconst 1, 1) := by decide +kernel
theorem dX11_bad_62 : decode cX11_bad 62 = .ok (.ireturn, 1) := by decide +kernel
theorem dX11_poke_0 : decode cX11_poke 0 = .ok (.aload_n 0, 1) := by decide +kernel
theorem dX11_poke_1 : decode cX11_poke 1 = .ok (.iconst 0, 1) := by decide +kernel
theorem dX11_poke_2 : decode cX11_poke 2 = .ok (.putfield 39, 3) := by decide +kernel
theorem dX11_poke_5 : decode cX11_poke 5 = .ok (.aload_n 0, 1) := by decide +kernel
theorem dX11_poke_6 : decode cX11_poke 6 = .ok (.iload_n 1, 1) := by decide +kernel
theorem dX11_poke_7 : decode cX11_poke 7 = .ok (.iload_n 2, 1) := by decide +kernel
theorem dX11_poke_8 : decode cX11_poke 8 = .ok (.invokevirtual 150, 3) := by decide +kernel
theorem dX11_poke_11 : decode cX11_poke 11 = .ok (.ifCond .eq 15, 3) := by decide +kernel
theorem dX11_poke_14 : decode cX11_poke 14 = .ok (.aload_n 0, 1) := by decide +kernel
theorem dX11_poke_15 : decode cX11_poke 15 = .ok (.getfield 7, 3) := by decide +kernel
theorem dX11_poke_18 : decode cX11_poke 18 = .ok (.sipush 721, 3) := by decide +kernel
theorem dX11_poke_21 : decode cX11_poke 21 = .ok (.iaload, 1) := by decide +kernel
theorem dX11_poke_22 : decode cX11_poke 22 = .ok (.iload_n 1, 1) := by decide +kernel
theorem dX11_poke_23 : decode cX11_poke 23 = .ok (.if_icmp .ne 5, 3) := by decide +kernel
theorem dX11_poke_26 : decode cX11_poke 26 = .ok (.iconst 0, 1) := by decide +kernel
theorem dX11_poke_27 : decode cX11_poke 27 = .ok (.ireturn, 1) := by decide +kernel
theorem dX11_poke_28 : decode cX11_poke 28 = .ok (.aload_n 0, 1) := by decide +kernel
theorem dX11_poke_29 : decode cX11_poke 29 = .ok (.getfield 7, 3) := by decide +kernel
theorem dX11_poke_32 : decode cX11_poke 32 = .ok (.iconst 0, 1) := by decide +kernel
theorem dX11_poke_33 : decode cX11_poke 33 = .ok (.iload_n 1, 1) := by decide +kernel
theorem dX11_poke_34 : decode cX11_poke 34 = .ok (.iload_n 2, 1) := by decide +kernel
theorem dX11_poke_35 : decode cX11_poke 35 = .ok (.invokestatic 50, 3) := by decide +kernel
theorem dX11_poke_38 : decode cX11_poke 38 = .ok (.iadd, 1) := by decide +kernel
theorem dX11_poke_39 : decode cX11_poke 39 = .ok (.iload_n 3, 1) := by decide +kernel
theorem dX11_poke_40 : decode cX11_poke 40 = .ok (.iastore, 1) := by decide +kernel
theorem dX11_poke_41 : decode cX11_poke 41 = .ok (.aload_n 0, 1) := by decide +kernel
theorem dX11_poke_42 : decode cX11_poke 42 = .ok (.getfield 7, 3) := by decide +kernel
theorem dX11_poke_45 : decode cX11_poke 45 = .ok (.sipush 280, 3) := by decide +kernel
theorem dX11_poke_48 : decode cX11_poke 48 = .ok (.iload_n 1, 1) := by decide +kernel
theorem dX11_poke_49 : decode cX11_poke 49 = .ok (.iload_n 2, 1) := by decide +kernel
theorem dX11_poke_50 : decode cX11_poke 50 = .ok (.invokestatic 50, 3) := by decide +kernel
theorem dX11_poke_53 : decode cX11_poke 53 = .ok (.iadd, 1) := by decide +kernel
theorem dX11_poke_54 : decode cX11_poke 54 = .ok (.iconst 0, 1) := by decide +kernel
theorem dX11_poke_55 : decode cX11_poke 55 = .ok (.iastore, 1) := by decide +kernel
theorem dX11_poke_56 : decode cX11_poke 56 = .ok (.iconst 1, 1) := by decide +kernel
theorem dX11_poke_57 : decode cX11_poke 57 = .ok (.ireturn, 1) := by decide +kernel
theorem dX11_ask_0 : decode cX11_ask 0 = .ok (.aload_n 0, 1) := by decide +kernel
theorem dX11_ask_1 : decode cX11_ask 1 = .ok (.iconst 0, 1) := by decide +kernel
theorem dX11_ask_2 : decode cX11_ask 2 = .ok (.putfield 39, 3) := by decide +kernel
theorem dX11_ask_5 : decode cX11_ask 5 = .ok (.aload_n 0, 1) := by decide +kernel
theorem dX11_ask_6 : decode cX11_ask 6 = .ok (.iload_n 2, 1) := by decide +kernel
theorem dX11_ask_7 : decode cX11_ask 7 = .ok (.invokevirtual 138, 3) := by decide +kernel
theorem dX11_ask_10 : decode cX11_ask 10 = .ok (.ifCond .eq 27, 3) := by decide +kernel
theorem dX11_ask_13 : decode cX11_ask 13 = .ok (.iload 4, 2) := by decide +kernel
theorem dX11_ask_15 : decode cX11_ask 15 = .ok (.iconst 0, 1) := by decide +kernel
theorem dX11_ask_16 : decode cX11_ask 16 = .ok (.bipush 9, 2) := by decide +kernel
theorem dX11_ask_18 : decode cX11_ask 18 = .ok (.invokestatic 114, 3) := by decide +kernel
theorem dX11_ask_21 : decode cX11_ask 21 = .ok (.ifCond .eq 16, 3) := by decide +kernel
theorem dX11_ask_24 : decode cX11_ask 24 = .ok (.aload_n 0, 1) := by decide +kernel
theorem dX11_ask_25 : decode cX11_ask 25 = .ok (.getfield 7, 3) := by decide +kernel
theorem dX11_ask_28 : decode cX11_ask 28 = .ok (.sipush 725, 3) := by decide +kernel
theorem dX11_ask_31 : decode cX11_ask 31 = .ok (.iaload, 1) := by decide +kernel
theorem dX11_ask_32 : decode cX11_ask 32 = .ok (.bipush 20, 2) := by decide +kernel
theorem dX11_ask_34 : decode cX11_ask 34 = .ok (.if_icmp .ne 5, 3) := by decide +kernel
theorem dX11_ask_37 : decode cX11_ask 37 = .ok (.iconst (-1), 1) := by decide +kernel
theorem dX11_ask_38 : decode cX11_ask 38 = .ok (.ireturn, 1) := by decide +kernel
theorem dX11_ask_39 : decode cX11_ask 39 = .ok (.aload_n 0, 1) := by decide +kernel
theorem dX11_ask_40 : decode cX11_ask 40 = .ok (.getfield 7, 3) := by decide +kernel
theorem dX11_ask_43 : decode cX11_ask 43 = .ok (.sipush 725, 3) := by decide +kernel
theorem dX11_ask_46 : decode cX11_ask 46 = .ok (.iaload, 1) := by decide +kernel
theorem dX11_ask_47 : decode cX11_ask 47 = .ok (.istore 5, 2) := by decide +kernel
theorem dX11_ask_49 : decode cX11_ask 49 = .ok (.iload 5, 2) := by decide +kernel
theorem dX11_ask_51 : decode cX11_ask 51 = .ok (.ifCond .le 80, 3) := by decide +kernel
theorem dX11_ask_54 : decode cX11_ask 54 = .ok (.aload_n 0, 1) := by decide +kernel
theorem dX11_ask_55 : decode cX11_ask 55 = .ok (.getfield 7, 3) := by decide +kernel
theorem dX11_ask_58 : decode cX11_ask 58 = .ok (.sipush 608, 3) := by decide +kernel
theorem dX11_ask_61 : decode cX11_ask 61 = .ok (.iconst 5, 1) := by decide +kernel
theorem dX11_ask_62 : decode cX11_ask 62 = .ok (.iload 5, 2) := by decide +kernel
theorem dX11_ask_64 : decode cX11_ask 64 = .ok (.iconst 1, 1) := by decide +kernel
theorem dX11_ask_65 : decode cX11_ask 65 = .ok (.isub, 1) := by decide +kernel
theorem dX11_ask_66 : decode cX11_ask 66 = .ok (.imul, 1) := by decide +kernel
theorem dX11_ask_67 : decode cX11_ask 67 = .ok (.iadd, 1) := by decide +kernel
theorem dX11_ask_68 : decode cX11_ask 68 = .ok (.iconst 3, 1) := by decide +kernel
theorem dX11_ask_69 : decode cX11_ask 69 = .ok (.iadd, 1) := by decide +kernel
theorem dX11_ask_70 : decode cX11_ask 70 = .ok (.iaload, 1) := by decide +kernel
theorem dX11_ask_71 : decode cX11_ask 71 = .ok (.iload 4, 2) := by decide +kernel
theorem dX11_ask_73 : decode cX11_ask 73 = .ok (.if_icmp .le 58, 3) := by decide +kernel
theorem dX11_ask_76 : decode cX11_ask 76 = .ok (.iconst 0, 1) := by decide +kernel
theorem dX11_ask_77 : decode cX11_ask 77 = .ok (.istore 6, 2) := by decide +kernel
theorem dX11_ask_79 : decode cX11_ask 79 = .ok (.iload 6, 2) := by decide +kernel
theorem dX11_ask_81 : decode cX11_ask 81 = .ok (.iconst 5, 1) := by decide +kernel
theorem dX11_ask_82 : decode cX11_ask 82 = .ok (.if_icmp .ge 43, 3) := by decide +kernel
theorem dX11_ask_85 : decode cX11_ask 85 = .ok (.aload_n 0, 1) := by decide +kernel
theorem dX11_ask_86 : decode cX11_ask 86 = .ok (.getfield 7, 3) := by decide +kernel
theorem dX11_ask_89 : decode cX11_ask 89 = .ok (.sipush 608, 3) := by decide +kernel
theorem dX11_ask_92 : decode cX11_ask 92 = .ok (.iconst 5, 1) := by decide +kernel
theorem dX11_ask_93 : decode cX11_ask 93 = .ok (.iload 5, 2) := by decide +kernel
theorem dX11_ask_95 : decode cX11_ask 95 = .ok (.imul, 1) := by decide +kernel
theorem dX11_ask_96 : decode cX11_ask 96 = .ok (.iadd, 1) := by decide +kernel
theorem dX11_ask_97 : decode cX11_ask 97 = .ok (.iload 6, 2) := by decide +kernel
theorem dX11_ask_99 : decode cX11_ask 99 = .ok (.iadd, 1) := by decide +kernel
theorem dX11_ask_100 : decode cX11_ask 100 = .ok (.aload_n 0, 1) := by decide +kernel
theorem dX11_ask_101 : decode cX11_ask 101 = .ok (.getfield 7, 3) := by decide +kernel
theorem dX11_ask_104 : decode cX11_ask 104 = .ok (.sipush 608, 3) := by decide +kernel
theorem dX11_ask_107 : decode cX11_ask 107 = .ok (.iconst 5, 1) := by decide +kernel
theorem dX11_ask_108 : decode cX11_ask 108 = .ok (.iload 5, 2) := by decide +kernel
theorem dX11_ask_110 : decode cX11_ask 110 = .ok (.iconst 1, 1) := by decide +kernel
theorem dX11_ask_111 : decode cX11_ask 111 = .ok (.isub, 1) := by decide +kernel
theorem dX11_ask_112 : decode cX11_ask 112 = .ok (.imul, 1) := by decide +kernel
theorem dX11_ask_113 : decode cX11_ask 113 = .ok (.iadd, 1) := by decide +kernel
theorem dX11_ask_114 : decode cX11_ask 114 = .ok (.iload 6, 2) := by decide +kernel
theorem dX11_ask_116 : decode cX11_ask 116 = .ok (.iadd, 1) := by decide +kernel
theorem dX11_ask_117 : decode cX11_ask 117 = .ok (.iaload, 1) := by decide +kernel
theorem dX11_ask_118 : decode cX11_ask 118 = .ok (.iastore, 1) := by decide +kernel
theorem dX11_ask_119 : decode cX11_ask 119 = .ok (.iinc 6 1, 3) := by decide +kernel
theorem dX11_ask_122 : decode cX11_ask 122 = .ok (.goto (-43), 3) := by decide +kernel
theorem dX11_ask_125 : decode cX11_ask 125 = .ok (.iinc 5 (-1), 3) := by decide +kernel
theorem dX11_ask_128 : decode cX11_ask 128 = .ok (.goto (-79), 3) := by decide +kernel
theorem dX11_ask_131 : decode cX11_ask 131 = .ok (.sipush 608, 3) := by decide +kernel
theorem dX11_ask_134 : decode cX11_ask 134 = .ok (.iconst 5, 1) := by decide +kernel
theorem dX11_ask_135 : decode cX11_ask 135 = .ok (.iload 5, 2) := by decide +kernel
theorem dX11_ask_137 : decode cX11_ask 137 = .ok (.imul, 1) := by decide +kernel
theorem dX11_ask_138 : decode cX11_ask 138 = .ok (.iadd, 1) := by decide +kernel
theorem dX11_ask_139 : decode cX11_ask 139 = .ok (.istore 6, 2) := by decide +kernel
theorem dX11_ask_141 : decode cX11_ask 141 = .ok (.aload_n 0, 1) := by decide +kernel
theorem dX11_ask_142 : decode cX11_ask 142 = .ok (.getfield 7, 3) := by decide +kernel
theorem dX11_ask_145 : decode cX11_ask 145 = .ok (.iload 6, 2) := by decide +kernel
theorem dX11_ask_147 : decode cX11_ask 147 = .ok (.aload_n 0, 1) := by decide +kernel
theorem dX11_ask_148 : decode cX11_ask 148 = .ok (.getfield 7, 3) := by decide +kernel
theorem dX11_ask_151 : decode cX11_ask 151 = .ok (.sipush 726, 3) := by decide +kernel
theorem dX11_ask_154 : decode cX11_ask 154 = .ok (.iaload, 1) := by decide +kernel
theorem dX11_ask_155 : decode cX11_ask 155 = .ok (.iastore, 1) := by decide +kernel
theorem dX11_ask_156 : decode cX11_ask 156 = .ok (.aload_n 0, 1) := by decide +kernel
theorem dX11_ask_157 : decode cX11_ask 157 = .ok (.getfield 7, 3) := by decide +kernel
theorem dX11_ask_160 : decode cX11_ask 160 = .ok (.iload 6, 2) := by decide +kernel
theorem dX11_ask_162 : decode cX11_ask 162 = .ok (.iconst 1, 1) := by decide +kernel
theorem dX11_ask_163 : decode cX11_ask 163 = .ok (.iadd, 1) := by decide +kernel
theorem dX11_ask_164 : decode cX11_ask 164 = .ok (.iload_n 2, 1) := by decide +kernel
theorem dX11_ask_165 : decode cX11_ask 165 = .ok (.iastore, 1) := by decide +kernel
theorem dX11_ask_166 : decode cX11_ask 166 = .ok (.aload_n 0, 1) := by decide +kernel
theorem dX11_ask_167 : decode cX11_ask 167 = .ok (.getfield 7, 3) := by decide +kernel
theorem dX11_ask_170 : decode cX11_ask 170 = .ok (.iload 6, 2) := by decide +kernel
theorem dX11_ask_172 : decode cX11_ask 172 = .ok (.iconst 2, 1) := by decide +kernel
theorem dX11_ask_173 : decode cX11_ask 173 = .ok (.iadd, 1) := by decide +kernel
theorem dX11_ask_174 : decode cX11_ask 174 = .ok (.iload_n 3, 1) := by decide +kernel
theorem dX11_ask_175 : decode cX11_ask 175 = .ok (.iastore, 1) := by decide +kernel
theorem dX11_ask_176 : decode cX11_ask 176 = .ok (.aload_n 0, 1) := by decide +kernel
theorem dX11_ask_177 : decode cX11_ask 177 = .ok (.getfield 7, 3) := by decide +kernel
theorem dX11_ask_180 : decode cX11_ask 180 = .ok (.iload 6, 2) := by decide +kernel
theorem dX11_ask_182 : decode cX11_ask 182 = .ok (.iconst 3, 1) := by decide +kernel
theorem dX11_ask_183 : decode cX11_ask 183 = .ok (.iadd, 1) := by decide +kernel
theorem dX11_ask_184 : decode cX11_ask 184 = .ok (.iload 4, 2) := by decide +kernel
theorem dX11_ask_186 : decode cX11_ask 186 = .ok (.iastore, 1) := by decide +kernel
theorem dX11_ask_187 : decode cX11_ask 187 = .ok (.aload_n 0, 1) := by decide +kernel
theorem dX11_ask_188 : decode cX11_ask 188 = .ok (.getfield 7, 3) := by decide +kernel
theorem dX11_ask_191 : decode cX11_ask 191 = .ok (.iload 6, 2) := by decide +kernel
theorem dX11_ask_193 : decode cX11_ask 193 = .ok (.iconst 4, 1) := by decide +kernel
theorem dX11_ask_194 : decode cX11_ask 194 = .ok (.iadd, 1) := by decide +kernel
theorem dX11_ask_195 : decode cX11_ask 195 = .ok (.iload_n 1, 1) := by decide +kernel
theorem dX11_ask_196 : decode cX11_ask 196 = .ok (.ifCond .eq 7, 3) := by decide +kernel
theorem dX11_ask_199 : decode cX11_ask 199 = .ok (.iconst 1, 1) := by decide +kernel
theorem dX11_ask_200 : decode cX11_ask 200 = .ok (.goto 4, 3) := by decide +kernel
theorem dX11_ask_203 : decode cX11_ask 203 = .ok (.iconst 0, 1) := by decide +kernel
theorem dX11_ask_204 : decode cX11_ask 204 = .ok (.iastore, 1) := by decide +kernel
theorem dX11_ask_205 : decode cX11_ask 205 = .ok (.aload_n 0, 1) := by decide +kernel
theorem dX11_ask_206 : decode cX11_ask 206 = .ok (.getfield 7, 3) := by decide +kernel
theorem dX11_ask_209 : decode cX11_ask 209 = .ok (.sipush 725, 3) := by decide +kernel
theorem dX11_ask_212 : decode cX11_ask 212 = .ok (.dup2, 1) := by decide +kernel
theorem dX11_ask_213 : decode cX11_ask 213 = .ok (.iaload, 1) := by decide +kernel
theorem dX11_ask_214 : decode cX11_ask 214 = .ok (.iconst 1, 1) := by decide +kernel
theorem dX11_ask_215 : decode cX11_ask 215 = .ok (.iadd, 1) := by decide +kernel
theorem dX11_ask_216 : decode cX11_ask 216 = .ok (.iastore, 1) := by decide +kernel
theorem dX11_ask_217 : decode cX11_ask 217 = .ok (.aload_n 0, 1) := by decide +kernel
theorem dX11_ask_218 : decode cX11_ask 218 = .ok (.getfield 7, 3) := by decide +kernel
theorem dX11_ask_221 : decode cX11_ask 221 = .ok (.sipush 726, 3) := by decide +kernel
theorem dX11_ask_224 : decode cX11_ask 224 = .ok (.dup2, 1) := by decide +kernel
theorem dX11_ask_225 : decode cX11_ask 225 = .ok (.iaload, 1) := by decide +kernel
theorem dX11_ask_226 : decode cX11_ask 226 = .ok (.iconst 1, 1) := by decide +kernel
theorem dX11_ask_227 : decode cX11_ask 227 = .ok (.iadd, 1) := by decide +kernel
theorem dX11_ask_228 : decode cX11_ask 228 = .ok (.iastore, 1) := by decide +kernel
theorem dX11_ask_229 : decode cX11_ask 229 = .ok (.aload_n 0, 1) := by decide +kernel
theorem dX11_ask_230 : decode cX11_ask 230 = .ok (.getfield 7, 3) := by decide +kernel
theorem dX11_ask_233 : decode cX11_ask 233 = .ok (.sipush 726, 3) := by decide +kernel
theorem dX11_ask_236 : decode cX11_ask 236 = .ok (.iaload, 1) := by decide +kernel
theorem dX11_ask_237 : decode cX11_ask 237 = .ok (.iconst 1, 1) := by decide +kernel
theorem dX11_ask_238 : decode cX11_ask 238 = .ok (.isub, 1) := by decide +kernel
theorem dX11_ask_239 : decode cX11_ask 239 = .ok (.ireturn, 1) := by decide +kernel
theorem dX11_notes_0 : decode cX11_notes 0 = .ok (.aload_n 0, 1) := by decide +kernel
theorem dX11_notes_1 : decode cX11_notes 1 = .ok (.getfield 153, 3) := by decide +kernel
theorem dX11_notes_4 : decode cX11_notes 4 = .ok (.ifCond .eq 4, 3) := by decide +kernel
theorem dX11_notes_7 : decode cX11_notes 7 = .ok (.return_, 1) := by decide +kernel
theorem dX11_notes_8 : decode cX11_notes 8 = .ok (.aload_n 0, 1) := by decide +kernel
theorem dX11_notes_9 : decode cX11_notes 9 = .ok (.getfield 43, 3) := by decide +kernel
theorem dX11_notes_12 : decode cX11_notes 12 = .ok (.bipush 30, 2) := by decide +kernel
theorem dX11_notes_14 : decode cX11_notes 14 = .ok (.if_icmp .ne 45, 3) := by decide +kernel
theorem dX11_notes_17 : decode cX11_notes 17 = .ok (.iconst 0, 1) := by decide +kernel
theorem dX11_notes_18 : decode cX11_notes 18 = .ok (.istore 4, 2) := by decide +kernel
theorem dX11_notes_20 : decode cX11_notes 20 = .ok (.iload 4, 2) := by decide +kernel
theorem dX11_notes_22 : decode cX11_notes 22 = .ok (.bipush 116, 2) := by decide +kernel
theorem dX11_notes_24 : decode cX11_notes 24 = .ok (.if_icmp .ge 25, 3) := by decide +kernel
theorem dX11_notes_27 : decode cX11_notes 27 = .ok (.aload_n 0, 1) := by decide +kernel
theorem dX11_notes_28 : decode cX11_notes 28 = .ok (.getfield 23, 3) := by decide +kernel
theorem dX11_notes_31 : decode cX11_notes 31 = .ok (.iload 4, 2) := by decide +kernel
theorem dX11_notes_33 : decode cX11_notes 33 = .ok (.aload_n 0, 1) := by decide +kernel
theorem dX11_notes_34 : decode cX11_notes 34 = .ok (.getfield 23, 3) := by decide +kernel
theorem dX11_notes_37 : decode cX11_notes 37 = .ok (.iload 4, 2) := by decide +kernel
theorem dX11_notes_39 : decode cX11_notes 39 = .ok (.iconst 4, 1) := by decide +kernel
theorem dX11_notes_40 : decode cX11_notes 40 = .ok (.iadd, 1) := by decide +kernel
theorem dX11_notes_41 : decode cX11_notes 41 = .ok (.iaload, 1) := by decide +kernel
theorem dX11_notes_42 : decode cX11_notes 42 = .ok (.iastore, 1) := by decide +kernel
theorem dX11_notes_43 : decode cX11_notes 43 = .ok (.iinc 4 1, 3) := by decide +kernel
theorem dX11_notes_46 : decode cX11_notes 46 = .ok (.goto (-26), 3) := by decide +kernel
theorem dX11_notes_49 : decode cX11_notes 49 = .ok (.aload_n 0, 1) := by decide +kernel
theorem dX11_notes_50 : decode cX11_notes 50 = .ok (.dup, 1) := by decide +kernel
theorem dX11_notes_51 : decode cX11_notes 51 = .ok (.getfield 43, 3) := by decide +kernel
theorem dX11_notes_54 : decode cX11_notes 54 = .ok (.iconst 1, 1) := by decide +kernel
theorem dX11_notes_55 : decode cX11_notes 55 = .ok (.isub, 1) := by decide +kernel
theorem dX11_notes_56 : decode cX11_notes 56 = .ok (.putfield 43, 3) := by decide +kernel
theorem dX11_notes_59 : decode cX11_notes 59 = .ok (.aload_n 0, 1) := by decide +kernel
theorem dX11_notes_60 : decode cX11_notes 60 = .ok (.getfield 23, 3) := by decide +kernel
theorem dX11_notes_63 : decode cX11_notes 63 = .ok (.iconst 4, 1) := by decide +kernel
theorem dX11_notes_64 : decode cX11_notes 64 = .ok (.aload_n 0, 1) := by decide +kernel
theorem dX11_notes_65 : decode cX11_notes 65 = .ok (.getfield 43, 3) := by decide +kernel
theorem dX11_notes_68 : decode cX11_notes 68 = .ok (.imul, 1) := by decide +kernel
theorem dX11_notes_69 : decode cX11_notes 69 = .ok (.iload_n 1, 1) := by decide +kernel
theorem dX11_notes_70 : decode cX11_notes 70 = .ok (.iastore, 1) := by decide +kernel
theorem dX11_notes_71 : decode cX11_notes 71 = .ok (.aload_n 0, 1) := by decide +kernel
theorem dX11_notes_72 : decode cX11_notes 72 = .ok (.getfield 23, 3) := by decide +kernel
theorem dX11_notes_75 : decode cX11_notes 75 = .ok (.iconst 4, 1) := by decide +kernel
theorem dX11_notes_76 : decode cX11_notes 76 = .ok (.aload_n 0, 1) := by decide +kernel
theorem dX11_notes_77 : decode cX11_notes 77 = .ok (.getfield 43, 3) := by decide +kernel
theorem dX11_notes_80 : decode cX11_notes 80 = .ok (.imul, 1) := by decide +kernel
theorem dX11_notes_81 : decode cX11_notes 81 = .ok (.iconst 1, 1) := by decide +kernel
theorem dX11_notes_82 : decode cX11_notes 82 = .ok (.iadd, 1) := by decide +kernel
theorem dX11_notes_83 : decode cX11_notes 83 = .ok (.iload_n 2, 1) := by decide +kernel
theorem dX11_notes_84 : decode cX11_notes 84 = .ok (.iastore, 1) := by decide +kernel
theorem dX11_notes_85 : decode cX11_notes 85 = .ok (.aload_n 0, 1) := by decide +kernel
theorem dX11_notes_86 : decode cX11_notes 86 = .ok (.getfield 23, 3) := by decide +kernel
theorem dX11_notes_89 : decode cX11_notes 89 = .ok (.iconst 4, 1) := by decide +kernel
theorem dX11_notes_90 : decode cX11_notes 90 = .ok (.aload_n 0, 1) := by decide +kernel
theorem dX11_notes_91 : decode cX11_notes 91 = .ok (.getfield 43, 3) := by decide +kernel
theorem dX11_notes_94 : decode cX11_notes 94 = .ok (.imul, 1) := by decide +kernel
theorem dX11_notes_95 : decode cX11_notes 95 = .ok (.iconst 2, 1) := by decide +kernel
theorem dX11_notes_96 : decode cX11_notes 96 = .ok (.iadd, 1) := by decide +kernel
theorem dX11_notes_97 : decode cX11_notes 97 = .ok (.iload_n 3, 1) := by decide +kernel
theorem dX11_notes_98 : decode cX11_notes 98 = .ok (.iastore, 1) := by decide +kernel
theorem dX11_notes_99 : decode cX11_notes 99 = .ok (.aload_n 0, 1) := by decide +kernel
theorem dX11_notes_100 : decode cX11_notes 100 = .ok (.getfield 23, 3) := by decide +kernel
theorem dX11_notes_103 : decode cX11_notes 103 = .ok (.iconst 4, 1) := by decide +kernel
theorem dX11_notes_104 : decode cX11_notes 104 = .ok (.aload_n 0, 1) := by decide +kernel
theorem dX11_notes_105 : decode cX11_notes 105 = .ok (.getfield 43, 3) := by decide +kernel
theorem dX11_notes_108 : decode cX11_notes 108 = .ok (.imul, 1) := by decide +kernel
theorem dX11_notes_109 : decode cX11_notes 109 = .ok (.iconst 3, 1) := by decide +kernel
theorem dX11_notes_110 : decode cX11_notes 110 = .ok (.iadd, 1) := by decide +kernel
theorem dX11_notes_111 : decode cX11_notes 111 = .ok (.aload_n 0, 1) := by decide +kernel
theorem dX11_notes_112 : decode cX11_notes 112 = .ok (.getfield 7, 3) := by decide +kernel
theorem dX11_notes_115 : decode cX11_notes 115 = .ok (.sipush 727, 3) := by decide +kernel
theorem dX11_notes_118 : decode cX11_notes 118 = .ok (.iaload, 1) := by decide +kernel
theorem dX11_notes_119 : decode cX11_notes 119 = .ok (.iconst 1, 1) := by decide +kernel
theorem dX11_notes_120 : decode cX11_notes 120 = .ok (.iadd, 1) := by decide +kernel
theorem dX11_notes_121 : decode cX11_notes 121 = .ok (.iastore, 1) := by decide +kernel
theorem dX11_notes_122 : decode cX11_notes 122 = .ok (.aload_n 0, 1) := by decide +kernel
theorem dX11_notes_123 : decode cX11_notes 123 = .ok (.dup, 1) := by decide +kernel
theorem dX11_notes_124 : decode cX11_notes 124 = .ok (.getfield 43, 3) := by decide +kernel
theorem dX11_notes_127 : decode cX11_notes 127 = .ok (.iconst 1, 1) := by decide +kernel
theorem dX11_notes_128 : decode cX11_notes 128 = .ok (.iadd, 1) := by decide +kernel
theorem dX11_notes_129 : decode cX11_notes 129 = .ok (.putfield 43, 3) := by decide +kernel
theorem dX11_notes_132 : decode cX11_notes 132 = .ok (.return_, 1) := by decide +kernel
theorem dX11_costOf_0 : decode cX11_costOf 0 = .ok (.aload_n 0, 1) := by decide +kernel
theorem dX11_costOf_1 : decode cX11_costOf 1 = .ok (.getfield 7, 3) := by decide +kernel
theorem dX11_costOf_4 : decode cX11_costOf 4 = .ok (.sipush 608, 3) := by decide +kernel
theorem dX11_costOf_7 : decode cX11_costOf 7 = .ok (.iconst 5, 1) := by decide +kernel
theorem dX11_costOf_8 : decode cX11_costOf 8 = .ok (.iload_n 1, 1) := by decide +kernel
theorem dX11_costOf_9 : decode cX11_costOf 9 = .ok (.imul, 1) := by decide +kernel
theorem dX11_costOf_10 : decode cX11_costOf 10 = .ok (.iadd, 1) := by decide +kernel
theorem dX11_costOf_11 : decode cX11_costOf 11 = .ok (.iconst 1, 1) := by decide +kernel
theorem dX11_costOf_12 : decode cX11_costOf 12 = .ok (.iadd, 1) := by decide +kernel
theorem dX11_costOf_13 : decode cX11_costOf 13 = .ok (.iaload, 1) := by decide +kernel
theorem dX11_costOf_14 : decode cX11_costOf 14 = .ok (.istore_n 2, 1) := by decide +kernel
theorem dX11_costOf_15 : decode cX11_costOf 15 = .ok (.aload_n 0, 1) := by decide +kernel
theorem dX11_costOf_16 : decode cX11_costOf 16 = .ok (.getfield 7, 3) := by decide +kernel
theorem dX11_costOf_19 : decode cX11_costOf 19 = .ok (.sipush 608, 3) := by decide +kernel
theorem dX11_costOf_22 : decode cX11_costOf 22 = .ok (.iconst 5, 1) := by decide +kernel
theorem dX11_costOf_23 : decode cX11_costOf 23 = .ok (.iload_n 1, 1) := by decide +kernel
theorem dX11_costOf_24 : decode cX11_costOf 24 = .ok (.imul, 1) := by decide +kernel
theorem dX11_costOf_25 : decode cX11_costOf 25 = .ok (.iadd, 1) := by decide +kernel
theorem dX11_costOf_26 : decode cX11_costOf 26 = .ok (.iconst 4, 1) := by decide +kernel
theorem dX11_costOf_27 : decode cX11_costOf 27 = .ok (.iadd, 1) := by decide +kernel
theorem dX11_costOf_28 : decode cX11_costOf 28 = .ok (.iaload, 1) := by decide +kernel
theorem dX11_costOf_29 : decode cX11_costOf 29 = .ok (.ifCond .ne 30, 3) := by decide +kernel
theorem dX11_costOf_32 : decode cX11_costOf 32 = .ok (.aload_n 0, 1) := by decide +kernel
theorem dX11_costOf_33 : decode cX11_costOf 33 = .ok (.iload_n 2, 1) := by decide +kernel
theorem dX11_costOf_34 : decode cX11_costOf 34 = .ok (.invokevirtual 141, 3) := by decide +kernel
theorem dX11_costOf_37 : decode cX11_costOf 37 = .ok (.ifCond .ne 5, 3) := by decide +kernel
theorem dX11_costOf_40 : decode cX11_costOf 40 = .ok (.iconst 1, 1) := by decide +kernel
theorem dX11_costOf_41 : decode cX11_costOf 41 = .ok (.ireturn, 1) := by decide +kernel
theorem dX11_costOf_42 : decode cX11_costOf 42 = .ok (.aload_n 0, 1) := by decide +kernel
theorem dX11_costOf_43 : decode cX11_costOf 43 = .ok (.getfield 56, 3) := by decide +kernel
theorem dX11_costOf_46 : decode cX11_costOf 46 = .ok (.iconst 1, 1) := by decide +kernel
theorem dX11_costOf_47 : decode cX11_costOf 47 = .ok (.if_icmp .ge 7, 3) := by decide +kernel
theorem dX11_costOf_50 : decode cX11_costOf 50 = .ok (.iconst 1, 1) := by decide +kernel
theorem dX11_costOf_51 : decode cX11_costOf 51 = .ok (.goto 7, 3) := by decide +kernel
theorem dX11_costOf_54 : decode cX11_costOf 54 = .ok (.aload_n 0, 1) := by decide +kernel
theorem dX11_costOf_55 : decode cX11_costOf 55 = .ok (.getfield 56, 3) := by decide +kernel
theorem dX11_costOf_58 : decode cX11_costOf 58 = .ok (.ireturn, 1) := by decide +kernel
theorem dX11_costOf_59 : decode cX11_costOf 59 = .ok (.aload_n 0, 1) := by decide +kernel
theorem dX11_costOf_60 : decode cX11_costOf 60 = .ok (.iload_n 2, 1) := by decide +kernel
theorem dX11_costOf_61 : decode cX11_costOf 61 = .ok (.invokevirtual 129, 3) := by decide +kernel
theorem dX11_costOf_64 : decode cX11_costOf 64 = .ok (.ifCond .eq 5, 3) := by decide +kernel
theorem dX11_costOf_67 : decode cX11_costOf 67 = .ok (.iconst (-1), 1) := by decide +kernel
theorem dX11_costOf_68 : decode cX11_costOf 68 = .ok (.ireturn, 1) := by decide +kernel
theorem dX11_costOf_69 : decode cX11_costOf 69 = .ok (.aload_n 0, 1) := by decide +kernel
theorem dX11_costOf_70 : decode cX11_costOf 70 = .ok (.iload_n 2, 1) := by decide +kernel
theorem dX11_costOf_71 : decode cX11_costOf 71 = .ok (.invokevirtual 157, 3) := by decide +kernel
theorem dX11_costOf_74 : decode cX11_costOf 74 = .ok (.ifCond .eq 7, 3) := by decide +kernel
theorem dX11_costOf_77 : decode cX11_costOf 77 = .ok (.iconst 2, 1) := by decide +kernel
theorem dX11_costOf_78 : decode cX11_costOf 78 = .ok (.goto 4, 3) := by decide +kernel
theorem dX11_costOf_81 : decode cX11_costOf 81 = .ok (.iconst 1, 1) := by decide +kernel
theorem dX11_costOf_82 : decode cX11_costOf 82 = .ok (.ireturn, 1) := by decide +kernel
theorem dX11_canWrite_0 : decode cX11_canWrite 0 = .ok (.aload_n 0, 1) := by decide +kernel
theorem dX11_canWrite_1 : decode cX11_canWrite 1 = .ok (.iload_n 1, 1) := by decide +kernel
theorem dX11_canWrite_2 : decode cX11_canWrite 2 = .ok (.invokevirtual 135, 3) := by decide +kernel
theorem dX11_canWrite_5 : decode cX11_canWrite 5 = .ok (.istore_n 2, 1) := by decide +kernel
theorem dX11_canWrite_6 : decode cX11_canWrite 6 = .ok (.iload_n 2, 1) := by decide +kernel
theorem dX11_canWrite_7 : decode cX11_canWrite 7 = .ok (.iload_n 1, 1) := by decide +kernel
theorem dX11_canWrite_8 : decode cX11_canWrite 8 = .ok (.invokestatic 94, 3) := by decide +kernel
theorem dX11_canWrite_11 : decode cX11_canWrite 11 = .ok (.istore_n 3, 1) := by decide +kernel
theorem dX11_canWrite_12 : decode cX11_canWrite 12 = .ok (.iconst 0, 1) := by decide +kernel
theorem dX11_canWrite_13 : decode cX11_canWrite 13 = .ok (.istore 4, 2) := by decide +kernel
theorem dX11_canWrite_15 : decode cX11_canWrite 15 = .ok (.iload 4, 2) := by decide +kernel
theorem dX11_canWrite_17 : decode cX11_canWrite 17 = .ok (.iload_n 2, 1) := by decide +kernel
theorem dX11_canWrite_18 : decode cX11_canWrite 18 = .ok (.if_icmp .ge 42, 3) := by decide +kernel
theorem dX11_canWrite_21 : decode cX11_canWrite 21 = .ok (.iload 4, 2) := by decide +kernel
theorem dX11_canWrite_23 : decode cX11_canWrite 23 = .ok (.iload_n 2, 1) := by decide +kernel
theorem dX11_canWrite_24 : decode cX11_canWrite 24 = .ok (.iload_n 1, 1) := by decide +kernel
theorem dX11_canWrite_25 : decode cX11_canWrite 25 = .ok (.invokestatic 91, 3) := by decide +kernel
theorem dX11_canWrite_28 : decode cX11_canWrite 28 = .ok (.if_icmp .eq 26, 3) := by decide +kernel
theorem dX11_canWrite_31 : decode cX11_canWrite 31 = .ok (.iload 4, 2) := by decide +kernel
theorem dX11_canWrite_33 : decode cX11_canWrite 33 = .ok (.iload_n 2, 1) := by decide +kernel
theorem dX11_canWrite_34 : decode cX11_canWrite 34 = .ok (.iload_n 3, 1) := by decide +kernel
theorem dX11_canWrite_35 : decode cX11_canWrite 35 = .ok (.invokestatic 46, 3) := by decide +kernel
theorem dX11_canWrite_38 : decode cX11_canWrite 38 = .ok (.if_icmp .eq 16, 3) := by decide +kernel
theorem dX11_canWrite_41 : decode cX11_canWrite 41 = .ok (.aload_n 0, 1) := by decide +kernel
theorem dX11_canWrite_42 : decode cX11_canWrite 42 = .ok (.iload_n 2, 1) := by decide +kernel
theorem dX11_canWrite_43 : decode cX11_canWrite 43 = .ok (.iload 4, 2) := by decide +kernel
theorem dX11_canWrite_45 : decode cX11_canWrite 45 = .ok (.iload_n 3, 1) := by decide +kernel
theorem dX11_canWrite_46 : decode cX11_canWrite 46 = .ok (.invokevirtual 97, 3) := by decide +kernel
theorem dX11_canWrite_49 : decode cX11_canWrite 49 = .ok (.ifCond .ne 5, 3) := by decide +kernel
theorem dX11_canWrite_52 : decode cX11_canWrite 52 = .ok (.iconst 0, 1) := by decide +kernel
theorem dX11_canWrite_53 : decode cX11_canWrite 53 = .ok (.ireturn, 1) := by decide +kernel
theorem dX11_canWrite_54 : decode cX11_canWrite 54 = .ok (.iinc 4 1, 3) := by decide +kernel
theorem dX11_canWrite_57 : decode cX11_canWrite 57 = .ok (.goto (-42), 3) := by decide +kernel
theorem dX11_canWrite_60 : decode cX11_canWrite 60 = .ok (.iconst 1, 1) := by decide +kernel
theorem dX11_canWrite_61 : decode cX11_canWrite 61 = .ok (.ireturn, 1) := by decide +kernel
theorem dX11_serves_0 : decode cX11_serves 0 = .ok (.sipush 608, 3) := by decide +kernel
theorem dX11_serves_3 : decode cX11_serves 3 = .ok (.iconst 5, 1) := by decide +kernel
theorem dX11_serves_4 : decode cX11_serves 4 = .ok (.iload_n 1, 1) := by decide +kernel
theorem dX11_serves_5 : decode cX11_serves 5 = .ok (.imul, 1) := by decide +kernel
theorem dX11_serves_6 : decode cX11_serves 6 = .ok (.iadd, 1) := by decide +kernel
theorem dX11_serves_7 : decode cX11_serves 7 = .ok (.istore_n 2, 1) := by decide +kernel
theorem dX11_serves_8 : decode cX11_serves 8 = .ok (.aload_n 0, 1) := by decide +kernel
theorem dX11_serves_9 : decode cX11_serves 9 = .ok (.getfield 7, 3) := by decide +kernel
theorem dX11_serves_12 : decode cX11_serves 12 = .ok (.iload_n 2, 1) := by decide +kernel
theorem dX11_serves_13 : decode cX11_serves 13 = .ok (.iconst 1, 1) := by decide +kernel
theorem dX11_serves_14 : decode cX11_serves 14 = .ok (.iadd, 1) := by decide +kernel
theorem dX11_serves_15 : decode cX11_serves 15 = .ok (.iaload, 1) := by decide +kernel
theorem dX11_serves_16 : decode cX11_serves 16 = .ok (.istore_n 3, 1) := by decide +kernel
theorem dX11_serves_17 : decode cX11_serves 17 = .ok (.aload_n 0, 1) := by decide +kernel
theorem dX11_serves_18 : decode cX11_serves 18 = .ok (.getfield 7, 3) := by decide +kernel
theorem dX11_serves_21 : decode cX11_serves 21 = .ok (.iload_n 2, 1) := by decide +kernel
theorem dX11_serves_22 : decode cX11_serves 22 = .ok (.iconst 4, 1) := by decide +kernel
theorem dX11_serves_23 : decode cX11_serves 23 = .ok (.iadd, 1) := by decide +kernel
theorem dX11_serves_24 : decode cX11_serves 24 = .ok (.iaload, 1) := by decide +kernel
theorem dX11_serves_25 : decode cX11_serves 25 = .ok (.iconst 1, 1) := by decide +kernel
theorem dX11_serves_26 : decode cX11_serves 26 = .ok (.if_icmp .ne 7, 3) := by decide +kernel
theorem dX11_serves_29 : decode cX11_serves 29 = .ok (.iconst 1, 1) := by decide +kernel
theorem dX11_serves_30 : decode cX11_serves 30 = .ok (.goto 4, 3) := by decide +kernel
theorem dX11_serves_33 : decode cX11_serves 33 = .ok (.iconst 0, 1) := by decide +kernel
theorem dX11_serves_34 : decode cX11_serves 34 = .ok (.istore 4, 2) := by decide +kernel
theorem dX11_serves_36 : decode cX11_serves 36 = .ok (.iload 4, 2) := by decide +kernel
theorem dX11_serves_38 : decode cX11_serves 38 = .ok (.ifCond .eq 28, 3) := by decide +kernel
theorem dX11_serves_41 : decode cX11_serves 41 = .ok (.aload_n 0, 1) := by decide +kernel
theorem dX11_serves_42 : decode cX11_serves 42 = .ok (.iload_n 3, 1) := by decide +kernel
theorem dX11_serves_43 : decode cX11_serves 43 = .ok (.aload_n 0, 1) := by decide +kernel
theorem dX11_serves_44 : decode cX11_serves 44 = .ok (.getfield 7, 3) := by decide +kernel
theorem dX11_serves_47 : decode cX11_serves 47 = .ok (.iload_n 2, 1) := by decide +kernel
theorem dX11_serves_48 : decode cX11_serves 48 = .ok (.iconst 2, 1) := by decide +kernel
theorem dX11_serves_49 : decode cX11_serves 49 = .ok (.iadd, 1) := by decide +kernel
theorem dX11_serves_50 : decode cX11_serves 50 = .ok (.iaload, 1) := by decide +kernel
theorem dX11_serves_51 : decode cX11_serves 51 = .ok (.invokevirtual 144, 3) := by decide +kernel
theorem dX11_serves_54 : decode cX11_serves 54 = .ok (.iconst 1, 1) := by decide +kernel
theorem dX11_serves_55 : decode cX11_serves 55 = .ok (.if_icmp .ne 7, 3) := by decide +kernel
theorem dX11_serves_58 : decode cX11_serves 58 = .ok (.iconst 1, 1) := by decide +kernel
theorem dX11_serves_59 : decode cX11_serves 59 = .ok (.goto 12, 3) := by decide +kernel
theorem dX11_serves_62 : decode cX11_serves 62 = .ok (.iconst 0, 1) := by decide +kernel
theorem dX11_serves_63 : decode cX11_serves 63 = .ok (.goto 8, 3) := by decide +kernel
theorem dX11_serves_66 : decode cX11_serves 66 = .ok (.aload_n 0, 1) := by decide +kernel
theorem dX11_serves_67 : decode cX11_serves 67 = .ok (.iload_n 3, 1) := by decide +kernel
theorem dX11_serves_68 : decode cX11_serves 68 = .ok (.invokevirtual 141, 3) := by decide +kernel
theorem dX11_serves_71 : decode cX11_serves 71 = .ok (.istore 5, 2) := by decide +kernel
theorem dX11_serves_73 : decode cX11_serves 73 = .ok (.iload 5, 2) := by decide +kernel
theorem dX11_serves_75 : decode cX11_serves 75 = .ok (.ifCond .ne 7, 3) := by decide +kernel
theorem dX11_serves_78 : decode cX11_serves 78 = .ok (.iconst 0, 1) := by decide +kernel
theorem dX11_serves_79 : decode cX11_serves 79 = .ok (.goto 23, 3) := by decide +kernel
theorem dX11_serves_82 : decode cX11_serves 82 = .ok (.iload 4, 2) := by decide +kernel
theorem dX11_serves_84 : decode cX11_serves 84 = .ok (.ifCond .eq 14, 3) := by decide +kernel
theorem dX11_serves_87 : decode cX11_serves 87 = .ok (.aload_n 0, 1) := by decide +kernel
theorem dX11_serves_88 : decode cX11_serves 88 = .ok (.getfield 7, 3) := by decide +kernel
theorem dX11_serves_91 : decode cX11_serves 91 = .ok (.iload_n 2, 1) := by decide +kernel
theorem dX11_serves_92 : decode cX11_serves 92 = .ok (.iconst 2, 1) := by decide +kernel
theorem dX11_serves_93 : decode cX11_serves 93 = .ok (.iadd, 1) := by decide +kernel
theorem dX11_serves_94 : decode cX11_serves 94 = .ok (.iaload, 1) := by decide +kernel
theorem dX11_serves_95 : decode cX11_serves 95 = .ok (.goto 7, 3) := by decide +kernel
theorem dX11_serves_98 : decode cX11_serves 98 = .ok (.aload_n 0, 1) := by decide +kernel
theorem dX11_serves_99 : decode cX11_serves 99 = .ok (.getfield 53, 3) := by decide +kernel
theorem dX11_serves_102 : decode cX11_serves 102 = .ok (.istore 6, 2) := by decide +kernel
theorem dX11_serves_104 : decode cX11_serves 104 = .ok (.aload_n 0, 1) := by decide +kernel
theorem dX11_serves_105 : decode cX11_serves 105 = .ok (.aload_n 0, 1) := by decide +kernel
theorem dX11_serves_106 : decode cX11_serves 106 = .ok (.getfield 7, 3) := by decide +kernel
theorem dX11_serves_109 : decode cX11_serves 109 = .ok (.iload_n 2, 1) := by decide +kernel
theorem dX11_serves_110 : decode cX11_serves 110 = .ok (.iaload, 1) := by decide +kernel
theorem dX11_serves_111 : decode cX11_serves 111 = .ok (.iload 5, 2) := by decide +kernel
theorem dX11_serves_113 : decode cX11_serves 113 = .ok (.ifCond .ne 7, 3) := by decide +kernel
theorem dX11_serves_116 : decode cX11_serves 116 = .ok (.iconst 2, 1) := by decide +kernel
theorem dX11_serves_117 : decode cX11_serves 117 = .ok (.goto 13, 3) := by decide +kernel
theorem dX11_serves_120 : decode cX11_serves 120 = .ok (.iload 4, 2) := by decide +kernel
theorem dX11_serves_122 : decode cX11_serves 122 = .ok (.ifCond .eq 7, 3) := by decide +kernel
theorem dX11_serves_125 : decode cX11_serves 125 = .ok (.iconst 1, 1) := by decide +kernel
theorem dX11_serves_126 : decode cX11_serves 126 = .ok (.goto 4, 3) := by decide +kernel
theorem dX11_serves_129 : decode cX11_serves 129 = .ok (.iconst 0, 1) := by decide +kernel
theorem dX11_serves_130 : decode cX11_serves 130 = .ok (.iload 6, 2) := by decide +kernel
theorem dX11_serves_132 : decode cX11_serves 132 = .ok (.invokevirtual 160, 3) := by decide +kernel
theorem dX11_serves_135 : decode cX11_serves 135 = .ok (.aload_n 0, 1) := by decide +kernel
theorem dX11_serves_136 : decode cX11_serves 136 = .ok (.getfield 7, 3) := by decide +kernel
theorem dX11_serves_139 : decode cX11_serves 139 = .ok (.sipush 725, 3) := by decide +kernel
theorem dX11_serves_142 : decode cX11_serves 142 = .ok (.dup2, 1) := by decide +kernel
