theorem dX11_serves_143 : decode cX11_serves 143 = .ok (.iaload, 1) := by decide +kernel
theorem dX11_serves_144 : decode cX11_serves 144 = .ok (.iconst 1, 1) := by decide +kernel
theorem dX11_serves_145 : decode cX11_serves 145 = .ok (.isub, 1) := by decide +kernel
theorem dX11_serves_146 : decode cX11_serves 146 = .ok (.iastore, 1) := by decide +kernel
theorem dX11_serves_147 : decode cX11_serves 147 = .ok (.iconst 5, 1) := by decide +kernel
theorem dX11_serves_148 : decode cX11_serves 148 = .ok (.iload_n 1, 1) := by decide +kernel
theorem dX11_serves_149 : decode cX11_serves 149 = .ok (.imul, 1) := by decide +kernel
theorem dX11_serves_150 : decode cX11_serves 150 = .ok (.istore 7, 2) := by decide +kernel
theorem dX11_serves_152 : decode cX11_serves 152 = .ok (.iload 7, 2) := by decide +kernel
theorem dX11_serves_154 : decode cX11_serves 154 = .ok (.iconst 5, 1) := by decide +kernel
theorem dX11_serves_155 : decode cX11_serves 155 = .ok (.aload_n 0, 1) := by decide +kernel
theorem dX11_serves_156 : decode cX11_serves 156 = .ok (.getfield 7, 3) := by decide +kernel
theorem dX11_serves_159 : decode cX11_serves 159 = .ok (.sipush 725, 3) := by decide +kernel
theorem dX11_serves_162 : decode cX11_serves 162 = .ok (.iaload, 1) := by decide +kernel
theorem dX11_serves_163 : decode cX11_serves 163 = .ok (.imul, 1) := by decide +kernel
theorem dX11_serves_164 : decode cX11_serves 164 = .ok (.if_icmp .ge 33, 3) := by decide +kernel
theorem dX11_serves_167 : decode cX11_serves 167 = .ok (.aload_n 0, 1) := by decide +kernel
theorem dX11_serves_168 : decode cX11_serves 168 = .ok (.getfield 7, 3) := by decide +kernel
theorem dX11_serves_171 : decode cX11_serves 171 = .ok (.sipush 608, 3) := by decide +kernel
theorem dX11_serves_174 : decode cX11_serves 174 = .ok (.iload 7, 2) := by decide +kernel
theorem dX11_serves_176 : decode cX11_serves 176 = .ok (.iadd, 1) := by decide +kernel
theorem dX11_serves_177 : decode cX11_serves 177 = .ok (.aload_n 0, 1) := by decide +kernel
theorem dX11_serves_178 : decode cX11_serves 178 = .ok (.getfield 7, 3) := by decide +kernel
theorem dX11_serves_181 : decode cX11_serves 181 = .ok (.sipush 608, 3) := by decide +kernel
theorem dX11_serves_184 : decode cX11_serves 184 = .ok (.iload 7, 2) := by decide +kernel
theorem dX11_serves_186 : decode cX11_serves 186 = .ok (.iadd, 1) := by decide +kernel
theorem dX11_serves_187 : decode cX11_serves 187 = .ok (.iconst 5, 1) := by decide +kernel
theorem dX11_serves_188 : decode cX11_serves 188 = .ok (.iadd, 1) := by decide +kernel
theorem dX11_serves_189 : decode cX11_serves 189 = .ok (.iaload, 1) := by decide +kernel
theorem dX11_serves_190 : decode cX11_serves 190 = .ok (.iastore, 1) := by decide +kernel
theorem dX11_serves_191 : decode cX11_serves 191 = .ok (.iinc 7 1, 3) := by decide +kernel
theorem dX11_serves_194 : decode cX11_serves 194 = .ok (.goto (-42), 3) := by decide +kernel
theorem dX11_serves_197 : decode cX11_serves 197 = .ok (.return_, 1) := by decide +kernel
theorem dX11_ticks_0 : decode cX11_ticks 0 = .ok (.aload_n 0, 1) := by decide +kernel
theorem dX11_ticks_1 : decode cX11_ticks 1 = .ok (.invokevirtual 84, 3) := by decide +kernel
theorem dX11_ticks_4 : decode cX11_ticks 4 = .ok (.ifCond .ne 7, 3) := by decide +kernel
theorem dX11_ticks_7 : decode cX11_ticks 7 = .ok (.iconst 0, 1) := by decide +kernel
theorem dX11_ticks_8 : decode cX11_ticks 8 = .ok (.goto 27, 3) := by decide +kernel
theorem dX11_ticks_11 : decode cX11_ticks 11 = .ok (.aload_n 0, 1) := by decide +kernel
theorem dX11_ticks_12 : decode cX11_ticks 12 = .ok (.getfield 7, 3) := by decide +kernel
theorem dX11_ticks_15 : decode cX11_ticks 15 = .ok (.sipush 723, 3) := by decide +kernel
theorem dX11_ticks_18 : decode cX11_ticks 18 = .ok (.iaload, 1) := by decide +kernel
theorem dX11_ticks_19 : decode cX11_ticks 19 = .ok (.iload_n 1, 1) := by decide +kernel
theorem dX11_ticks_20 : decode cX11_ticks 20 = .ok (.if_icmp .ge 14, 3) := by decide +kernel
theorem dX11_ticks_23 : decode cX11_ticks 23 = .ok (.aload_n 0, 1) := by decide +kernel
theorem dX11_ticks_24 : decode cX11_ticks 24 = .ok (.getfield 7, 3) := by decide +kernel
theorem dX11_ticks_27 : decode cX11_ticks 27 = .ok (.sipush 723, 3) := by decide +kernel
theorem dX11_ticks_30 : decode cX11_ticks 30 = .ok (.iaload, 1) := by decide +kernel
theorem dX11_ticks_31 : decode cX11_ticks 31 = .ok (.goto 4, 3) := by decide +kernel
theorem dX11_ticks_34 : decode cX11_ticks 34 = .ok (.iload_n 1, 1) := by decide +kernel
theorem dX11_ticks_35 : decode cX11_ticks 35 = .ok (.istore_n 2, 1) := by decide +kernel
theorem dX11_ticks_36 : decode cX11_ticks 36 = .ok (.iload_n 1, 1) := by decide +kernel
theorem dX11_ticks_37 : decode cX11_ticks 37 = .ok (.iload_n 2, 1) := by decide +kernel
theorem dX11_ticks_38 : decode cX11_ticks 38 = .ok (.isub, 1) := by decide +kernel
theorem dX11_ticks_39 : decode cX11_ticks 39 = .ok (.istore_n 3, 1) := by decide +kernel
theorem dX11_ticks_40 : decode cX11_ticks 40 = .ok (.iconst 0, 1) := by decide +kernel
theorem dX11_ticks_41 : decode cX11_ticks 41 = .ok (.istore 4, 2) := by decide +kernel
theorem dX11_ticks_43 : decode cX11_ticks 43 = .ok (.iconst 0, 1) := by decide +kernel
theorem dX11_ticks_44 : decode cX11_ticks 44 = .ok (.istore 5, 2) := by decide +kernel
theorem dX11_ticks_46 : decode cX11_ticks 46 = .ok (.iconst 1, 1) := by decide +kernel
theorem dX11_ticks_47 : decode cX11_ticks 47 = .ok (.istore 6, 2) := by decide +kernel
theorem dX11_ticks_49 : decode cX11_ticks 49 = .ok (.iload 6, 2) := by decide +kernel
theorem dX11_ticks_51 : decode cX11_ticks 51 = .ok (.ifCond .eq 64, 3) := by decide +kernel
theorem dX11_ticks_54 : decode cX11_ticks 54 = .ok (.iload 5, 2) := by decide +kernel
theorem dX11_ticks_56 : decode cX11_ticks 56 = .ok (.aload_n 0, 1) := by decide +kernel
theorem dX11_ticks_57 : decode cX11_ticks 57 = .ok (.getfield 7, 3) := by decide +kernel
theorem dX11_ticks_60 : decode cX11_ticks 60 = .ok (.sipush 725, 3) := by decide +kernel
theorem dX11_ticks_63 : decode cX11_ticks 63 = .ok (.iaload, 1) := by decide +kernel
theorem dX11_ticks_64 : decode cX11_ticks 64 = .ok (.if_icmp .ge 51, 3) := by decide +kernel
theorem dX11_ticks_67 : decode cX11_ticks 67 = .ok (.aload_n 0, 1) := by decide +kernel
theorem dX11_ticks_68 : decode cX11_ticks 68 = .ok (.iload 5, 2) := by decide +kernel
theorem dX11_ticks_70 : decode cX11_ticks 70 = .ok (.invokevirtual 163, 3) := by decide +kernel
theorem dX11_ticks_73 : decode cX11_ticks 73 = .ok (.istore 7, 2) := by decide +kernel
theorem dX11_ticks_75 : decode cX11_ticks 75 = .ok (.iload 7, 2) := by decide +kernel
theorem dX11_ticks_77 : decode cX11_ticks 77 = .ok (.ifCond .ge 9, 3) := by decide +kernel
theorem dX11_ticks_80 : decode cX11_ticks 80 = .ok (.iinc 5 1, 3) := by decide +kernel
theorem dX11_ticks_83 : decode cX11_ticks 83 = .ok (.goto 29, 3) := by decide +kernel
theorem dX11_ticks_86 : decode cX11_ticks 86 = .ok (.iload 7, 2) := by decide +kernel
theorem dX11_ticks_88 : decode cX11_ticks 88 = .ok (.iload_n 3, 1) := by decide +kernel
theorem dX11_ticks_89 : decode cX11_ticks 89 = .ok (.if_icmp .gt 20, 3) := by decide +kernel
theorem dX11_ticks_92 : decode cX11_ticks 92 = .ok (.iload_n 3, 1) := by decide +kernel
theorem dX11_ticks_93 : decode cX11_ticks 93 = .ok (.iload 7, 2) := by decide +kernel
theorem dX11_ticks_95 : decode cX11_ticks 95 = .ok (.isub, 1) := by decide +kernel
theorem dX11_ticks_96 : decode cX11_ticks 96 = .ok (.istore_n 3, 1) := by decide +kernel
theorem dX11_ticks_97 : decode cX11_ticks 97 = .ok (.aload_n 0, 1) := by decide +kernel
theorem dX11_ticks_98 : decode cX11_ticks 98 = .ok (.iload 5, 2) := by decide +kernel
theorem dX11_ticks_100 : decode cX11_ticks 100 = .ok (.invokevirtual 166, 3) := by decide +kernel
theorem dX11_ticks_103 : decode cX11_ticks 103 = .ok (.iinc 4 1, 3) := by decide +kernel
theorem dX11_ticks_106 : decode cX11_ticks 106 = .ok (.goto 6, 3) := by decide +kernel
theorem dX11_ticks_109 : decode cX11_ticks 109 = .ok (.iconst 0, 1) := by decide +kernel
theorem dX11_ticks_110 : decode cX11_ticks 110 = .ok (.istore 6, 2) := by decide +kernel
theorem dX11_ticks_112 : decode cX11_ticks 112 = .ok (.goto (-63), 3) := by decide +kernel
theorem dX11_ticks_115 : decode cX11_ticks 115 = .ok (.iload_n 3, 1) := by decide +kernel
theorem dX11_ticks_116 : decode cX11_ticks 116 = .ok (.iload_n 2, 1) := by decide +kernel
theorem dX11_ticks_117 : decode cX11_ticks 117 = .ok (.iadd, 1) := by decide +kernel
theorem dX11_ticks_118 : decode cX11_ticks 118 = .ok (.istore_n 3, 1) := by decide +kernel
theorem dX11_ticks_119 : decode cX11_ticks 119 = .ok (.aload_n 0, 1) := by decide +kernel
theorem dX11_ticks_120 : decode cX11_ticks 120 = .ok (.invokevirtual 84, 3) := by decide +kernel
theorem dX11_ticks_123 : decode cX11_ticks 123 = .ok (.ifCond .eq 34, 3) := by decide +kernel
theorem dX11_ticks_126 : decode cX11_ticks 126 = .ok (.aload_n 0, 1) := by decide +kernel
theorem dX11_ticks_127 : decode cX11_ticks 127 = .ok (.iload_n 3, 1) := by decide +kernel
theorem dX11_ticks_128 : decode cX11_ticks 128 = .ok (.aload_n 0, 1) := by decide +kernel
theorem dX11_ticks_129 : decode cX11_ticks 129 = .ok (.getfield 7, 3) := by decide +kernel
theorem dX11_ticks_132 : decode cX11_ticks 132 = .ok (.sipush 724, 3) := by decide +kernel
theorem dX11_ticks_135 : decode cX11_ticks 135 = .ok (.iaload, 1) := by decide +kernel
theorem dX11_ticks_136 : decode cX11_ticks 136 = .ok (.if_icmp .ge 7, 3) := by decide +kernel
theorem dX11_ticks_139 : decode cX11_ticks 139 = .ok (.iload_n 3, 1) := by decide +kernel
theorem dX11_ticks_140 : decode cX11_ticks 140 = .ok (.goto 11, 3) := by decide +kernel
theorem dX11_ticks_143 : decode cX11_ticks 143 = .ok (.aload_n 0, 1) := by decide +kernel
theorem dX11_ticks_144 : decode cX11_ticks 144 = .ok (.getfield 7, 3) := by decide +kernel
theorem dX11_ticks_147 : decode cX11_ticks 147 = .ok (.sipush 724, 3) := by decide +kernel
theorem dX11_ticks_150 : decode cX11_ticks 150 = .ok (.iaload, 1) := by decide +kernel
theorem dX11_ticks_151 : decode cX11_ticks 151 = .ok (.invokevirtual 120, 3) := by decide +kernel
theorem dX11_ticks_154 : decode cX11_ticks 154 = .ok (.goto 4, 3) := by decide +kernel
theorem dX11_ticks_157 : decode cX11_ticks 157 = .ok (.iconst 0, 1) := by decide +kernel
theorem dX11_ticks_158 : decode cX11_ticks 158 = .ok (.istore 7, 2) := by decide +kernel
theorem dX11_ticks_160 : decode cX11_ticks 160 = .ok (.aload_n 0, 1) := by decide +kernel
theorem dX11_ticks_161 : decode cX11_ticks 161 = .ok (.getfield 7, 3) := by decide +kernel
theorem dX11_ticks_164 : decode cX11_ticks 164 = .ok (.sipush 727, 3) := by decide +kernel
theorem dX11_ticks_167 : decode cX11_ticks 167 = .ok (.dup2, 1) := by decide +kernel
theorem dX11_ticks_168 : decode cX11_ticks 168 = .ok (.iaload, 1) := by decide +kernel
theorem dX11_ticks_169 : decode cX11_ticks 169 = .ok (.iconst 1, 1) := by decide +kernel
theorem dX11_ticks_170 : decode cX11_ticks 170 = .ok (.iadd, 1) := by decide +kernel
theorem dX11_ticks_171 : decode cX11_ticks 171 = .ok (.iastore, 1) := by decide +kernel
theorem dX11_ticks_172 : decode cX11_ticks 172 = .ok (.iload 7, 2) := by decide +kernel
theorem dX11_ticks_174 : decode cX11_ticks 174 = .ok (.ifCond .ge 7, 3) := by decide +kernel
theorem dX11_ticks_177 : decode cX11_ticks 177 = .ok (.iconst (-1), 1) := by decide +kernel
theorem dX11_ticks_178 : decode cX11_ticks 178 = .ok (.goto 5, 3) := by decide +kernel
theorem dX11_ticks_181 : decode cX11_ticks 181 = .ok (.iload 4, 2) := by decide +kernel
theorem dX11_ticks_183 : decode cX11_ticks 183 = .ok (.ireturn, 1) := by decide +kernel
theorem dX11_tick_0 : decode cX11_tick 0 = .ok (.aload_n 0, 1) := by decide +kernel
theorem dX11_tick_1 : decode cX11_tick 1 = .ok (.iconst 0, 1) := by decide +kernel
theorem dX11_tick_2 : decode cX11_tick 2 = .ok (.putfield 39, 3) := by decide +kernel
theorem dX11_tick_5 : decode cX11_tick 5 = .ok (.iload_n 1, 1) := by decide +kernel
theorem dX11_tick_6 : decode cX11_tick 6 = .ok (.iconst 1, 1) := by decide +kernel
theorem dX11_tick_7 : decode cX11_tick 7 = .ok (.bipush 60, 2) := by decide +kernel
theorem dX11_tick_9 : decode cX11_tick 9 = .ok (.invokestatic 114, 3) := by decide +kernel
theorem dX11_tick_12 : decode cX11_tick 12 = .ok (.ifCond .eq 11, 3) := by decide +kernel
theorem dX11_tick_15 : decode cX11_tick 15 = .ok (.aload_n 0, 1) := by decide +kernel
theorem dX11_tick_16 : decode cX11_tick 16 = .ok (.iload_n 1, 1) := by decide +kernel
theorem dX11_tick_17 : decode cX11_tick 17 = .ok (.invokevirtual 170, 3) := by decide +kernel
theorem dX11_tick_20 : decode cX11_tick 20 = .ok (.goto 4, 3) := by decide +kernel
theorem dX11_tick_23 : decode cX11_tick 23 = .ok (.iconst (-1), 1) := by decide +kernel
theorem dX11_tick_24 : decode cX11_tick 24 = .ok (.ireturn, 1) := by decide +kernel
theorem dX11_served_0 : decode cX11_served 0 = .ok (.aload_n 0, 1) := by decide +kernel
theorem dX11_served_1 : decode cX11_served 1 = .ok (.iconst 1, 1) := by decide +kernel
theorem dX11_served_2 : decode cX11_served 2 = .ok (.putfield 39, 3) := by decide +kernel
theorem dX11_served_5 : decode cX11_served 5 = .ok (.aload_n 0, 1) := by decide +kernel
theorem dX11_served_6 : decode cX11_served 6 = .ok (.getfield 43, 3) := by decide +kernel
theorem dX11_served_9 : decode cX11_served 9 = .ok (.iconst 1, 1) := by decide +kernel
theorem dX11_served_10 : decode cX11_served 10 = .ok (.isub, 1) := by decide +kernel
theorem dX11_served_11 : decode cX11_served 11 = .ok (.istore_n 3, 1) := by decide +kernel
theorem dX11_served_12 : decode cX11_served 12 = .ok (.iload_n 3, 1) := by decide +kernel
theorem dX11_served_13 : decode cX11_served 13 = .ok (.ifCond .lt 51, 3) := by decide +kernel
theorem dX11_served_16 : decode cX11_served 16 = .ok (.iload_n 2, 1) := by decide +kernel
theorem dX11_served_17 : decode cX11_served 17 = .ok (.iconst 0, 1) := by decide +kernel
theorem dX11_served_18 : decode cX11_served 18 = .ok (.iconst 2, 1) := by decide +kernel
theorem dX11_served_19 : decode cX11_served 19 = .ok (.invokestatic 114, 3) := by decide +kernel
theorem dX11_served_22 : decode cX11_served 22 = .ok (.ifCond .eq 42, 3) := by decide +kernel
theorem dX11_served_25 : decode cX11_served 25 = .ok (.aload_n 0, 1) := by decide +kernel
theorem dX11_served_26 : decode cX11_served 26 = .ok (.getfield 23, 3) := by decide +kernel
theorem dX11_served_29 : decode cX11_served 29 = .ok (.iconst 4, 1) := by decide +kernel
theorem dX11_served_30 : decode cX11_served 30 = .ok (.iload_n 3, 1) := by decide +kernel
theorem dX11_served_31 : decode cX11_served 31 = .ok (.imul, 1) := by decide +kernel
theorem dX11_served_32 : decode cX11_served 32 = .ok (.iaload, 1) := by decide +kernel
theorem dX11_served_33 : decode cX11_served 33 = .ok (.iload_n 1, 1) := by decide +kernel
theorem dX11_served_34 : decode cX11_served 34 = .ok (.if_icmp .eq 6, 3) := by decide +kernel
theorem dX11_served_37 : decode cX11_served 37 = .ok (.goto 21, 3) := by decide +kernel
theorem dX11_served_40 : decode cX11_served 40 = .ok (.aload_n 0, 1) := by decide +kernel
theorem dX11_served_41 : decode cX11_served 41 = .ok (.iconst 0, 1) := by decide +kernel
theorem dX11_served_42 : decode cX11_served 42 = .ok (.putfield 39, 3) := by decide +kernel
theorem dX11_served_45 : decode cX11_served 45 = .ok (.aload_n 0, 1) := by decide +kernel
theorem dX11_served_46 : decode cX11_served 46 = .ok (.getfield 23, 3) := by decide +kernel
theorem dX11_served_49 : decode cX11_served 49 = .ok (.iconst 4, 1) := by decide +kernel
theorem dX11_served_50 : decode cX11_served 50 = .ok (.iload_n 3, 1) := by decide +kernel
theorem dX11_served_51 : decode cX11_served 51 = .ok (.imul, 1) := by decide +kernel
theorem dX11_served_52 : decode cX11_served 52 = .ok (.iconst 1, 1) := by decide +kernel
theorem dX11_served_53 : decode cX11_served 53 = .ok (.iadd, 1) := by decide +kernel
theorem dX11_served_54 : decode cX11_served 54 = .ok (.iload_n 2, 1) := by decide +kernel
theorem dX11_served_55 : decode cX11_served 55 = .ok (.iadd, 1) := by decide +kernel
theorem dX11_served_56 : decode cX11_served 56 = .ok (.iaload, 1) := by decide +kernel
theorem dX11_served_57 : decode cX11_served 57 = .ok (.ireturn, 1) := by decide +kernel
theorem dX11_served_58 : decode cX11_served 58 = .ok (.iinc 3 (-1), 3) := by decide +kernel
theorem dX11_served_61 : decode cX11_served 61 = .ok (.goto (-49), 3) := by decide +kernel
theorem dX11_served_64 : decode cX11_served 64 = .ok (.iconst 0, 1) := by decide +kernel
theorem dX11_served_65 : decode cX11_served 65 = .ok (.ireturn, 1) := by decide +kernel
theorem dX11_request_0 : decode cX11_request 0 = .ok (.aload_n 0, 1) := by decide +kernel
theorem dX11_request_1 : decode cX11_request 1 = .ok (.iconst 0, 1) := by decide +kernel
theorem dX11_request_2 : decode cX11_request 2 = .ok (.putfield 39, 3) := by decide +kernel
theorem dX11_request_5 : decode cX11_request 5 = .ok (.iload_n 2, 1) := by decide +kernel
theorem dX11_request_6 : decode cX11_request 6 = .ok (.iconst 0, 1) := by decide +kernel
theorem dX11_request_7 : decode cX11_request 7 = .ok (.iconst 3, 1) := by decide +kernel
theorem dX11_request_8 : decode cX11_request 8 = .ok (.invokestatic 114, 3) := by decide +kernel
theorem dX11_request_11 : decode cX11_request 11 = .ok (.ifCond .ne 5, 3) := by decide +kernel
theorem dX11_request_14 : decode cX11_request 14 = .ok (.iconst (-1), 1) := by decide +kernel
theorem dX11_request_15 : decode cX11_request 15 = .ok (.ireturn, 1) := by decide +kernel
theorem dX11_request_16 : decode cX11_request 16 = .ok (.iload_n 1, 1) := by decide +kernel
theorem dX11_request_17 : decode cX11_request 17 = .ok (.iconst (-1), 1) := by decide +kernel
theorem dX11_request_18 : decode cX11_request 18 = .ok (.if_icmp .ne 12, 3) := by decide +kernel
theorem dX11_request_21 : decode cX11_request 21 = .ok (.aload_n 0, 1) := by decide +kernel
theorem dX11_request_22 : decode cX11_request 22 = .ok (.getfield 7, 3) := by decide +kernel
theorem dX11_request_25 : decode cX11_request 25 = .ok (.sipush 725, 3) := by decide +kernel
theorem dX11_request_28 : decode cX11_request 28 = .ok (.iaload, 1) := by decide +kernel
theorem dX11_request_29 : decode cX11_request 29 = .ok (.ireturn, 1) := by decide +kernel
theorem dX11_request_30 : decode cX11_request 30 = .ok (.iload_n 1, 1) := by decide +kernel
theorem dX11_request_31 : decode cX11_request 31 = .ok (.iconst 0, 1) := by decide +kernel
theorem dX11_request_32 : decode cX11_request 32 = .ok (.aload_n 0, 1) := by decide +kernel
theorem dX11_request_33 : decode cX11_request 33 = .ok (.getfield 7, 3) := by decide +kernel
theorem dX11_request_36 : decode cX11_request 36 = .ok (.sipush 725, 3) := by decide +kernel
theorem dX11_request_39 : decode cX11_request 39 = .ok (.iaload, 1) := by decide +kernel
theorem dX11_request_40 : decode cX11_request 40 = .ok (.iconst 1, 1) := by decide +kernel
theorem dX11_request_41 : decode cX11_request 41 = .ok (.isub, 1) := by decide +kernel
theorem dX11_request_42 : decode cX11_request 42 = .ok (.invokestatic 114, 3) := by decide +kernel
theorem dX11_request_45 : decode cX11_request 45 = .ok (.ifCond .ne 5, 3) := by decide +kernel
theorem dX11_request_48 : decode cX11_request 48 = .ok (.iconst (-1), 1) := by decide +kernel
theorem dX11_request_49 : decode cX11_request 49 = .ok (.ireturn, 1) := by decide +kernel
theorem dX11_request_50 : decode cX11_request 50 = .ok (.sipush 608, 3) := by decide +kernel
theorem dX11_request_53 : decode cX11_request 53 = .ok (.iconst 5, 1) := by decide +kernel
theorem dX11_request_54 : decode cX11_request 54 = .ok (.iload_n 1, 1) := by decide +kernel
theorem dX11_request_55 : decode cX11_request 55 = .ok (.imul, 1) := by decide +kernel
theorem dX11_request_56 : decode cX11_request 56 = .ok (.iadd, 1) := by decide +kernel
theorem dX11_request_57 : decode cX11_request 57 = .ok (.istore_n 3, 1) := by decide +kernel
theorem dX11_request_58 : decode cX11_request 58 = .ok (.iload_n 2, 1) := by decide +kernel
theorem dX11_request_59 : decode cX11_request 59 = .ok (.ifCond .ne 12, 3) := by decide +kernel
theorem dX11_request_62 : decode cX11_request 62 = .ok (.aload_n 0, 1) := by decide +kernel
theorem dX11_request_63 : decode cX11_request 63 = .ok (.getfield 7, 3) := by decide +kernel
theorem dX11_request_66 : decode cX11_request 66 = .ok (.iload_n 3, 1) := by decide +kernel
theorem dX11_request_67 : decode cX11_request 67 = .ok (.iaload, 1) := by decide +kernel
theorem dX11_request_68 : decode cX11_request 68 = .ok (.goto 43, 3) := by decide +kernel
theorem dX11_request_71 : decode cX11_request 71 = .ok (.iload_n 2, 1) := by decide +kernel
theorem dX11_request_72 : decode cX11_request 72 = .ok (.iconst 1, 1) := by decide +kernel
theorem dX11_request_73 : decode cX11_request 73 = .ok (.if_icmp .ne 14, 3) := by decide +kernel
theorem dX11_request_76 : decode cX11_request 76 = .ok (.aload_n 0, 1) := by decide +kernel
theorem dX11_request_77 : decode cX11_request 77 = .ok (.getfield 7, 3) := by decide +kernel
theorem dX11_request_80 : decode cX11_request 80 = .ok (.iload_n 3, 1) := by decide +kernel
theorem dX11_request_81 : decode cX11_request 81 = .ok (.iconst 1, 1) := by decide +kernel
theorem dX11_request_82 : decode cX11_request 82 = .ok (.iadd, 1) := by decide +kernel
theorem dX11_request_83 : decode cX11_request 83 = .ok (.iaload, 1) := by decide +kernel
theorem dX11_request_84 : decode cX11_request 84 = .ok (.goto 27, 3) := by decide +kernel
theorem dX11_request_87 : decode cX11_request 87 = .ok (.iload_n 2, 1) := by decide +kernel
theorem dX11_request_88 : decode cX11_request 88 = .ok (.iconst 2, 1) := by decide +kernel
theorem dX11_request_89 : decode cX11_request 89 = .ok (.if_icmp .ne 14, 3) := by decide +kernel
theorem dX11_request_92 : decode cX11_request 92 = .ok (.aload_n 0, 1) := by decide +kernel
theorem dX11_request_93 : decode cX11_request 93 = .ok (.getfield 7, 3) := by decide +kernel
theorem dX11_request_96 : decode cX11_request 96 = .ok (.iload_n 3, 1) := by decide +kernel
theorem dX11_request_97 : decode cX11_request 97 = .ok (.iconst 3, 1) := by decide +kernel
theorem dX11_request_98 : decode cX11_request 98 = .ok (.iadd, 1) := by decide +kernel
theorem dX11_request_99 : decode cX11_request 99 = .ok (.iaload, 1) := by decide +kernel
theorem dX11_request_100 : decode cX11_request 100 = .ok (.goto 11, 3) := by decide +kernel
theorem dX11_request_103 : decode cX11_request 103 = .ok (.aload_n 0, 1) := by decide +kernel
theorem dX11_request_104 : decode cX11_request 104 = .ok (.getfield 7, 3) := by decide +kernel
theorem dX11_request_107 : decode cX11_request 107 = .ok (.iload_n 3, 1) := by decide +kernel
theorem dX11_request_108 : decode cX11_request 108 = .ok (.iconst 4, 1) := by decide +kernel
theorem dX11_request_109 : decode cX11_request 109 = .ok (.iadd, 1) := by decide +kernel
theorem dX11_request_110 : decode cX11_request 110 = .ok (.iaload, 1) := by decide +kernel
theorem dX11_request_111 : decode cX11_request 111 = .ok (.ireturn, 1) := by decide +kernel
theorem dX11_isOff_0 : decode cX11_isOff 0 = .ok (.aload_n 0, 1) := by decide +kernel
theorem dX11_isOff_1 : decode cX11_isOff 1 = .ok (.invokevirtual 88, 3) := by decide +kernel
theorem dX11_isOff_4 : decode cX11_isOff 4 = .ok (.ifCond .eq 42, 3) := by decide +kernel
theorem dX11_isOff_7 : decode cX11_isOff 7 = .ok (.iload_n 1, 1) := by decide +kernel
theorem dX11_isOff_8 : decode cX11_isOff 8 = .ok (.aload_n 0, 1) := by decide +kernel
theorem dX11_isOff_9 : decode cX11_isOff 9 = .ok (.getfield 7, 3) := by decide +kernel
theorem dX11_isOff_12 : decode cX11_isOff 12 = .ok (.sipush 718, 3) := by decide +kernel
theorem dX11_isOff_15 : decode cX11_isOff 15 = .ok (.iaload, 1) := by decide +kernel
theorem dX11_isOff_16 : decode cX11_isOff 16 = .ok (.if_icmp .lt 30, 3) := by decide +kernel
theorem dX11_isOff_19 : decode cX11_isOff 19 = .ok (.iload_n 1, 1) := by decide +kernel
theorem dX11_isOff_20 : decode cX11_isOff 20 = .ok (.aload_n 0, 1) := by decide +kernel
theorem dX11_isOff_21 : decode cX11_isOff 21 = .ok (.getfield 7, 3) := by decide +kernel
theorem dX11_isOff_24 : decode cX11_isOff 24 = .ok (.sipush 718, 3) := by decide +kernel
theorem dX11_isOff_27 : decode cX11_isOff 27 = .ok (.iaload, 1) := by decide +kernel
theorem dX11_isOff_28 : decode cX11_isOff 28 = .ok (.aload_n 0, 1) := by decide +kernel
theorem dX11_isOff_29 : decode cX11_isOff 29 = .ok (.aload_n 0, 1) := by decide +kernel
theorem dX11_isOff_30 : decode cX11_isOff 30 = .ok (.getfield 7, 3) := by decide +kernel
theorem dX11_isOff_33 : decode cX11_isOff 33 = .ok (.sipush 718, 3) := by decide +kernel
theorem dX11_isOff_36 : decode cX11_isOff 36 = .ok (.iaload, 1) := by decide +kernel
theorem dX11_isOff_37 : decode cX11_isOff 37 = .ok (.invokevirtual 70, 3) := by decide +kernel
theorem dX11_isOff_40 : decode cX11_isOff 40 = .ok (.iadd, 1) := by decide +kernel
theorem dX11_isOff_41 : decode cX11_isOff 41 = .ok (.if_icmp .ge 5, 3) := by decide +kernel
theorem dX11_isOff_44 : decode cX11_isOff 44 = .ok (.iconst 0, 1) := by decide +kernel
theorem dX11_isOff_45 : decode cX11_isOff 45 = .ok (.ireturn, 1) := by decide +kernel
theorem dX11_isOff_46 : decode cX11_isOff 46 = .ok (.aload_n 0, 1) := by decide +kernel
theorem dX11_isOff_47 : decode cX11_isOff 47 = .ok (.invokevirtual 84, 3) := by decide +kernel
theorem dX11_isOff_50 : decode cX11_isOff 50 = .ok (.ifCond .eq 28, 3) := by decide +kernel
theorem dX11_isOff_53 : decode cX11_isOff 53 = .ok (.iload_n 1, 1) := by decide +kernel
theorem dX11_isOff_54 : decode cX11_isOff 54 = .ok (.aload_n 0, 1) := by decide +kernel
theorem dX11_isOff_55 : decode cX11_isOff 55 = .ok (.getfield 7, 3) := by decide +kernel
theorem dX11_isOff_58 : decode cX11_isOff 58 = .ok (.sipush 718, 3) := by decide +kernel
theorem dX11_isOff_61 : decode cX11_isOff 61 = .ok (.iaload, 1) := by decide +kernel
theorem dX11_isOff_62 : decode cX11_isOff 62 = .ok (.if_icmp .ge 16, 3) := by decide +kernel
theorem dX11_isOff_65 : decode cX11_isOff 65 = .ok (.aload_n 0, 1) := by decide +kernel
theorem dX11_isOff_66 : decode cX11_isOff 66 = .ok (.getfield 7, 3) := by decide +kernel
theorem dX11_isOff_69 : decode cX11_isOff 69 = .ok (.sipush 715, 3) := by decide +kernel
theorem dX11_isOff_72 : decode cX11_isOff 72 = .ok (.iaload, 1) := by decide +kernel
theorem dX11_isOff_73 : decode cX11_isOff 73 = .ok (.iconst 1, 1) := by decide +kernel
theorem dX11_isOff_74 : decode cX11_isOff 74 = .ok (.iadd, 1) := by decide +kernel
theorem dX11_isOff_75 : decode cX11_isOff 75 = .ok (.goto 11, 3) := by decide +kernel
theorem dX11_isOff_78 : decode cX11_isOff 78 = .ok (.aload_n 0, 1) := by decide +kernel
theorem dX11_isOff_79 : decode cX11_isOff 79 = .ok (.getfield 7, 3) := by decide +kernel
theorem dX11_isOff_82 : decode cX11_isOff 82 = .ok (.sipush 715, 3) := by decide +kernel
theorem dX11_isOff_85 : decode cX11_isOff 85 = .ok (.iaload, 1) := by decide +kernel
theorem dX11_isOff_86 : decode cX11_isOff 86 = .ok (.istore_n 2, 1) := by decide +kernel
theorem dX11_isOff_87 : decode cX11_isOff 87 = .ok (.iconst 0, 1) := by decide +kernel
theorem dX11_isOff_88 : decode cX11_isOff 88 = .ok (.istore_n 3, 1) := by decide +kernel
theorem dX11_isOff_89 : decode cX11_isOff 89 = .ok (.iconst 0, 1) := by decide +kernel
theorem dX11_isOff_90 : decode cX11_isOff 90 = .ok (.istore 4, 2) := by decide +kernel
theorem dX11_isOff_92 : decode cX11_isOff 92 = .ok (.iload 4, 2) := by decide +kernel
theorem dX11_isOff_94 : decode cX11_isOff 94 = .ok (.iload_n 2, 1) := by decide +kernel
theorem dX11_isOff_95 : decode cX11_isOff 95 = .ok (.if_icmp .ge 37, 3) := by decide +kernel
theorem dX11_isOff_98 : decode cX11_isOff 98 = .ok (.aload_n 0, 1) := by decide +kernel
theorem dX11_isOff_99 : decode cX11_isOff 99 = .ok (.iload 4, 2) := by decide +kernel
theorem dX11_isOff_101 : decode cX11_isOff 101 = .ok (.iload_n 1, 1) := by decide +kernel
theorem dX11_isOff_102 : decode cX11_isOff 102 = .ok (.invokevirtual 59, 3) := by decide +kernel
theorem dX11_isOff_105 : decode cX11_isOff 105 = .ok (.ifCond .ne 5, 3) := by decide +kernel
theorem dX11_isOff_108 : decode cX11_isOff 108 = .ok (.iconst 0, 1) := by decide +kernel
theorem dX11_isOff_109 : decode cX11_isOff 109 = .ok (.ireturn, 1) := by decide +kernel
theorem dX11_isOff_110 : decode cX11_isOff 110 = .ok (.iload_n 3, 1) := by decide +kernel
theorem dX11_isOff_111 : decode cX11_isOff 111 = .ok (.aload_n 0, 1) := by decide +kernel
theorem dX11_isOff_112 : decode cX11_isOff 112 = .ok (.getfield 7, 3) := by decide +kernel
theorem dX11_isOff_115 : decode cX11_isOff 115 = .ok (.iconst 0, 1) := by decide +kernel
theorem dX11_isOff_116 : decode cX11_isOff 116 = .ok (.iload 4, 2) := by decide +kernel
theorem dX11_isOff_118 : decode cX11_isOff 118 = .ok (.iload_n 1, 1) := by decide +kernel
theorem dX11_isOff_119 : decode cX11_isOff 119 = .ok (.invokestatic 50, 3) := by decide +kernel
theorem dX11_isOff_122 : decode cX11_isOff 122 = .ok (.iadd, 1) := by decide +kernel
theorem dX11_isOff_123 : decode cX11_isOff 123 = .ok (.iaload, 1) := by decide +kernel
theorem dX11_isOff_124 : decode cX11_isOff 124 = .ok (.ixor, 1) := by decide +kernel
theorem dX11_isOff_125 : decode cX11_isOff 125 = .ok (.istore_n 3, 1) := by decide +kernel
theorem dX11_isOff_126 : decode cX11_isOff 126 = .ok (.iinc 4 1, 3) := by decide +kernel
theorem dX11_isOff_129 : decode cX11_isOff 129 = .ok (.goto (-37), 3) := by decide +kernel
theorem dX11_isOff_132 : decode cX11_isOff 132 = .ok (.iload_n 3, 1) := by decide +kernel
theorem dX11_isOff_133 : decode cX11_isOff 133 = .ok (.ifCond .eq 7, 3) := by decide +kernel
theorem dX11_isOff_136 : decode cX11_isOff 136 = .ok (.iconst 1, 1) := by decide +kernel
theorem dX11_isOff_137 : decode cX11_isOff 137 = .ok (.goto 4, 3) := by decide +kernel
theorem dX11_isOff_140 : decode cX11_isOff 140 = .ok (.iconst 0, 1) := by decide +kernel
theorem dX11_isOff_141 : decode cX11_isOff 141 = .ok (.ireturn, 1) := by decide +kernel
theorem dX11_scrub_0 : decode cX11_scrub 0 = .ok (.aload_n 0, 1) := by decide +kernel
theorem dX11_scrub_1 : decode cX11_scrub 1 = .ok (.iconst 0, 1) := by decide +kernel
theorem dX11_scrub_2 : decode cX11_scrub 2 = .ok (.putfield 39, 3) := by decide +kernel
theorem dX11_scrub_5 : decode cX11_scrub 5 = .ok (.iconst 0, 1) := by decide +kernel
theorem dX11_scrub_6 : decode cX11_scrub 6 = .ok (.istore_n 2, 1) := by decide +kernel
theorem dX11_scrub_7 : decode cX11_scrub 7 = .ok (.iconst 0, 1) := by decide +kernel
theorem dX11_scrub_8 : decode cX11_scrub 8 = .ok (.istore_n 3, 1) := by decide +kernel
theorem dX11_scrub_9 : decode cX11_scrub 9 = .ok (.iload_n 3, 1) := by decide +kernel
theorem dX11_scrub_10 : decode cX11_scrub 10 = .ok (.aload_n 0, 1) := by decide +kernel
theorem dX11_scrub_11 : decode cX11_scrub 11 = .ok (.getfield 7, 3) := by decide +kernel
theorem dX11_scrub_14 : decode cX11_scrub 14 = .ok (.sipush 716, 3) := by decide +kernel
theorem dX11_scrub_17 : decode cX11_scrub 17 = .ok (.iaload, 1) := by decide +kernel
theorem dX11_scrub_18 : decode cX11_scrub 18 = .ok (.if_icmp .ge 30, 3) := by decide +kernel
theorem dX11_scrub_21 : decode cX11_scrub 21 = .ok (.aload_n 0, 1) := by decide +kernel
theorem dX11_scrub_22 : decode cX11_scrub 22 = .ok (.iload_n 3, 1) := by decide +kernel
theorem dX11_scrub_23 : decode cX11_scrub 23 = .ok (.invokevirtual 173, 3) := by decide +kernel
theorem dX11_scrub_26 : decode cX11_scrub 26 = .ok (.ifCond .ne 6, 3) := by decide +kernel
theorem dX11_scrub_29 : decode cX11_scrub 29 = .ok (.goto 13, 3) := by decide +kernel
theorem dX11_scrub_32 : decode cX11_scrub 32 = .ok (.iload_n 2, 1) := by decide +kernel
theorem dX11_scrub_33 : decode cX11_scrub 33 = .ok (.iload_n 1, 1) := by decide +kernel
theorem dX11_scrub_34 : decode cX11_scrub 34 = .ok (.if_icmp .ne 5, 3) := by decide +kernel
theorem dX11_scrub_37 : decode cX11_scrub 37 = .ok (.iload_n 3, 1) := by decide +kernel
theorem dX11_scrub_38 : decode cX11_scrub 38 = .ok (.ireturn, 1) := by decide +kernel
theorem dX11_scrub_39 : decode cX11_scrub 39 = .ok (.iinc 2 1, 3) := by decide +kernel
theorem dX11_scrub_42 : decode cX11_scrub 42 = .ok (.iinc 3 1, 3) := by decide +kernel
theorem dX11_scrub_45 : decode cX11_scrub 45 = .ok (.goto (-36), 3) := by decide +kernel
theorem dX11_scrub_48 : decode cX11_scrub 48 = .ok (.iload_n 1, 1) := by decide +kernel
theorem dX11_scrub_49 : decode cX11_scrub 49 = .ok (.iconst (-1), 1) := by decide +kernel
theorem dX11_scrub_50 : decode cX11_scrub 50 = .ok (.if_icmp .ne 7, 3) := by decide +kernel
theorem dX11_scrub_53 : decode cX11_scrub 53 = .ok (.iload_n 2, 1) := by decide +kernel
theorem dX11_scrub_54 : decode cX11_scrub 54 = .ok (.goto 4, 3) := by decide +kernel
theorem dX11_scrub_57 : decode cX11_scrub 57 = .ok (.iconst (-1), 1) := by decide +kernel
theorem dX11_scrub_58 : decode cX11_scrub 58 = .ok (.ireturn, 1) := by decide +kernel
theorem dX11_repair_0 : decode cX11_repair 0 = .ok (.aload_n 0, 1) := by decide +kernel
theorem dX11_repair_1 : decode cX11_repair 1 = .ok (.iconst 0, 1) := by decide +kernel
theorem dX11_repair_2 : decode cX11_repair 2 = .ok (.putfield 39, 3) := by decide +kernel
theorem dX11_repair_5 : decode cX11_repair 5 = .ok (.iconst 0, 1) := by decide +kernel
theorem dX11_repair_6 : decode cX11_repair 6 = .ok (.istore_n 1, 1) := by decide +kernel
theorem dX11_repair_7 : decode cX11_repair 7 = .ok (.iconst 0, 1) := by decide +kernel
theorem dX11_repair_8 : decode cX11_repair 8 = .ok (.istore_n 2, 1) := by decide +kernel
theorem dX11_repair_9 : decode cX11_repair 9 = .ok (.iload_n 2, 1) := by decide +kernel
theorem dX11_repair_10 : decode cX11_repair 10 = .ok (.aload_n 0, 1) := by decide +kernel
theorem dX11_repair_11 : decode cX11_repair 11 = .ok (.getfield 7, 3) := by decide +kernel
theorem dX11_repair_14 : decode cX11_repair 14 = .ok (.sipush 716, 3) := by decide +kernel
theorem dX11_repair_17 : decode cX11_repair 17 = .ok (.iaload, 1) := by decide +kernel
theorem dX11_repair_18 : decode cX11_repair 18 = .ok (.if_icmp .ge 123, 3) := by decide +kernel
theorem dX11_repair_21 : decode cX11_repair 21 = .ok (.aload_n 0, 1) := by decide +kernel
theorem dX11_repair_22 : decode cX11_repair 22 = .ok (.iload_n 2, 1) := by decide +kernel
theorem dX11_repair_23 : decode cX11_repair 23 = .ok (.invokevirtual 173, 3) := by decide +kernel
theorem dX11_repair_26 : decode cX11_repair 26 = .ok (.ifCond .ne 6, 3) := by decide +kernel
theorem dX11_repair_29 : decode cX11_repair 29 = .ok (.goto 106, 3) := by decide +kernel
theorem dX11_repair_32 : decode cX11_repair 32 = .ok (.aload_n 0, 1) := by decide +kernel
theorem dX11_repair_33 : decode cX11_repair 33 = .ok (.invokevirtual 84, 3) := by decide +kernel
theorem dX11_repair_36 : decode cX11_repair 36 = .ok (.ifCond .eq 28, 3) := by decide +kernel
theorem dX11_repair_39 : decode cX11_repair 39 = .ok (.iload_n 2, 1) := by decide +kernel
theorem dX11_repair_40 : decode cX11_repair 40 = .ok (.aload_n 0, 1) := by decide +kernel
theorem dX11_repair_41 : decode cX11_repair 41 = .ok (.getfield 7, 3) := by decide +kernel
theorem dX11_repair_44 : decode cX11_repair 44 = .ok (.sipush 718, 3) := by decide +kernel
theorem dX11_repair_47 : decode cX11_repair 47 = .ok (.iaload, 1) := by decide +kernel
theorem dX11_repair_48 : decode cX11_repair 48 = .ok (.if_icmp .ge 16, 3) := by decide +kernel
theorem dX11_repair_51 : decode cX11_repair 51 = .ok (.aload_n 0, 1) := by decide +kernel
theorem dX11_repair_52 : decode cX11_repair 52 = .ok (.getfield 7, 3) := by decide +kernel
theorem dX11_repair_55 : decode cX11_repair 55 = .ok (.sipush 715, 3) := by decide +kernel
theorem dX11_repair_58 : decode cX11_repair 58 = .ok (.iaload, 1) := by decide +kernel
theorem dX11_repair_59 : decode cX11_repair 59 = .ok (.iconst 1, 1) := by decide +kernel
theorem dX11_repair_60 : decode cX11_repair 60 = .ok (.iadd, 1) := by decide +kernel
theorem dX11_repair_61 : decode cX11_repair 61 = .ok (.goto 11, 3) := by decide +kernel
theorem dX11_repair_64 : decode cX11_repair 64 = .ok (.aload_n 0, 1) := by decide +kernel
theorem dX11_repair_65 : decode cX11_repair 65 = .ok (.getfield 7, 3) := by decide +kernel
theorem dX11_repair_68 : decode cX11_repair 68 = .ok (.sipush 715, 3) := by decide +kernel
theorem dX11_repair_71 : decode cX11_repair 71 = .ok (.iaload, 1) := by decide +kernel
theorem dX11_repair_72 : decode cX11_repair 72 = .ok (.istore_n 3, 1) := by decide +kernel
theorem dX11_repair_73 : decode cX11_repair 73 = .ok (.iload_n 3, 1) := by decide +kernel
theorem dX11_repair_74 : decode cX11_repair 74 = .ok (.iload_n 2, 1) := by decide +kernel
theorem dX11_repair_75 : decode cX11_repair 75 = .ok (.invokestatic 46, 3) := by decide +kernel
theorem dX11_repair_78 : decode cX11_repair 78 = .ok (.istore 4, 2) := by decide +kernel
theorem dX11_repair_80 : decode cX11_repair 80 = .ok (.iconst 0, 1) := by decide +kernel
theorem dX11_repair_81 : decode cX11_repair 81 = .ok (.istore 5, 2) := by decide +kernel
theorem dX11_repair_83 : decode cX11_repair 83 = .ok (.iconst 0, 1) := by decide +kernel
theorem dX11_repair_84 : decode cX11_repair 84 = .ok (.istore 6, 2) := by decide +kernel
theorem dX11_repair_86 : decode cX11_repair 86 = .ok (.iload 6, 2) := by decide +kernel
theorem dX11_repair_88 : decode cX11_repair 88 = .ok (.iload_n 3, 1) := by decide +kernel
theorem dX11_repair_89 : decode cX11_repair 89 = .ok (.if_icmp .ge 34, 3) := by decide +kernel
theorem dX11_repair_92 : decode cX11_repair 92 = .ok (.iload 6, 2) := by decide +kernel
theorem dX11_repair_94 : decode cX11_repair 94 = .ok (.iload 4, 2) := by decide +kernel
theorem dX11_repair_96 : decode cX11_repair 96 = .ok (.if_icmp .eq 21, 3) := by decide +kernel
theorem dX11_repair_99 : decode cX11_repair 99 = .ok (.iload 5, 2) := by decide +kernel
theorem dX11_repair_101 : decode cX11_repair 101 = .ok (.aload_n 0, 1) := by decide +kernel
theorem dX11_repair_102 : decode cX11_repair 102 = .ok (.getfield 7, 3) := by decide +kernel
theorem dX11_repair_105 : decode cX11_repair 105 = .ok (.iconst 0, 1) := by decide +kernel
theorem dX11_repair_106 : decode cX11_repair 106 = .ok (.iload 6, 2) := by decide +kernel
theorem dX11_repair_108 : decode cX11_repair 108 = .ok (.iload_n 2, 1) := by decide +kernel
theorem dX11_repair_109 : decode cX11_repair 109 = .ok (.invokestatic 50, 3) := by decide +kernel
theorem dX11_repair_112 : decode cX11_repair 112 = .ok (.iadd, 1) := by decide +kernel
theorem dX11_repair_113 : decode cX11_repair 113 = .ok (.iaload, 1) := by decide +kernel
theorem dX11_repair_114 : decode cX11_repair 114 = .ok (.ixor, 1) := by decide +kernel
theorem dX11_repair_115 : decode cX11_repair 115 = .ok (.istore 5, 2) := by decide +kernel
theorem dX11_repair_117 : decode cX11_repair 117 = .ok (.iinc 6 1, 3) := by decide +kernel
theorem dX11_repair_120 : decode cX11_repair 120 = .ok (.goto (-34), 3) := by decide +kernel
theorem dX11_repair_123 : decode cX11_repair 123 = .ok (.aload_n 0, 1) := by decide +kernel
theorem dX11_repair_124 : decode cX11_repair 124 = .ok (.iload 4, 2) := by decide +kernel
theorem dX11_repair_126 : decode cX11_repair 126 = .ok (.iload_n 2, 1) := by decide +kernel
theorem dX11_repair_127 : decode cX11_repair 127 = .ok (.iload 5, 2) := by decide +kernel
theorem dX11_repair_129 : decode cX11_repair 129 = .ok (.invokevirtual 110, 3) := by decide +kernel
theorem dX11_repair_132 : decode cX11_repair 132 = .ok (.iinc 1 1, 3) := by decide +kernel
theorem dX11_repair_135 : decode cX11_repair 135 = .ok (.iinc 2 1, 3) := by decide +kernel
theorem dX11_repair_138 : decode cX11_repair 138 = .ok (.goto (-129), 3) := by decide +kernel
theorem dX11_repair_141 : decode cX11_repair 141 = .ok (.iload_n 1, 1) := by decide +kernel
theorem dX11_repair_142 : decode cX11_repair 142 = .ok (.ireturn, 1) := by decide +kernel
theorem dX11_keeps_0 : decode cX11_keeps 0 = .ok (.iconst 0, 1) := by decide +kernel
theorem dX11_keeps_1 : decode cX11_keeps 1 = .ok (.istore_n 1, 1) := by decide +kernel
theorem dX11_keeps_2 : decode cX11_keeps 2 = .ok (.iload_n 1, 1) := by decide +kernel
theorem dX11_keeps_3 : decode cX11_keeps 3 = .ok (.sipush 729, 3) := by decide +kernel
theorem dX11_keeps_6 : decode cX11_keeps 6 = .ok (.if_icmp .ge 21, 3) := by decide +kernel
theorem dX11_keeps_9 : decode cX11_keeps 9 = .ok (.aload_n 0, 1) := by decide +kernel
theorem dX11_keeps_10 : decode cX11_keeps 10 = .ok (.getfield 13, 3) := by decide +kernel
theorem dX11_keeps_13 : decode cX11_keeps 13 = .ok (.iload_n 1, 1) := by decide +kernel
theorem dX11_keeps_14 : decode cX11_keeps 14 = .ok (.aload_n 0, 1) := by decide +kernel
theorem dX11_keeps_15 : decode cX11_keeps 15 = .ok (.getfield 7, 3) := by decide +kernel
theorem dX11_keeps_18 : decode cX11_keeps 18 = .ok (.iload_n 1, 1) := by decide +kernel
theorem dX11_keeps_19 : decode cX11_keeps 19 = .ok (.iaload, 1) := by decide +kernel
theorem dX11_keeps_20 : decode cX11_keeps 20 = .ok (.iastore, 1) := by decide +kernel
theorem dX11_keeps_21 : decode cX11_keeps 21 = .ok (.iinc 1 1, 3) := by decide +kernel
theorem dX11_keeps_24 : decode cX11_keeps 24 = .ok (.goto (-22), 3) := by decide +kernel
theorem dX11_keeps_27 : decode cX11_keeps 27 = .ok (.return_, 1) := by decide +kernel
theorem dX11_comesBack_0 : decode cX11_comesBack 0 = .ok (.iconst 0, 1) := by decide +kernel
theorem dX11_comesBack_1 : decode cX11_comesBack 1 = .ok (.istore_n 1, 1) := by decide +kernel
theorem dX11_comesBack_2 : decode cX11_comesBack 2 = .ok (.iload_n 1, 1) := by decide +kernel
theorem dX11_comesBack_3 : decode cX11_comesBack 3 = .ok (.sipush 729, 3) := by decide +kernel
theorem dX11_comesBack_6 : decode cX11_comesBack 6 = .ok (.if_icmp .ge 21, 3) := by decide +kernel
theorem dX11_comesBack_9 : decode cX11_comesBack 9 = .ok (.aload_n 0, 1) := by decide +kernel
theorem dX11_comesBack_10 : decode cX11_comesBack 10 = .ok (.getfield 7, 3) := by decide +kernel
theorem dX11_comesBack_13 : decode cX11_comesBack 13 = .ok (.iload_n 1, 1) := by decide +kernel
theorem dX11_comesBack_14 : decode cX11_comesBack 14 = .ok (.aload_n 0, 1) := by decide +kernel
theorem dX11_comesBack_15 : decode cX11_comesBack 15 = .ok (.getfield 13, 3) := by decide +kernel
theorem dX11_comesBack_18 : decode cX11_comesBack 18 = .ok (.iload_n 1, 1) := by decide +kernel
theorem dX11_comesBack_19 : decode cX11_comesBack 19 = .ok (.iaload, 1) := by decide +kernel
theorem dX11_comesBack_20 : decode cX11_comesBack 20 = .ok (.iastore, 1) := by decide +kernel
theorem dX11_comesBack_21 : decode cX11_comesBack 21 = .ok (.iinc 1 1, 3) := by decide +kernel
theorem dX11_comesBack_24 : decode cX11_comesBack 24 = .ok (.goto (-22), 3) := by decide +kernel
theorem dX11_comesBack_27 : decode cX11_comesBack 27 = .ok (.return_, 1) := by decide +kernel
theorem dX11_forecast_0 : decode cX11_forecast 0 = .ok (.aload_n 0, 1) := by decide +kernel
theorem dX11_forecast_1 : decode cX11_forecast 1 = .ok (.iconst 0, 1) := by decide +kernel
theorem dX11_forecast_2 : decode cX11_forecast 2 = .ok (.putfield 39, 3) := by decide +kernel
theorem dX11_forecast_5 : decode cX11_forecast 5 = .ok (.iload_n 1, 1) := by decide +kernel
theorem dX11_forecast_6 : decode cX11_forecast 6 = .ok (.iconst 1, 1) := by decide +kernel
theorem dX11_forecast_7 : decode cX11_forecast 7 = .ok (.bipush 60, 2) := by decide +kernel
theorem dX11_forecast_9 : decode cX11_forecast 9 = .ok (.invokestatic 114, 3) := by decide +kernel
theorem dX11_forecast_12 : decode cX11_forecast 12 = .ok (.ifCond .eq 10, 3) := by decide +kernel
theorem dX11_forecast_15 : decode cX11_forecast 15 = .ok (.aload_n 0, 1) := by decide +kernel
theorem dX11_forecast_16 : decode cX11_forecast 16 = .ok (.invokevirtual 84, 3) := by decide +kernel
theorem dX11_forecast_19 : decode cX11_forecast 19 = .ok (.ifCond .ne 5, 3) := by decide +kernel
theorem dX11_forecast_22 : decode cX11_forecast 22 = .ok (.iconst (-1), 1) := by decide +kernel
theorem dX11_forecast_23 : decode cX11_forecast 23 = .ok (.ireturn, 1) := by decide +kernel
theorem dX11_forecast_24 : decode cX11_forecast 24 = .ok (.aload_n 0, 1) := by decide +kernel
theorem dX11_forecast_25 : decode cX11_forecast 25 = .ok (.invokevirtual 176, 3) := by decide +kernel
theorem dX11_forecast_28 : decode cX11_forecast 28 = .ok (.aload_n 0, 1) := by decide +kernel
theorem dX11_forecast_29 : decode cX11_forecast 29 = .ok (.iconst 1, 1) := by decide +kernel
theorem dX11_forecast_30 : decode cX11_forecast 30 = .ok (.putfield 153, 3) := by decide +kernel
theorem dX11_forecast_33 : decode cX11_forecast 33 = .ok (.iconst 0, 1) := by decide +kernel
theorem dX11_forecast_34 : decode cX11_forecast 34 = .ok (.istore_n 2, 1) := by decide +kernel
theorem dX11_forecast_35 : decode cX11_forecast 35 = .ok (.iload_n 2, 1) := by decide +kernel
theorem dX11_forecast_36 : decode cX11_forecast 36 = .ok (.sipush 400, 3) := by decide +kernel
theorem dX11_forecast_39 : decode cX11_forecast 39 = .ok (.if_icmp .gt 22, 3) := by decide +kernel
theorem dX11_forecast_42 : decode cX11_forecast 42 = .ok (.aload_n 0, 1) := by decide +kernel
theorem dX11_forecast_43 : decode cX11_forecast 43 = .ok (.invokevirtual 84, 3) := by decide +kernel
theorem dX11_forecast_46 : decode cX11_forecast 46 = .ok (.ifCond .eq 15, 3) := by decide +kernel
theorem dX11_forecast_49 : decode cX11_forecast 49 = .ok (.aload_n 0, 1) := by decide +kernel
theorem dX11_forecast_50 : decode cX11_forecast 50 = .ok (.iload_n 1, 1) := by decide +kernel
theorem dX11_forecast_51 : decode cX11_forecast 51 = .ok (.invokevirtual 170, 3) := by decide +kernel
theorem dX11_forecast_54 : decode cX11_forecast 54 = .ok (.istore_n 3, 1) := by decide +kernel
theorem dX11_forecast_55 : decode cX11_forecast 55 = .ok (.iinc 2 1, 3) := by decide +kernel
theorem dX11_forecast_58 : decode cX11_forecast 58 = .ok (.goto (-23), 3) := by decide +kernel
theorem dX11_forecast_61 : decode cX11_forecast 61 = .ok (.aload_n 0, 1) := by decide +kernel
theorem dX11_forecast_62 : decode cX11_forecast 62 = .ok (.invokevirtual 84, 3) := by decide +kernel
theorem dX11_forecast_65 : decode cX11_forecast 65 = .ok (.ifCond .ne 7, 3) := by decide +kernel
theorem dX11_forecast_68 : decode cX11_forecast 68 = .ok (.iconst 1, 1) := by decide +kernel
theorem dX11_forecast_69 : decode cX11_forecast 69 = .ok (.goto 4, 3) := by decide +kernel
theorem dX11_forecast_72 : decode cX11_forecast 72 = .ok (.iconst 0, 1) := by decide +kernel
theorem dX11_forecast_73 : decode cX11_forecast 73 = .ok (.istore_n 3, 1) := by decide +kernel
theorem dX11_forecast_74 : decode cX11_forecast 74 = .ok (.aload_n 0, 1) := by decide +kernel
theorem dX11_forecast_75 : decode cX11_forecast 75 = .ok (.iconst 0, 1) := by decide +kernel
theorem dX11_forecast_76 : decode cX11_forecast 76 = .ok (.putfield 153, 3) := by decide +kernel
theorem dX11_forecast_79 : decode cX11_forecast 79 = .ok (.aload_n 0, 1) := by decide +kernel
theorem dX11_forecast_80 : decode cX11_forecast 80 = .ok (.invokevirtual 179, 3) := by decide +kernel
theorem dX11_forecast_83 : decode cX11_forecast 83 = .ok (.iload_n 3, 1) := by decide +kernel
theorem dX11_forecast_84 : decode cX11_forecast 84 = .ok (.ifCond .eq 14, 3) := by decide +kernel
theorem dX11_forecast_87 : decode cX11_forecast 87 = .ok (.iload_n 2, 1) := by decide +kernel
theorem dX11_forecast_88 : decode cX11_forecast 88 = .ok (.sipush 400, 3) := by decide +kernel
theorem dX11_forecast_91 : decode cX11_forecast 91 = .ok (.if_icmp .gt 7, 3) := by decide +kernel
theorem dX11_forecast_94 : decode cX11_forecast 94 = .ok (.iload_n 2, 1) := by decide +kernel
theorem dX11_forecast_95 : decode cX11_forecast 95 = .ok (.goto 5, 3) := by decide +kernel
theorem dX11_forecast_98 : decode cX11_forecast 98 = .ok (.bipush (-3), 2) := by decide +kernel
theorem dX11_forecast_100 : decode cX11_forecast 100 = .ok (.ireturn, 1) := by decide +kernel
theorem dX11_notesBlocks_0 : decode cX11_notesBlocks 0 = .ok (.iconst 0, 1) := by decide +kernel
theorem dX11_notesBlocks_1 : decode cX11_notesBlocks 1 = .ok (.istore_n 1, 1) := by decide +kernel
theorem dX11_notesBlocks_2 : decode cX11_notesBlocks 2 = .ok (.iload_n 1, 1) := by decide +kernel
theorem dX11_notesBlocks_3 : decode cX11_notesBlocks 3 = .ok (.aload_n 0, 1) := by decide +kernel
theorem dX11_notesBlocks_4 : decode cX11_notesBlocks 4 = .ok (.invokevirtual 63, 3) := by decide +kernel
theorem dX11_notesBlocks_7 : decode cX11_notesBlocks 7 = .ok (.if_icmp .ge 30, 3) := by decide +kernel
theorem dX11_notesBlocks_10 : decode cX11_notesBlocks 10 = .ok (.aload_n 0, 1) := by decide +kernel
theorem dX11_notesBlocks_11 : decode cX11_notesBlocks 11 = .ok (.getfield 32, 3) := by decide +kernel
theorem dX11_notesBlocks_14 : decode cX11_notesBlocks 14 = .ok (.iload_n 1, 1) := by decide +kernel
theorem dX11_notesBlocks_15 : decode cX11_notesBlocks 15 = .ok (.aload_n 0, 1) := by decide +kernel
theorem dX11_notesBlocks_16 : decode cX11_notesBlocks 16 = .ok (.iload_n 1, 1) := by decide +kernel
theorem dX11_notesBlocks_17 : decode cX11_notesBlocks 17 = .ok (.invokevirtual 141, 3) := by decide +kernel
theorem dX11_notesBlocks_20 : decode cX11_notesBlocks 20 = .ok (.bastore, 1) := by decide +kernel
theorem dX11_notesBlocks_21 : decode cX11_notesBlocks 21 = .ok (.aload_n 0, 1) := by decide +kernel
theorem dX11_notesBlocks_22 : decode cX11_notesBlocks 22 = .ok (.getfield 29, 3) := by decide +kernel
theorem dX11_notesBlocks_25 : decode cX11_notesBlocks 25 = .ok (.iload_n 1, 1) := by decide +kernel
theorem dX11_notesBlocks_26 : decode cX11_notesBlocks 26 = .ok (.aload_n 0, 1) := by decide +kernel
theorem dX11_notesBlocks_27 : decode cX11_notesBlocks 27 = .ok (.getfield 53, 3) := by decide +kernel
theorem dX11_notesBlocks_30 : decode cX11_notesBlocks 30 = .ok (.iastore, 1) := by decide +kernel
theorem dX11_notesBlocks_31 : decode cX11_notesBlocks 31 = .ok (.iinc 1 1, 3) := by decide +kernel
theorem dX11_notesBlocks_34 : decode cX11_notesBlocks 34 = .ok (.goto (-32), 3) := by decide +kernel
theorem dX11_notesBlocks_37 : decode cX11_notesBlocks 37 = .ok (.return_, 1) := by decide +kernel
theorem dX11_unlike_0 : decode cX11_unlike 0 = .ok (.iconst 0, 1) := by decide +kernel
theorem dX11_unlike_1 : decode cX11_unlike 1 = .ok (.istore_n 1, 1) := by decide +kernel
theorem dX11_unlike_2 : decode cX11_unlike 2 = .ok (.iconst 0, 1) := by decide +kernel
theorem dX11_unlike_3 : decode cX11_unlike 3 = .ok (.istore_n 2, 1) := by decide +kernel
theorem dX11_unlike_4 : decode cX11_unlike 4 = .ok (.iload_n 2, 1) := by decide +kernel
theorem dX11_unlike_5 : decode cX11_unlike 5 = .ok (.aload_n 0, 1) := by decide +kernel
theorem dX11_unlike_6 : decode cX11_unlike 6 = .ok (.invokevirtual 63, 3) := by decide +kernel
theorem dX11_unlike_9 : decode cX11_unlike 9 = .ok (.if_icmp .ge 45, 3) := by decide +kernel
theorem dX11_unlike_12 : decode cX11_unlike 12 = .ok (.aload_n 0, 1) := by decide +kernel
theorem dX11_unlike_13 : decode cX11_unlike 13 = .ok (.getfield 32, 3) := by decide +kernel
theorem dX11_unlike_16 : decode cX11_unlike 16 = .ok (.iload_n 2, 1) := by decide +kernel
theorem dX11_unlike_17 : decode cX11_unlike 17 = .ok (.baload, 1) := by decide +kernel
theorem dX11_unlike_18 : decode cX11_unlike 18 = .ok (.ifCond .ne 6, 3) := by decide +kernel
theorem dX11_unlike_21 : decode cX11_unlike 21 = .ok (.goto 27, 3) := by decide +kernel
theorem dX11_unlike_24 : decode cX11_unlike 24 = .ok (.aload_n 0, 1) := by decide +kernel
theorem dX11_unlike_25 : decode cX11_unlike 25 = .ok (.iload_n 2, 1) := by decide +kernel
theorem dX11_unlike_26 : decode cX11_unlike 26 = .ok (.invokevirtual 141, 3) := by decide +kernel
theorem dX11_unlike_29 : decode cX11_unlike 29 = .ok (.ifCond .eq 16, 3) := by decide +kernel
theorem dX11_unlike_32 : decode cX11_unlike 32 = .ok (.aload_n 0, 1) := by decide +kernel
theorem dX11_unlike_33 : decode cX11_unlike 33 = .ok (.getfield 53, 3) := by decide +kernel
theorem dX11_unlike_36 : decode cX11_unlike 36 = .ok (.aload_n 0, 1) := by decide +kernel
theorem dX11_unlike_37 : decode cX11_unlike 37 = .ok (.getfield 29, 3) := by decide +kernel
theorem dX11_unlike_40 : decode cX11_unlike 40 = .ok (.iload_n 2, 1) := by decide +kernel
theorem dX11_unlike_41 : decode cX11_unlike 41 = .ok (.iaload, 1) := by decide +kernel
theorem dX11_unlike_42 : decode cX11_unlike 42 = .ok (.if_icmp .eq 6, 3) := by decide +kernel
theorem dX11_unlike_45 : decode cX11_unlike 45 = .ok (.iinc 1 1, 3) := by decide +kernel
theorem dX11_unlike_48 : decode cX11_unlike 48 = .ok (.iinc 2 1, 3) := by decide +kernel
theorem dX11_unlike_51 : decode cX11_unlike 51 = .ok (.goto (-47), 3) := by decide +kernel
theorem dX11_unlike_54 : decode cX11_unlike 54 = .ok (.iload_n 1, 1) := by decide +kernel
theorem dX11_unlike_55 : decode cX11_unlike 55 = .ok (.ireturn, 1) := by decide +kernel
theorem dX11_spoilt_0 : decode cX11_spoilt 0 = .ok (.aload_n 0, 1) := by decide +kernel
theorem dX11_spoilt_1 : decode cX11_spoilt 1 = .ok (.iconst 0, 1) := by decide +kernel
theorem dX11_spoilt_2 : decode cX11_spoilt 2 = .ok (.putfield 39, 3) := by decide +kernel
theorem dX11_spoilt_5 : decode cX11_spoilt 5 = .ok (.aload_n 0, 1) := by decide +kernel
theorem dX11_spoilt_6 : decode cX11_spoilt 6 = .ok (.invokevirtual 84, 3) := by decide +kernel
theorem dX11_spoilt_9 : decode cX11_spoilt 9 = .ok (.ifCond .ne 5, 3) := by decide +kernel
theorem dX11_spoilt_12 : decode cX11_spoilt 12 = .ok (.iconst (-1), 1) := by decide +kernel
theorem dX11_spoilt_13 : decode cX11_spoilt 13 = .ok (.ireturn, 1) := by decide +kernel
theorem dX11_spoilt_14 : decode cX11_spoilt 14 = .ok (.aload_n 0, 1) := by decide +kernel
theorem dX11_spoilt_15 : decode cX11_spoilt 15 = .ok (.invokevirtual 176, 3) := by decide +kernel
theorem dX11_spoilt_18 : decode cX11_spoilt 18 = .ok (.aload_n 0, 1) := by decide +kernel
theorem dX11_spoilt_19 : decode cX11_spoilt 19 = .ok (.invokevirtual 182, 3) := by decide +kernel
theorem dX11_spoilt_22 : decode cX11_spoilt 22 = .ok (.aload_n 0, 1) := by decide +kernel
theorem dX11_spoilt_23 : decode cX11_spoilt 23 = .ok (.invokevirtual 123, 3) := by decide +kernel
theorem dX11_spoilt_26 : decode cX11_spoilt 26 = .ok (.aload_n 0, 1) := by decide +kernel
theorem dX11_spoilt_27 : decode cX11_spoilt 27 = .ok (.invokevirtual 185, 3) := by decide +kernel
theorem dX11_spoilt_30 : decode cX11_spoilt 30 = .ok (.istore_n 1, 1) := by decide +kernel
theorem dX11_spoilt_31 : decode cX11_spoilt 31 = .ok (.aload_n 0, 1) := by decide +kernel
theorem dX11_spoilt_32 : decode cX11_spoilt 32 = .ok (.invokevirtual 179, 3) := by decide +kernel
theorem dX11_spoilt_35 : decode cX11_spoilt 35 = .ok (.iload_n 1, 1) := by decide +kernel
theorem dX11_spoilt_36 : decode cX11_spoilt 36 = .ok (.ireturn, 1) := by decide +kernel
theorem dX11_exposed_0 : decode cX11_exposed 0 = .ok (.aload_n 0, 1) := by decide +kernel
theorem dX11_exposed_1 : decode cX11_exposed 1 = .ok (.iconst 0, 1) := by decide +kernel
theorem dX11_exposed_2 : decode cX11_exposed 2 = .ok (.putfield 39, 3) := by decide +kernel
theorem dX11_exposed_5 : decode cX11_exposed 5 = .ok (.iload_n 1, 1) := by decide +kernel
theorem dX11_exposed_6 : decode cX11_exposed 6 = .ok (.iconst 0, 1) := by decide +kernel
theorem dX11_exposed_7 : decode cX11_exposed 7 = .ok (.aload_n 0, 1) := by decide +kernel
theorem dX11_exposed_8 : decode cX11_exposed 8 = .ok (.invokevirtual 147, 3) := by decide +kernel
theorem dX11_exposed_11 : decode cX11_exposed 11 = .ok (.iconst 1, 1) := by decide +kernel
theorem dX11_exposed_12 : decode cX11_exposed 12 = .ok (.isub, 1) := by decide +kernel
theorem dX11_exposed_13 : decode cX11_exposed 13 = .ok (.invokestatic 114, 3) := by decide +kernel
theorem dX11_exposed_16 : decode cX11_exposed 16 = .ok (.ifCond .ne 5, 3) := by decide +kernel
theorem dX11_exposed_19 : decode cX11_exposed 19 = .ok (.iconst (-1), 1) := by decide +kernel
theorem dX11_exposed_20 : decode cX11_exposed 20 = .ok (.ireturn, 1) := by decide +kernel
theorem dX11_exposed_21 : decode cX11_exposed 21 = .ok (.aload_n 0, 1) := by decide +kernel
theorem dX11_exposed_22 : decode cX11_exposed 22 = .ok (.getfield 7, 3) := by decide +kernel
theorem dX11_exposed_25 : decode cX11_exposed 25 = .ok (.sipush 721, 3) := by decide +kernel
theorem dX11_exposed_28 : decode cX11_exposed 28 = .ok (.iaload, 1) := by decide +kernel
theorem dX11_exposed_29 : decode cX11_exposed 29 = .ok (.ifCond .lt 5, 3) := by decide +kernel
theorem dX11_exposed_32 : decode cX11_exposed 32 = .ok (.iconst 0, 1) := by decide +kernel
theorem dX11_exposed_33 : decode cX11_exposed 33 = .ok (.ireturn, 1) := by decide +kernel
theorem dX11_exposed_34 : decode cX11_exposed 34 = .ok (.aload_n 0, 1) := by decide +kernel
theorem dX11_exposed_35 : decode cX11_exposed 35 = .ok (.invokevirtual 182, 3) := by decide +kernel
theorem dX11_exposed_38 : decode cX11_exposed 38 = .ok (.aload_n 0, 1) := by decide +kernel
theorem dX11_exposed_39 : decode cX11_exposed 39 = .ok (.getfield 7, 3) := by decide +kernel
theorem dX11_exposed_42 : decode cX11_exposed 42 = .ok (.sipush 721, 3) := by decide +kernel
theorem dX11_exposed_45 : decode cX11_exposed 45 = .ok (.iload_n 1, 1) := by decide +kernel
theorem dX11_exposed_46 : decode cX11_exposed 46 = .ok (.iastore, 1) := by decide +kernel
theorem dX11_exposed_47 : decode cX11_exposed 47 = .ok (.aload_n 0, 1) := by decide +kernel
theorem dX11_exposed_48 : decode cX11_exposed 48 = .ok (.invokevirtual 185, 3) := by decide +kernel
theorem dX11_exposed_51 : decode cX11_exposed 51 = .ok (.istore_n 2, 1) := by decide +kernel
theorem dX11_exposed_52 : decode cX11_exposed 52 = .ok (.aload_n 0, 1) := by decide +kernel
theorem dX11_exposed_53 : decode cX11_exposed 53 = .ok (.getfield 7, 3) := by decide +kernel
theorem dX11_exposed_56 : decode cX11_exposed 56 = .ok (.sipush 721, 3) := by decide +kernel
theorem dX11_exposed_59 : decode cX11_exposed 59 = .ok (.iconst (-1), 1) := by decide +kernel
theorem dX11_exposed_60 : decode cX11_exposed 60 = .ok (.iastore, 1) := by decide +kernel
theorem dX11_exposed_61 : decode cX11_exposed 61 = .ok (.iload_n 2, 1) := by decide +kernel
theorem dX11_exposed_62 : decode cX11_exposed 62 = .ok (.ireturn, 1) := by decide +kernel
theorem dX11_image_0 : decode cX11_image 0 = .ok (.aload_n 0, 1) := by decide +kernel
theorem dX11_image_1 : decode cX11_image 1 = .ok (.iconst 0, 1) := by decide +kernel
theorem dX11_image_2 : decode cX11_image 2 = .ok (.putfield 39, 3) := by decide +kernel
theorem dX11_image_5 : decode cX11_image 5 = .ok (.iload_n 1, 1) := by decide +kernel
theorem dX11_image_6 : decode cX11_image 6 = .ok (.iconst 0, 1) := by decide +kernel
theorem dX11_image_7 : decode cX11_image 7 = .ok (.iconst 1, 1) := by decide +kernel
theorem dX11_image_8 : decode cX11_image 8 = .ok (.invokestatic 114, 3) := by decide +kernel
theorem dX11_image_11 : decode cX11_image 11 = .ok (.ifCond .ne 5, 3) := by decide +kernel
theorem dX11_image_14 : decode cX11_image 14 = .ok (.iconst 0, 1) := by decide +kernel
theorem dX11_image_15 : decode cX11_image 15 = .ok (.ireturn, 1) := by decide +kernel
theorem dX11_image_16 : decode cX11_image 16 = .ok (.iconst 0, 1) := by decide +kernel
theorem dX11_image_17 : decode cX11_image 17 = .ok (.istore_n 2, 1) := by decide +kernel
theorem dX11_image_18 : decode cX11_image 18 = .ok (.iload_n 2, 1) := by decide +kernel
theorem dX11_image_19 : decode cX11_image 19 = .ok (.sipush 729, 3) := by decide +kernel
theorem dX11_image_22 : decode cX11_image 22 = .ok (.if_icmp .ge 27, 3) := by decide +kernel
theorem dX11_image_25 : decode cX11_image 25 = .ok (.aload_n 0, 1) := by decide +kernel
theorem dX11_image_26 : decode cX11_image 26 = .ok (.getfield 16, 3) := by decide +kernel
theorem dX11_image_29 : decode cX11_image 29 = .ok (.sipush 729, 3) := by decide +kernel
theorem dX11_image_32 : decode cX11_image 32 = .ok (.iload_n 1, 1) := by decide +kernel
theorem dX11_image_33 : decode cX11_image 33 = .ok (.imul, 1) := by decide +kernel
theorem dX11_image_34 : decode cX11_image 34 = .ok (.iload_n 2, 1) := by decide +kernel
theorem dX11_image_35 : decode cX11_image 35 = .ok (.iadd, 1) := by decide +kernel
theorem dX11_image_36 : decode cX11_image 36 = .ok (.aload_n 0, 1) := by decide +kernel
theorem dX11_image_37 : decode cX11_image 37 = .ok (.getfield 7, 3) := by decide +kernel
theorem dX11_image_40 : decode cX11_image 40 = .ok (.iload_n 2, 1) := by decide +kernel
theorem dX11_image_41 : decode cX11_image 41 = .ok (.iaload, 1) := by decide +kernel
theorem dX11_image_42 : decode cX11_image 42 = .ok (.iastore, 1) := by decide +kernel
theorem dX11_image_43 : decode cX11_image 43 = .ok (.iinc 2 1, 3) := by decide +kernel
theorem dX11_image_46 : decode cX11_image 46 = .ok (.goto (-28), 3) := by decide +kernel
theorem dX11_image_49 : decode cX11_image 49 = .ok (.aload_n 0, 1) := by decide +kernel
theorem dX11_image_50 : decode cX11_image 50 = .ok (.getfield 19, 3) := by decide +kernel
theorem dX11_image_53 : decode cX11_image 53 = .ok (.iload_n 1, 1) := by decide +kernel
theorem dX11_image_54 : decode cX11_image 54 = .ok (.iconst 1, 1) := by decide +kernel
theorem dX11_image_55 : decode cX11_image 55 = .ok (.bastore, 1) := by decide +kernel
theorem dX11_image_56 : decode cX11_image 56 = .ok (.iconst 1, 1) := by decide +kernel
theorem dX11_image_57 : decode cX11_image 57 = .ok (.ireturn, 1) := by decide +kernel
theorem dX11_back_0 : decode cX11_back 0 = .ok (.aload_n 0, 1) := by decide +kernel
theorem dX11_back_1 : decode cX11_back 1 = .ok (.iconst 0, 1) := by decide +kernel
theorem dX11_back_2 : decode cX11_back 2 = .ok (.putfield 39, 3) := by decide +kernel
theorem dX11_back_5 : decode cX11_back 5 = .ok (.iload_n 1, 1) := by decide +kernel
theorem dX11_back_6 : decode cX11_back 6 = .ok (.iconst 0, 1) := by decide +kernel
theorem dX11_back_7 : decode cX11_back 7 = .ok (.iconst 1, 1) := by decide +kernel
theorem dX11_back_8 : decode cX11_back 8 = .ok (.invokestatic 114, 3) := by decide +kernel
theorem dX11_back_11 : decode cX11_back 11 = .ok (.ifCond .eq 12, 3) := by decide +kernel
theorem dX11_back_14 : decode cX11_back 14 = .ok (.aload_n 0, 1) := by decide +kernel
theorem dX11_back_15 : decode cX11_back 15 = .ok (.getfield 19, 3) := by decide +kernel
theorem dX11_back_18 : decode cX11_back 18 = .ok (.iload_n 1, 1) := by decide +kernel
theorem dX11_back_19 : decode cX11_back 19 = .ok (.baload, 1) := by decide +kernel
theorem dX11_back_20 : decode cX11_back 20 = .ok (.ifCond .ne 5, 3) := by decide +kernel
theorem dX11_back_23 : decode cX11_back 23 = .ok (.iconst 0, 1) := by decide +kernel
theorem dX11_back_24 : decode cX11_back 24 = .ok (.ireturn, 1) := by decide +kernel
theorem dX11_back_25 : decode cX11_back 25 = .ok (.iconst 0, 1) := by decide +kernel
theorem dX11_back_26 : decode cX11_back 26 = .ok (.istore_n 2, 1) := by decide +kernel
theorem dX11_back_27 : decode cX11_back 27 = .ok (.iload_n 2, 1) := by decide +kernel
theorem dX11_back_28 : decode cX11_back 28 = .ok (.sipush 729, 3) := by decide +kernel
theorem dX11_back_31 : decode cX11_back 31 = .ok (.if_icmp .ge 27, 3) := by decide +kernel
theorem dX11_back_34 : decode cX11_back 34 = .ok (.aload_n 0, 1) := by decide +kernel
theorem dX11_back_35 : decode cX11_back 35 = .ok (.getfield 7, 3) := by decide +kernel
theorem dX11_back_38 : decode cX11_back 38 = .ok (.iload_n 2, 1) := by decide +kernel
theorem dX11_back_39 : decode cX11_back 39 = .ok (.aload_n 0, 1) := by decide +kernel
theorem dX11_back_40 : decode cX11_back 40 = .ok (.getfield 16, 3) := by decide +kernel
theorem dX11_back_43 : decode cX11_back 43 = .ok (.sipush 729, 3) := by decide +kernel
theorem dX11_back_46 : decode cX11_back 46 = .ok (.iload_n 1, 1) := by decide +kernel
theorem dX11_back_47 : decode cX11_back 47 = .ok (.imul, 1) := by decide +kernel
theorem dX11_back_48 : decode cX11_back 48 = .ok (.iload_n 2, 1) := by decide +kernel
theorem dX11_back_49 : decode cX11_back 49 = .ok (.iadd, 1) := by decide +kernel
theorem dX11_back_50 : decode cX11_back 50 = .ok (.iaload, 1) := by decide +kernel
theorem dX11_back_51 : decode cX11_back 51 = .ok (.iastore, 1) := by decide +kernel
theorem dX11_back_52 : decode cX11_back 52 = .ok (.iinc 2 1, 3) := by decide +kernel
theorem dX11_back_55 : decode cX11_back 55 = .ok (.goto (-28), 3) := by decide +kernel
theorem dX11_back_58 : decode cX11_back 58 = .ok (.iconst 1, 1) := by decide +kernel
theorem dX11_back_59 : decode cX11_back 59 = .ok (.ireturn, 1) := by decide +kernel
theorem dX11_eight_0 : decode cX11_eight 0 = .ok (.bipush 56, 2) := by decide +kernel
theorem dX11_eight_2 : decode cX11_eight 2 = .ok (.istore_n 3, 1) := by decide +kernel
theorem dX11_eight_3 : decode cX11_eight 3 = .ok (.iload_n 3, 1) := by decide +kernel
theorem dX11_eight_4 : decode cX11_eight 4 = .ok (.ifCond .lt 36, 3) := by decide +kernel
theorem dX11_eight_7 : decode cX11_eight 7 = .ok (.aload_n 0, 1) := by decide +kernel
theorem dX11_eight_8 : decode cX11_eight 8 = .ok (.getfield 26, 3) := by decide +kernel
theorem dX11_eight_11 : decode cX11_eight 11 = .ok (.aload_n 0, 1) := by decide +kernel
theorem dX11_eight_12 : decode cX11_eight 12 = .ok (.getfield 188, 3) := by decide +kernel
theorem dX11_eight_15 : decode cX11_eight 15 = .ok (.lload_n 1, 1) := by decide +kernel
theorem dX11_eight_16 : decode cX11_eight 16 = .ok (.iload_n 3, 1) := by decide +kernel
theorem dX11_eight_17 : decode cX11_eight 17 = .ok (.lshr, 1) := by decide +kernel
theorem dX11_eight_18 : decode cX11_eight 18 = .ok (.l2i, 1) := by decide +kernel
theorem dX11_eight_19 : decode cX11_eight 19 = .ok (.sipush 255, 3) := by decide +kernel
theorem dX11_eight_22 : decode cX11_eight 22 = .ok (.iand, 1) := by decide +kernel
theorem dX11_eight_23 : decode cX11_eight 23 = .ok (.iastore, 1) := by decide +kernel
theorem dX11_eight_24 : decode cX11_eight 24 = .ok (.aload_n 0, 1) := by decide +kernel
theorem dX11_eight_25 : decode cX11_eight 25 = .ok (.dup, 1) := by decide +kernel
theorem dX11_eight_26 : decode cX11_eight 26 = .ok (.getfield 188, 3) := by decide +kernel
theorem dX11_eight_29 : decode cX11_eight 29 = .ok (.iconst 1, 1) := by decide +kernel
theorem dX11_eight_30 : decode cX11_eight 30 = .ok (.iadd, 1) := by decide +kernel
theorem dX11_eight_31 : decode cX11_eight 31 = .ok (.putfield 188, 3) := by decide +kernel
theorem dX11_eight_34 : decode cX11_eight 34 = .ok (.iinc 3 (-8), 3) := by decide +kernel
theorem dX11_eight_37 : decode cX11_eight 37 = .ok (.goto (-34), 3) := by decide +kernel
theorem dX11_eight_40 : decode cX11_eight 40 = .ok (.return_, 1) := by decide +kernel
theorem dX11_feed_0 : decode cX11_feed 0 = .ok (.aload_n 0, 1) := by decide +kernel
theorem dX11_feed_1 : decode cX11_feed 1 = .ok (.iconst 0, 1) := by decide +kernel
theorem dX11_feed_2 : decode cX11_feed 2 = .ok (.putfield 39, 3) := by decide +kernel
theorem dX11_feed_5 : decode cX11_feed 5 = .ok (.aload_n 0, 1) := by decide +kernel
theorem dX11_feed_6 : decode cX11_feed 6 = .ok (.getfield 188, 3) := by decide +kernel
theorem dX11_feed_9 : decode cX11_feed 9 = .ok (.bipush 24, 2) := by decide +kernel
theorem dX11_feed_11 : decode cX11_feed 11 = .ok (.iadd, 1) := by decide +kernel
theorem dX11_feed_12 : decode cX11_feed 12 = .ok (.sipush 264, 3) := by decide +kernel
theorem dX11_feed_15 : decode cX11_feed 15 = .ok (.if_icmp .le 5, 3) := by decide +kernel
theorem dX11_feed_18 : decode cX11_feed 18 = .ok (.iconst (-1), 1) := by decide +kernel
theorem dX11_feed_19 : decode cX11_feed 19 = .ok (.ireturn, 1) := by decide +kernel
theorem dX11_feed_20 : decode cX11_feed 20 = .ok (.aload_n 0, 1) := by decide +kernel
theorem dX11_feed_21 : decode cX11_feed 21 = .ok (.lload_n 1, 1) := by decide +kernel
theorem dX11_feed_22 : decode cX11_feed 22 = .ok (.invokevirtual 191, 3) := by decide +kernel
theorem dX11_feed_25 : decode cX11_feed 25 = .ok (.aload_n 0, 1) := by decide +kernel
theorem dX11_feed_26 : decode cX11_feed 26 = .ok (.lload_n 3, 1) := by decide +kernel
theorem dX11_feed_27 : decode cX11_feed 27 = .ok (.invokevirtual 191, 3) := by decide +kernel
theorem dX11_feed_30 : decode cX11_feed 30 = .ok (.aload_n 0, 1) := by decide +kernel
theorem dX11_feed_31 : decode cX11_feed 31 = .ok (.lload 5, 2) := by decide +kernel
theorem dX11_feed_33 : decode cX11_feed 33 = .ok (.invokevirtual 191, 3) := by decide +kernel
theorem dX11_feed_36 : decode cX11_feed 36 = .ok (.aload_n 0, 1) := by decide +kernel
theorem dX11_feed_37 : decode cX11_feed 37 = .ok (.getfield 188, 3) := by decide +kernel
theorem dX11_feed_40 : decode cX11_feed 40 = .ok (.ireturn, 1) := by decide +kernel
theorem dX11_end_0 : decode cX11_end 0 = .ok (.aload_n 0, 1) := by decide +kernel
theorem dX11_end_1 : decode cX11_end 1 = .ok (.iconst 0, 1) := by decide +kernel
theorem dX11_end_2 : decode cX11_end 2 = .ok (.putfield 39, 3) := by decide +kernel
theorem dX11_end_5 : decode cX11_end 5 = .ok (.iload_n 1, 1) := by decide +kernel
theorem dX11_end_6 : decode cX11_end 6 = .ok (.iconst 0, 1) := by decide +kernel
theorem dX11_end_7 : decode cX11_end 7 = .ok (.aload_n 0, 1) := by decide +kernel
theorem dX11_end_8 : decode cX11_end 8 = .ok (.getfield 188, 3) := by decide +kernel
theorem dX11_end_11 : decode cX11_end 11 = .ok (.invokestatic 114, 3) := by decide +kernel
theorem dX11_end_14 : decode cX11_end 14 = .ok (.ifCond .ne 5, 3) := by decide +kernel
theorem dX11_end_17 : decode cX11_end 17 = .ok (.iconst (-1), 1) := by decide +kernel
theorem dX11_end_18 : decode cX11_end 18 = .ok (.ireturn, 1) := by decide +kernel
theorem dX11_end_19 : decode cX11_end 19 = .ok (.aload_n 0, 1) := by decide +kernel
theorem dX11_end_20 : decode cX11_end 20 = .ok (.iload_n 1, 1) := by decide +kernel
theorem dX11_end_21 : decode cX11_end 21 = .ok (.putfield 188, 3) := by decide +kernel
theorem dX11_end_24 : decode cX11_end 24 = .ok (.iload_n 1, 1) := by decide +kernel
theorem dX11_end_25 : decode cX11_end 25 = .ok (.ireturn, 1) := by decide +kernel
theorem dX11_byteAt_0 : decode cX11_byteAt 0 = .ok (.iload_n 1, 1) := by decide +kernel
theorem dX11_byteAt_1 : decode cX11_byteAt 1 = .ok (.aload_n 0, 1) := by decide +kernel
theorem dX11_byteAt_2 : decode cX11_byteAt 2 = .ok (.getfield 195, 3) := by decide +kernel
theorem dX11_byteAt_5 : decode cX11_byteAt 5 = .ok (.if_icmp .ge 12, 3) := by decide +kernel
theorem dX11_byteAt_8 : decode cX11_byteAt 8 = .ok (.aload_n 0, 1) := by decide +kernel
theorem dX11_byteAt_9 : decode cX11_byteAt 9 = .ok (.getfield 26, 3) := by decide +kernel
theorem dX11_byteAt_12 : decode cX11_byteAt 12 = .ok (.iload_n 1, 1) := by decide +kernel
theorem dX11_byteAt_13 : decode cX11_byteAt 13 = .ok (.iaload, 1) := by decide +kernel
theorem dX11_byteAt_14 : decode cX11_byteAt 14 = .ok (.goto 4, 3) := by decide +kernel
theorem dX11_byteAt_17 : decode cX11_byteAt 17 = .ok (.iconst (-1), 1) := by decide +kernel
theorem dX11_byteAt_18 : decode cX11_byteAt 18 = .ok (.ireturn, 1) := by decide +kernel
theorem dX11_isSmall_0 : decode cX11_isSmall 0 = .ok (.iload_n 0, 1) := by decide +kernel
theorem dX11_isSmall_1 : decode cX11_isSmall 1 = .ok (.bipush 97, 2) := by decide +kernel
theorem dX11_isSmall_3 : decode cX11_isSmall 3 = .ok (.if_icmp .lt 13, 3) := by decide +kernel
theorem dX11_isSmall_6 : decode cX11_isSmall 6 = .ok (.iload_n 0, 1) := by decide +kernel
theorem dX11_isSmall_7 : decode cX11_isSmall 7 = .ok (.bipush 122, 2) := by decide +kernel
theorem dX11_isSmall_9 : decode cX11_isSmall 9 = .ok (.if_icmp .gt 7, 3) := by decide +kernel
theorem dX11_isSmall_12 : decode cX11_isSmall 12 = .ok (.iconst 1, 1) := by decide +kernel
theorem dX11_isSmall_13 : decode cX11_isSmall 13 = .ok (.goto 4, 3) := by decide +kernel
theorem dX11_isSmall_16 : decode cX11_isSmall 16 = .ok (.iconst 0, 1) := by decide +kernel
theorem dX11_isSmall_17 : decode cX11_isSmall 17 = .ok (.ireturn, 1) := by decide +kernel
theorem dX11_isDigit_0 : decode cX11_isDigit 0 = .ok (.iload_n 0, 1) := by decide +kernel
theorem dX11_isDigit_1 : decode cX11_isDigit 1 = .ok (.bipush 48, 2) := by decide +kernel
theorem dX11_isDigit_3 : decode cX11_isDigit 3 = .ok (.if_icmp .lt 13, 3) := by decide +kernel
theorem dX11_isDigit_6 : decode cX11_isDigit 6 = .ok (.iload_n 0, 1) := by decide +kernel
theorem dX11_isDigit_7 : decode cX11_isDigit 7 = .ok (.bipush 57, 2) := by decide +kernel
theorem dX11_isDigit_9 : decode cX11_isDigit 9 = .ok (.if_icmp .gt 7, 3) := by decide +kernel
theorem dX11_isDigit_12 : decode cX11_isDigit 12 = .ok (.iconst 1, 1) := by decide +kernel
theorem dX11_isDigit_13 : decode cX11_isDigit 13 = .ok (.goto 4, 3) := by decide +kernel
theorem dX11_isDigit_16 : decode cX11_isDigit 16 = .ok (.iconst 0, 1) := by decide +kernel
theorem dX11_isDigit_17 : decode cX11_isDigit 17 = .ok (.ireturn, 1) := by decide +kernel
theorem dX11_next_0 : decode cX11_next 0 = .ok (.aload_n 0, 1) := by decide +kernel
theorem dX11_next_1 : decode cX11_next 1 = .ok (.getfield 198, 3) := by decide +kernel
theorem dX11_next_4 : decode cX11_next 4 = .ok (.ifCond .le 4, 3) := by decide +kernel
theorem dX11_next_7 : decode cX11_next 7 = .ok (.return_, 1) := by decide +kernel
theorem dX11_next_8 : decode cX11_next 8 = .ok (.aload_n 0, 1) := by decide +kernel
theorem dX11_next_9 : decode cX11_next 9 = .ok (.getfield 201, 3) := by decide +kernel
theorem dX11_next_12 : decode cX11_next 12 = .ok (.istore_n 1, 1) := by decide +kernel
theorem dX11_next_13 : decode cX11_next 13 = .ok (.aload_n 0, 1) := by decide +kernel
theorem dX11_next_14 : decode cX11_next 14 = .ok (.iload_n 1, 1) := by decide +kernel
theorem dX11_next_15 : decode cX11_next 15 = .ok (.invokevirtual 204, 3) := by decide +kernel
theorem dX11_next_18 : decode cX11_next 18 = .ok (.bipush 32, 2) := by decide +kernel
theorem dX11_next_20 : decode cX11_next 20 = .ok (.if_icmp .ne 9, 3) := by decide +kernel
theorem dX11_next_23 : decode cX11_next 23 = .ok (.iinc 1 1, 3) := by decide +kernel
theorem dX11_next_26 : decode cX11_next 26 = .ok (.goto (-13), 3) := by decide +kernel
theorem dX11_next_29 : decode cX11_next 29 = .ok (.aload_n 0, 1) := by decide +kernel
theorem dX11_next_30 : decode cX11_next 30 = .ok (.iload_n 1, 1) := by decide +kernel
theorem dX11_next_31 : decode cX11_next 31 = .ok (.putfield 207, 3) := by decide +kernel
theorem dX11_next_34 : decode cX11_next 34 = .ok (.aload_n 0, 1) := by decide +kernel
theorem dX11_next_35 : decode cX11_next 35 = .ok (.iload_n 1, 1) := by decide +kernel
theorem dX11_next_36 : decode cX11_next 36 = .ok (.iconst 1, 1) := by decide +kernel
theorem dX11_next_37 : decode cX11_next 37 = .ok (.iadd, 1) := by decide +kernel
theorem dX11_next_38 : decode cX11_next 38 = .ok (.putfield 201, 3) := by decide +kernel
theorem dX11_next_41 : decode cX11_next 41 = .ok (.aload_n 0, 1) := by decide +kernel
theorem dX11_next_42 : decode cX11_next 42 = .ok (.iload_n 1, 1) := by decide +kernel
theorem dX11_next_43 : decode cX11_next 43 = .ok (.invokevirtual 204, 3) := by decide +kernel
theorem dX11_next_46 : decode cX11_next 46 = .ok (.istore_n 2, 1) := by decide +kernel
theorem dX11_next_47 : decode cX11_next 47 = .ok (.aload_n 0, 1) := by decide +kernel
theorem dX11_next_48 : decode cX11_next 48 = .ok (.iconst 4, 1) := by decide +kernel
theorem dX11_next_49 : decode cX11_next 49 = .ok (.putfield 210, 3) := by decide +kernel
theorem dX11_next_52 : decode cX11_next 52 = .ok (.aload_n 0, 1) := by decide +kernel
theorem dX11_next_53 : decode cX11_next 53 = .ok (.lconst 0, 1) := by decide +kernel
theorem dX11_next_54 : decode cX11_next 54 = .ok (.putfield 213, 3) := by decide +kernel
theorem dX11_next_57 : decode cX11_next 57 = .ok (.aload_n 0, 1) := by decide +kernel
theorem dX11_next_58 : decode cX11_next 58 = .ok (.iconst 0, 1) := by decide +kernel
theorem dX11_next_59 : decode cX11_next 59 = .ok (.putfield 217, 3) := by decide +kernel
theorem dX11_next_62 : decode cX11_next 62 = .ok (.iload_n 2, 1) := by decide +kernel
theorem dX11_next_63 : decode cX11_next 63 = .ok (.iconst (-1), 1) := by decide +kernel
theorem dX11_next_64 : decode cX11_next 64 = .ok (.if_icmp .ne 16, 3) := by decide +kernel
theorem dX11_next_67 : decode cX11_next 67 = .ok (.aload_n 0, 1) := by decide +kernel
theorem dX11_next_68 : decode cX11_next 68 = .ok (.iconst 0, 1) := by decide +kernel
theorem dX11_next_69 : decode cX11_next 69 = .ok (.putfield 210, 3) := by decide +kernel
theorem dX11_next_72 : decode cX11_next 72 = .ok (.aload_n 0, 1) := by decide +kernel
theorem dX11_next_73 : decode cX11_next 73 = .ok (.iload_n 1, 1) := by decide +kernel
theorem dX11_next_74 : decode cX11_next 74 = .ok (.putfield 201, 3) := by decide +kernel
theorem dX11_next_77 : decode cX11_next 77 = .ok (.goto 194, 3) := by decide +kernel
theorem dX11_next_80 : decode cX11_next 80 = .ok (.iload_n 2, 1) := by decide +kernel
theorem dX11_next_81 : decode cX11_next 81 = .ok (.invokestatic 220, 3) := by decide +kernel
theorem dX11_next_84 : decode cX11_next 84 = .ok (.ifCond .eq 77, 3) := by decide +kernel
theorem dX11_next_87 : decode cX11_next 87 = .ok (.aload_n 0, 1) := by decide +kernel
theorem dX11_next_88 : decode cX11_next 88 = .ok (.iconst 1, 1) := by decide +kernel
theorem dX11_next_89 : decode cX11_next 89 = .ok (.putfield 210, 3) := by decide +kernel
theorem dX11_next_92 : decode cX11_next 92 = .ok (.aload_n 0, 1) := by decide +kernel
theorem dX11_next_93 : decode cX11_next 93 = .ok (.iload_n 1, 1) := by decide +kernel
theorem dX11_next_94 : decode cX11_next 94 = .ok (.putfield 201, 3) := by decide +kernel
theorem dX11_next_97 : decode cX11_next 97 = .ok (.aload_n 0, 1) := by decide +kernel
theorem dX11_next_98 : decode cX11_next 98 = .ok (.aload_n 0, 1) := by decide +kernel
theorem dX11_next_99 : decode cX11_next 99 = .ok (.getfield 201, 3) := by decide +kernel
theorem dX11_next_102 : decode cX11_next 102 = .ok (.invokevirtual 204, 3) := by decide +kernel
theorem dX11_next_105 : decode cX11_next 105 = .ok (.invokestatic 220, 3) := by decide +kernel
theorem dX11_next_108 : decode cX11_next 108 = .ok (.ifCond .eq 163, 3) := by decide +kernel
theorem dX11_next_111 : decode cX11_next 111 = .ok (.aload_n 0, 1) := by decide +kernel
theorem dX11_next_112 : decode cX11_next 112 = .ok (.aload_n 0, 1) := by decide +kernel
theorem dX11_next_113 : decode cX11_next 113 = .ok (.getfield 201, 3) := by decide +kernel
theorem dX11_next_116 : decode cX11_next 116 = .ok (.iload_n 1, 1) := by decide +kernel
theorem dX11_next_117 : decode cX11_next 117 = .ok (.isub, 1) := by decide +kernel
theorem dX11_next_118 : decode cX11_next 118 = .ok (.bipush 7, 2) := by decide +kernel
theorem dX11_next_120 : decode cX11_next 120 = .ok (.if_icmp .ge 24, 3) := by decide +kernel
theorem dX11_next_123 : decode cX11_next 123 = .ok (.ldc2_w 223, 3) := by decide +kernel
theorem dX11_next_126 : decode cX11_next 126 = .ok (.aload_n 0, 1) := by decide +kernel
theorem dX11_next_127 : decode cX11_next 127 = .ok (.getfield 213, 3) := by decide +kernel
theorem dX11_next_130 : decode cX11_next 130 = .ok (.lmul, 1) := by decide +kernel
theorem dX11_next_131 : decode cX11_next 131 = .ok (.aload_n 0, 1) := by decide +kernel
theorem dX11_next_132 : decode cX11_next 132 = .ok (.aload_n 0, 1) := by decide +kernel
theorem dX11_next_133 : decode cX11_next 133 = .ok (.getfield 201, 3) := by decide +kernel
theorem dX11_next_136 : decode cX11_next 136 = .ok (.invokevirtual 204, 3) := by decide +kernel
theorem dX11_next_139 : decode cX11_next 139 = .ok (.i2l, 1) := by decide +kernel
theorem dX11_next_140 : decode cX11_next 140 = .ok (.ladd, 1) := by decide +kernel
theorem dX11_next_141 : decode cX11_next 141 = .ok (.goto 4, 3) := by decide +kernel
theorem dX11_next_144 : decode cX11_next 144 = .ok (.lconst 0, 1) := by decide +kernel
theorem dX11_next_145 : decode cX11_next 145 = .ok (.putfield 213, 3) := by decide +kernel
theorem dX11_next_148 : decode cX11_next 148 = .ok (.aload_n 0, 1) := by decide +kernel
theorem dX11_next_149 : decode cX11_next 149 = .ok (.dup, 1) := by decide +kernel
theorem dX11_next_150 : decode cX11_next 150 = .ok (.getfield 201, 3) := by decide +kernel
theorem dX11_next_153 : decode cX11_next 153 = .ok (.iconst 1, 1) := by decide +kernel
theorem dX11_next_154 : decode cX11_next 154 = .ok (.iadd, 1) := by decide +kernel
theorem dX11_next_155 : decode cX11_next 155 = .ok (.putfield 201, 3) := by decide +kernel
theorem dX11_next_158 : decode cX11_next 158 = .ok (.goto (-61), 3) := by decide +kernel
theorem dX11_next_161 : decode cX11_next 161 = .ok (.iload_n 2, 1) := by decide +kernel
theorem dX11_next_162 : decode cX11_next 162 = .ok (.invokestatic 225, 3) := by decide +kernel
theorem dX11_next_165 : decode cX11_next 165 = .ok (.ifCond .eq 78, 3) := by decide +kernel
theorem dX11_next_168 : decode cX11_next 168 = .ok (.aload_n 0, 1) := by decide +kernel
theorem dX11_next_169 : decode cX11_next 169 = .ok (.iconst 2, 1) := by decide +kernel
theorem dX11_next_170 : decode cX11_next 170 = .ok (.putfield 210, 3) := by decide +kernel
theorem dX11_next_173 : decode cX11_next 173 = .ok (.aload_n 0, 1) := by decide +kernel
theorem dX11_next_174 : decode cX11_next 174 = .ok (.iload_n 1, 1) := by decide +kernel
theorem dX11_next_175 : decode cX11_next 175 = .ok (.putfield 201, 3) := by decide +kernel
theorem dX11_next_178 : decode cX11_next 178 = .ok (.aload_n 0, 1) := by decide +kernel
theorem dX11_next_179 : decode cX11_next 179 = .ok (.aload_n 0, 1) := by decide +kernel
theorem dX11_next_180 : decode cX11_next 180 = .ok (.getfield 201, 3) := by decide +kernel
theorem dX11_next_183 : decode cX11_next 183 = .ok (.invokevirtual 204, 3) := by decide +kernel
theorem dX11_next_186 : decode cX11_next 186 = .ok (.invokestatic 225, 3) := by decide +kernel
theorem dX11_next_189 : decode cX11_next 189 = .ok (.ifCond .eq 82, 3) := by decide +kernel
theorem dX11_next_192 : decode cX11_next 192 = .ok (.aload_n 0, 1) := by decide +kernel
theorem dX11_next_193 : decode cX11_next 193 = .ok (.aload_n 0, 1) := by decide +kernel
theorem dX11_next_194 : decode cX11_next 194 = .ok (.getfield 201, 3) := by decide +kernel
theorem dX11_next_197 : decode cX11_next 197 = .ok (.iload_n 1, 1) := by decide +kernel
theorem dX11_next_198 : decode cX11_next 198 = .ok (.isub, 1) := by decide +kernel
theorem dX11_next_199 : decode cX11_next 199 = .ok (.iconst 4, 1) := by decide +kernel
theorem dX11_next_200 : decode cX11_next 200 = .ok (.if_icmp .ge 25, 3) := by decide +kernel
theorem dX11_next_203 : decode cX11_next 203 = .ok (.bipush 10, 2) := by decide +kernel
theorem dX11_next_205 : decode cX11_next 205 = .ok (.aload_n 0, 1) := by decide +kernel
theorem dX11_next_206 : decode cX11_next 206 = .ok (.getfield 217, 3) := by decide +kernel
theorem dX11_next_209 : decode cX11_next 209 = .ok (.imul, 1) := by decide +kernel
theorem dX11_next_210 : decode cX11_next 210 = .ok (.aload_n 0, 1) := by decide +kernel
theorem dX11_next_211 : decode cX11_next 211 = .ok (.aload_n 0, 1) := by decide +kernel
theorem dX11_next_212 : decode cX11_next 212 = .ok (.getfield 201, 3) := by decide +kernel
theorem dX11_next_215 : decode cX11_next 215 = .ok (.invokevirtual 204, 3) := by decide +kernel
theorem dX11_next_218 : decode cX11_next 218 = .ok (.iadd, 1) := by decide +kernel
theorem dX11_next_219 : decode cX11_next 219 = .ok (.bipush 48, 2) := by decide +kernel
theorem dX11_next_221 : decode cX11_next 221 = .ok (.isub, 1) := by decide +kernel
theorem dX11_next_222 : decode cX11_next 222 = .ok (.goto 5, 3) := by decide +kernel
theorem dX11_next_225 : decode cX11_next 225 = .ok (.ldc 228, 2) := by decide +kernel
theorem dX11_next_227 : decode cX11_next 227 = .ok (.putfield 217, 3) := by decide +kernel
theorem dX11_next_230 : decode cX11_next 230 = .ok (.aload_n 0, 1) := by decide +kernel
theorem dX11_next_231 : decode cX11_next 231 = .ok (.dup, 1) := by decide +kernel
theorem dX11_next_232 : decode cX11_next 232 = .ok (.getfield 201, 3) := by decide +kernel
theorem dX11_next_235 : decode cX11_next 235 = .ok (.iconst 1, 1) := by decide +kernel
theorem dX11_next_236 : decode cX11_next 236 = .ok (.iadd, 1) := by decide +kernel
theorem dX11_next_237 : decode cX11_next 237 = .ok (.putfield 201, 3) := by decide +kernel
theorem dX11_next_240 : decode cX11_next 240 = .ok (.goto (-62), 3) := by decide +kernel
theorem dX11_next_243 : decode cX11_next 243 = .ok (.iload_n 2, 1) := by decide +kernel
theorem dX11_next_244 : decode cX11_next 244 = .ok (.bipush 59, 2) := by decide +kernel
theorem dX11_next_246 : decode cX11_next 246 = .ok (.if_icmp .eq 15, 3) := by decide +kernel
theorem dX11_next_249 : decode cX11_next 249 = .ok (.iload_n 2, 1) := by decide +kernel
theorem dX11_next_250 : decode cX11_next 250 = .ok (.bipush 91, 2) := by decide +kernel
theorem dX11_next_252 : decode cX11_next 252 = .ok (.if_icmp .eq 9, 3) := by decide +kernel
theorem dX11_next_255 : decode cX11_next 255 = .ok (.iload_n 2, 1) := by decide +kernel
theorem dX11_next_256 : decode cX11_next 256 = .ok (.bipush 93, 2) := by decide +kernel
theorem dX11_next_258 : decode cX11_next 258 = .ok (.if_icmp .ne 13, 3) := by decide +kernel
theorem dX11_next_261 : decode cX11_next 261 = .ok (.aload_n 0, 1) := by decide +kernel
theorem dX11_next_262 : decode cX11_next 262 = .ok (.iconst 3, 1) := by decide +kernel
theorem dX11_next_263 : decode cX11_next 263 = .ok (.putfield 210, 3) := by decide +kernel
theorem dX11_next_266 : decode cX11_next 266 = .ok (.aload_n 0, 1) := by decide +kernel
theorem dX11_next_267 : decode cX11_next 267 = .ok (.iload_n 2, 1) := by decide +kernel
theorem dX11_next_268 : decode cX11_next 268 = .ok (.putfield 217, 3) := by decide +kernel
theorem dX11_next_271 : decode cX11_next 271 = .ok (.return_, 1) := by decide +kernel
theorem dX11_wrong_0 : decode cX11_wrong 0 = .ok (.aload_n 0, 1) := by decide +kernel
theorem dX11_wrong_1 : decode cX11_wrong 1 = .ok (.getfield 198, 3) := by decide +kernel
theorem dX11_wrong_4 : decode cX11_wrong 4 = .ok (.ifCond .ne 16, 3) := by decide +kernel
theorem dX11_wrong_7 : decode cX11_wrong 7 = .ok (.aload_n 0, 1) := by decide +kernel
theorem dX11_wrong_8 : decode cX11_wrong 8 = .ok (.bipush 8, 2) := by decide +kernel
theorem dX11_wrong_10 : decode cX11_wrong 10 = .ok (.aload_n 0, 1) := by decide +kernel
theorem dX11_wrong_11 : decode cX11_wrong 11 = .ok (.getfield 207, 3) := by decide +kernel
theorem dX11_wrong_14 : decode cX11_wrong 14 = .ok (.imul, 1) := by decide +kernel
theorem dX11_wrong_15 : decode cX11_wrong 15 = .ok (.iload_n 1, 1) := by decide +kernel
theorem dX11_wrong_16 : decode cX11_wrong 16 = .ok (.iadd, 1) := by decide +kernel
theorem dX11_wrong_17 : decode cX11_wrong 17 = .ok (.putfield 198, 3) := by decide +kernel
theorem dX11_wrong_20 : decode cX11_wrong 20 = .ok (.return_, 1) := by decide +kernel
theorem dX11_packed_0 : decode cX11_packed 0 = .ok (.lconst 0, 1) := by decide +kernel
theorem dX11_packed_1 : decode cX11_packed 1 = .ok (.lstore_n 1, 1) := by decide +kernel
theorem dX11_packed_2 : decode cX11_packed 2 = .ok (.iconst 0, 1) := by decide +kernel
theorem dX11_packed_3 : decode cX11_packed 3 = .ok (.istore_n 3, 1) := by decide +kernel
theorem dX11_packed_4 : decode cX11_packed 4 = .ok (.iload_n 3, 1) := by decide +kernel
theorem dX11_packed_5 : decode cX11_packed 5 = .ok (.aload_n 0, 1) := by decide +kernel
theorem dX11_packed_6 : decode cX11_packed 6 = .ok (.invokevirtual 229, 3) := by decide +kernel
theorem dX11_packed_9 : decode cX11_packed 9 = .ok (.if_icmp .ge 22, 3) := by decide +kernel
theorem dX11_packed_12 : decode cX11_packed 12 = .ok (.ldc2_w 223, 3) := by decide +kernel
theorem dX11_packed_15 : decode cX11_packed 15 = .ok (.lload_n 1, 1) := by decide +kernel
theorem dX11_packed_16 : decode cX11_packed 16 = .ok (.lmul, 1) := by decide +kernel
theorem dX11_packed_17 : decode cX11_packed 17 = .ok (.aload_n 0, 1) := by decide +kernel
theorem dX11_packed_18 : decode cX11_packed 18 = .ok (.iload_n 3, 1) := by decide +kernel
theorem dX11_packed_19 : decode cX11_packed 19 = .ok (.invokevirtual 234, 3) := by decide +kernel
theorem dX11_packed_22 : decode cX11_packed 22 = .ok (.i2l, 1) := by decide +kernel
theorem dX11_packed_23 : decode cX11_packed 23 = .ok (.ladd, 1) := by decide +kernel
theorem dX11_packed_24 : decode cX11_packed 24 = .ok (.lstore_n 1, 1) := by decide +kernel
theorem dX11_packed_25 : decode cX11_packed 25 = .ok (.iinc 3 1, 3) := by decide +kernel
theorem dX11_packed_28 : decode cX11_packed 28 = .ok (.goto (-24), 3) := by decide +kernel
theorem dX11_packed_31 : decode cX11_packed 31 = .ok (.lload_n 1, 1) := by decide +kernel
theorem dX11_packed_32 : decode cX11_packed 32 = .ok (.lreturn, 1) := by decide +kernel
theorem dX11_isText_0 : decode cX11_isText 0 = .ok (.aload_n 0, 1) := by decide +kernel
theorem dX11_isText_1 : decode cX11_isText 1 = .ok (.getfield 198, 3) := by decide +kernel
theorem dX11_isText_4 : decode cX11_isText 4 = .ok (.ifCond .ne 27, 3) := by decide +kernel
theorem dX11_isText_7 : decode cX11_isText 7 = .ok (.aload_n 0, 1) := by decide +kernel
theorem dX11_isText_8 : decode cX11_isText 8 = .ok (.getfield 210, 3) := by decide +kernel
theorem dX11_isText_11 : decode cX11_isText 11 = .ok (.iconst 1, 1) := by decide +kernel
theorem dX11_isText_12 : decode cX11_isText 12 = .ok (.if_icmp .ne 19, 3) := by decide +kernel
theorem dX11_isText_15 : decode cX11_isText 15 = .ok (.aload_n 0, 1) := by decide +kernel
theorem dX11_isText_16 : decode cX11_isText 16 = .ok (.getfield 213, 3) := by decide +kernel
theorem dX11_isText_19 : decode cX11_isText 19 = .ok (.aload_n 1, 1) := by decide +kernel
theorem dX11_isText_20 : decode cX11_isText 20 = .ok (.invokestatic 238, 3) := by decide +kernel
theorem dX11_isText_23 : decode cX11_isText 23 = .ok (.lcmp, 1) := by decide +kernel
theorem dX11_isText_24 : decode cX11_isText 24 = .ok (.ifCond .ne 7, 3) := by decide +kernel
theorem dX11_isText_27 : decode cX11_isText 27 = .ok (.iconst 1, 1) := by decide +kernel
theorem dX11_isText_28 : decode cX11_isText 28 = .ok (.goto 4, 3) := by decide +kernel
theorem dX11_isText_31 : decode cX11_isText 31 = .ok (.iconst 0, 1) := by decide +kernel
theorem dX11_isText_32 : decode cX11_isText 32 = .ok (.ireturn, 1) := by decide +kernel
theorem dX11_must_0 : decode cX11_must 0 = .ok (.aload_n 0, 1) := by decide +kernel
theorem dX11_must_1 : decode cX11_must 1 = .ok (.getfield 198, 3) := by decide +kernel
theorem dX11_must_4 : decode cX11_must 4 = .ok (.ifCond .ne 24, 3) := by decide +kernel
theorem dX11_must_7 : decode cX11_must 7 = .ok (.aload_n 0, 1) := by decide +kernel
theorem dX11_must_8 : decode cX11_must 8 = .ok (.getfield 210, 3) := by decide +kernel
theorem dX11_must_11 : decode cX11_must 11 = .ok (.iconst 3, 1) := by decide +kernel
theorem dX11_must_12 : decode cX11_must 12 = .ok (.if_icmp .ne 11, 3) := by decide +kernel
theorem dX11_must_15 : decode cX11_must 15 = .ok (.aload_n 0, 1) := by decide +kernel
theorem dX11_must_16 : decode cX11_must 16 = .ok (.getfield 217, 3) := by decide +kernel
theorem dX11_must_19 : decode cX11_must 19 = .ok (.iload_n 1, 1) := by decide +kernel
theorem dX11_must_20 : decode cX11_must 20 = .ok (.if_icmp .eq 8, 3) := by decide +kernel
theorem dX11_must_23 : decode cX11_must 23 = .ok (.aload_n 0, 1) := by decide +kernel
theorem dX11_must_24 : decode cX11_must 24 = .ok (.iconst 1, 1) := by decide +kernel
theorem dX11_must_25 : decode cX11_must 25 = .ok (.invokevirtual 242, 3) := by decide +kernel
theorem dX11_must_28 : decode cX11_must 28 = .ok (.aload_n 0, 1) := by decide +kernel
theorem dX11_must_29 : decode cX11_must 29 = .ok (.invokevirtual 245, 3) := by decide +kernel
theorem dX11_must_32 : decode cX11_must 32 = .ok (.return_, 1) := by decide +kernel
theorem dX11_numberTold_0 : decode cX11_numberTold 0 = .ok (.aload_n 0, 1) := by decide +kernel
theorem dX11_numberTold_1 : decode cX11_numberTold 1 = .ok (.getfield 198, 3) := by decide +kernel
theorem dX11_numberTold_4 : decode cX11_numberTold 4 = .ok (.ifCond .ne 16, 3) := by decide +kernel
theorem dX11_numberTold_7 : decode cX11_numberTold 7 = .ok (.aload_n 0, 1) := by decide +kernel
theorem dX11_numberTold_8 : decode cX11_numberTold 8 = .ok (.getfield 210, 3) := by decide +kernel
theorem dX11_numberTold_11 : decode cX11_numberTold 11 = .ok (.iconst 2, 1) := by decide +kernel
theorem dX11_numberTold_12 : decode cX11_numberTold 12 = .ok (.if_icmp .eq 8, 3) := by decide +kernel
theorem dX11_numberTold_15 : decode cX11_numberTold 15 = .ok (.aload_n 0, 1) := by decide +kernel
theorem dX11_numberTold_16 : decode cX11_numberTold 16 = .ok (.iconst 1, 1) := by decide +kernel
theorem dX11_numberTold_17 : decode cX11_numberTold 17 = .ok (.invokevirtual 242, 3) := by decide +kernel
theorem dX11_numberTold_20 : decode cX11_numberTold 20 = .ok (.aload_n 0, 1) := by decide +kernel
theorem dX11_numberTold_21 : decode cX11_numberTold 21 = .ok (.getfield 198, 3) := by decide +kernel
theorem dX11_numberTold_24 : decode cX11_numberTold 24 = .ok (.ifCond .ne 16, 3) := by decide +kernel
theorem dX11_numberTold_27 : decode cX11_numberTold 27 = .ok (.aload_n 0, 1) := by decide +kernel
theorem dX11_numberTold_28 : decode cX11_numberTold 28 = .ok (.getfield 217, 3) := by decide +kernel
theorem dX11_numberTold_31 : decode cX11_numberTold 31 = .ok (.iload_n 1, 1) := by decide +kernel
theorem dX11_numberTold_32 : decode cX11_numberTold 32 = .ok (.if_icmp .le 8, 3) := by decide +kernel
theorem dX11_numberTold_35 : decode cX11_numberTold 35 = .ok (.aload_n 0, 1) := by decide +kernel
theorem dX11_numberTold_36 : decode cX11_numberTold 36 = .ok (.iconst 2, 1) := by decide +kernel
theorem dX11_numberTold_37 : decode cX11_numberTold 37 = .ok (.invokevirtual 242, 3) := by decide +kernel
theorem dX11_numberTold_40 : decode cX11_numberTold 40 = .ok (.aload_n 0, 1) := by decide +kernel
theorem dX11_numberTold_41 : decode cX11_numberTold 41 = .ok (.getfield 217, 3) := by decide +kernel
theorem dX11_numberTold_44 : decode cX11_numberTold 44 = .ok (.istore_n 2, 1) := by decide +kernel
theorem dX11_numberTold_45 : decode cX11_numberTold 45 = .ok (.aload_n 0, 1) := by decide +kernel
theorem dX11_numberTold_46 : decode cX11_numberTold 46 = .ok (.invokevirtual 245, 3) := by decide +kernel
theorem dX11_numberTold_49 : decode cX11_numberTold 49 = .ok (.iload_n 2, 1) := by decide +kernel
theorem dX11_numberTold_50 : decode cX11_numberTold 50 = .ok (.ireturn, 1) := by decide +kernel
theorem dX11_deedHere_0 : decode cX11_deedHere 0 = .ok (.aload_n 0, 1) := by decide +kernel
theorem dX11_deedHere_1 : decode cX11_deedHere 1 = .ok (.ldc 248, 2) := by decide +kernel
theorem dX11_deedHere_3 : decode cX11_deedHere 3 = .ok (.invokevirtual 250, 3) := by decide +kernel
theorem dX11_deedHere_6 : decode cX11_deedHere 6 = .ok (.ifCond .eq 5, 3) := by decide +kernel
theorem dX11_deedHere_9 : decode cX11_deedHere 9 = .ok (.iconst 0, 1) := by decide +kernel
theorem dX11_deedHere_10 : decode cX11_deedHere 10 = .ok (.ireturn, 1) := by decide +kernel
theorem dX11_deedHere_11 : decode cX11_deedHere 11 = .ok (.aload_n 0, 1) := by decide +kernel
theorem dX11_deedHere_12 : decode cX11_deedHere 12 = .ok (.ldc 254, 2) := by decide +kernel
theorem dX11_deedHere_14 : decode cX11_deedHere 14 = .ok (.invokevirtual 250, 3) := by decide +kernel
theorem dX11_deedHere_17 : decode cX11_deedHere 17 = .ok (.ifCond .eq 5, 3) := by decide +kernel
theorem dX11_deedHere_20 : decode cX11_deedHere 20 = .ok (.iconst 1, 1) := by decide +kernel
theorem dX11_deedHere_21 : decode cX11_deedHere 21 = .ok (.ireturn, 1) := by decide +kernel
theorem dX11_deedHere_22 : decode cX11_deedHere 22 = .ok (.aload_n 0, 1) := by decide +kernel
theorem dX11_deedHere_23 : decode cX11_deedHere 23 = .ok (.ldc_w 256, 3) := by decide +kernel
theorem dX11_deedHere_26 : decode cX11_deedHere 26 = .ok (.invokevirtual 250, 3) := by decide +kernel
theorem dX11_deedHere_29 : decode cX11_deedHere 29 = .ok (.ifCond .eq 5, 3) := by decide +kernel
theorem dX11_deedHere_32 : decode cX11_deedHere 32 = .ok (.iconst 2, 1) := by decide +kernel
theorem dX11_deedHere_33 : decode cX11_deedHere 33 = .ok (.ireturn, 1) := by decide +kernel
theorem dX11_deedHere_34 : decode cX11_deedHere 34 = .ok (.aload_n 0, 1) := by decide +kernel
theorem dX11_deedHere_35 : decode cX11_deedHere 35 = .ok (.ldc_w 258, 3) := by decide +kernel
theorem dX11_deedHere_38 : decode cX11_deedHere 38 = .ok (.invokevirtual 250, 3) := by decide +kernel
theorem dX11_deedHere_41 : decode cX11_deedHere 41 = .ok (.ifCond .eq 5, 3) := by decide +kernel
theorem dX11_deedHere_44 : decode cX11_deedHere 44 = .ok (.iconst 3, 1) := by decide +kernel
theorem dX11_deedHere_45 : decode cX11_deedHere 45 = .ok (.ireturn, 1) := by decide +kernel
theorem dX11_deedHere_46 : decode cX11_deedHere 46 = .ok (.aload_n 0, 1) := by decide +kernel
theorem dX11_deedHere_47 : decode cX11_deedHere 47 = .ok (.ldc_w 260, 3) := by decide +kernel
theorem dX11_deedHere_50 : decode cX11_deedHere 50 = .ok (.invokevirtual 250, 3) := by decide +kernel
theorem dX11_deedHere_53 : decode cX11_deedHere 53 = .ok (.ifCond .eq 5, 3) := by decide +kernel
theorem dX11_deedHere_56 : decode cX11_deedHere 56 = .ok (.iconst 4, 1) := by decide +kernel
theorem dX11_deedHere_57 : decode cX11_deedHere 57 = .ok (.ireturn, 1) := by decide +kernel
theorem dX11_deedHere_58 : decode cX11_deedHere 58 = .ok (.aload_n 0, 1) := by decide +kernel
theorem dX11_deedHere_59 : decode cX11_deedHere 59 = .ok (.ldc_w 262, 3) := by decide +kernel
theorem dX11_deedHere_62 : decode cX11_deedHere 62 = .ok (.invokevirtual 250, 3) := by decide +kernel
theorem dX11_deedHere_65 : decode cX11_deedHere 65 = .ok (.ifCond .eq 5, 3) := by decide +kernel
theorem dX11_deedHere_68 : decode cX11_deedHere 68 = .ok (.iconst 5, 1) := by decide +kernel
theorem dX11_deedHere_69 : decode cX11_deedHere 69 = .ok (.ireturn, 1) := by decide +kernel
theorem dX11_deedHere_70 : decode cX11_deedHere 70 = .ok (.aload_n 0, 1) := by decide +kernel
theorem dX11_deedHere_71 : decode cX11_deedHere 71 = .ok (.ldc_w 264, 3) := by decide +kernel
theorem dX11_deedHere_74 : decode cX11_deedHere 74 = .ok (.invokevirtual 250, 3) := by decide +kernel
theorem dX11_deedHere_77 : decode cX11_deedHere 77 = .ok (.ifCond .eq 6, 3) := by decide +kernel
theorem dX11_deedHere_80 : decode cX11_deedHere 80 = .ok (.bipush 6, 2) := by decide +kernel
theorem dX11_deedHere_82 : decode cX11_deedHere 82 = .ok (.ireturn, 1) := by decide +kernel
theorem dX11_deedHere_83 : decode cX11_deedHere 83 = .ok (.aload_n 0, 1) := by decide +kernel
theorem dX11_deedHere_84 : decode cX11_deedHere 84 = .ok (.ldc_w 266, 3) := by decide +kernel
theorem dX11_deedHere_87 : decode cX11_deedHere 87 = .ok (.invokevirtual 250, 3) := by decide +kernel
theorem dX11_deedHere_90 : decode cX11_deedHere 90 = .ok (.ifCond .eq 6, 3) := by decide +kernel
theorem dX11_deedHere_93 : decode cX11_deedHere 93 = .ok (.bipush 7, 2) := by decide +kernel
theorem dX11_deedHere_95 : decode cX11_deedHere 95 = .ok (.ireturn, 1) := by decide +kernel
theorem dX11_deedHere_96 : decode cX11_deedHere 96 = .ok (.aload_n 0, 1) := by decide +kernel
theorem dX11_deedHere_97 : decode cX11_deedHere 97 = .ok (.ldc_w 268, 3) := by decide +kernel
theorem dX11_deedHere_100 : decode cX11_deedHere 100 = .ok (.invokevirtual 250, 3) := by decide +kernel
theorem dX11_deedHere_103 : decode cX11_deedHere 103 = .ok (.ifCond .eq 6, 3) := by decide +kernel
theorem dX11_deedHere_106 : decode cX11_deedHere 106 = .ok (.bipush 8, 2) := by decide +kernel
theorem dX11_deedHere_108 : decode cX11_deedHere 108 = .ok (.ireturn, 1) := by decide +kernel
theorem dX11_deedHere_109 : decode cX11_deedHere 109 = .ok (.aload_n 0, 1) := by decide +kernel
theorem dX11_deedHere_110 : decode cX11_deedHere 110 = .ok (.ldc_w 270, 3) := by decide +kernel
theorem dX11_deedHere_113 : decode cX11_deedHere 113 = .ok (.invokevirtual 250, 3) := by decide +kernel
theorem dX11_deedHere_116 : decode cX11_deedHere 116 = .ok (.ifCond .eq 6, 3) := by decide +kernel
theorem dX11_deedHere_119 : decode cX11_deedHere 119 = .ok (.bipush 9, 2) := by decide +kernel
theorem dX11_deedHere_121 : decode cX11_deedHere 121 = .ok (.ireturn, 1) := by decide +kernel
theorem dX11_deedHere_122 : decode cX11_deedHere 122 = .ok (.aload_n 0, 1) := by decide +kernel
theorem dX11_deedHere_123 : decode cX11_deedHere 123 = .ok (.ldc_w 272, 3) := by decide +kernel
theorem dX11_deedHere_126 : decode cX11_deedHere 126 = .ok (.invokevirtual 250, 3) := by decide +kernel
theorem dX11_deedHere_129 : decode cX11_deedHere 129 = .ok (.ifCond .eq 6, 3) := by decide +kernel
theorem dX11_deedHere_132 : decode cX11_deedHere 132 = .ok (.bipush 10, 2) := by decide +kernel
theorem dX11_deedHere_134 : decode cX11_deedHere 134 = .ok (.ireturn, 1) := by decide +kernel
theorem dX11_deedHere_135 : decode cX11_deedHere 135 = .ok (.aload_n 0, 1) := by decide +kernel
theorem dX11_deedHere_136 : decode cX11_deedHere 136 = .ok (.ldc_w 274, 3) := by decide +kernel
theorem dX11_deedHere_139 : decode cX11_deedHere 139 = .ok (.invokevirtual 250, 3) := by decide +kernel
theorem dX11_deedHere_142 : decode cX11_deedHere 142 = .ok (.ifCond .eq 8, 3) := by decide +kernel
theorem dX11_deedHere_145 : decode cX11_deedHere 145 = .ok (.bipush 11, 2) := by decide +kernel
theorem dX11_deedHere_147 : decode cX11_deedHere 147 = .ok (.goto 4, 3) := by decide +kernel
theorem dX11_deedHere_150 : decode cX11_deedHere 150 = .ok (.iconst (-1), 1) := by decide +kernel
theorem dX11_deedHere_151 : decode cX11_deedHere 151 = .ok (.ireturn, 1) := by decide +kernel
theorem dX11_manyOf_0 : decode cX11_manyOf 0 = .ok (.iload_n 0, 1) := by decide +kernel
theorem dX11_manyOf_1 : decode cX11_manyOf 1 = .ok (.iconst 4, 1) := by decide +kernel
theorem dX11_manyOf_2 : decode cX11_manyOf 2 = .ok (.if_icmp .ge 7, 3) := by decide +kernel
theorem dX11_manyOf_5 : decode cX11_manyOf 5 = .ok (.iconst 0, 1) := by decide +kernel
theorem dX11_manyOf_6 : decode cX11_manyOf 6 = .ok (.goto 30, 3) := by decide +kernel
theorem dX11_manyOf_9 : decode cX11_manyOf 9 = .ok (.iload_n 0, 1) := by decide +kernel
theorem dX11_manyOf_10 : decode cX11_manyOf 10 = .ok (.bipush 8, 2) := by decide +kernel
theorem dX11_manyOf_12 : decode cX11_manyOf 12 = .ok (.if_icmp .ne 7, 3) := by decide +kernel
theorem dX11_manyOf_15 : decode cX11_manyOf 15 = .ok (.iconst 3, 1) := by decide +kernel
theorem dX11_manyOf_16 : decode cX11_manyOf 16 = .ok (.goto 20, 3) := by decide +kernel
theorem dX11_manyOf_19 : decode cX11_manyOf 19 = .ok (.iload_n 0, 1) := by decide +kernel
theorem dX11_manyOf_20 : decode cX11_manyOf 20 = .ok (.bipush 7, 2) := by decide +kernel
theorem dX11_manyOf_22 : decode cX11_manyOf 22 = .ok (.if_icmp .eq 9, 3) := by decide +kernel
theorem dX11_manyOf_25 : decode cX11_manyOf 25 = .ok (.iload_n 0, 1) := by decide +kernel
theorem dX11_manyOf_26 : decode cX11_manyOf 26 = .ok (.bipush 9, 2) := by decide +kernel
theorem dX11_manyOf_28 : decode cX11_manyOf 28 = .ok (.if_icmp .ne 7, 3) := by decide +kernel
theorem dX11_manyOf_31 : decode cX11_manyOf 31 = .ok (.iconst 2, 1) := by decide +kernel
theorem dX11_manyOf_32 : decode cX11_manyOf 32 = .ok (.goto 4, 3) := by decide +kernel
theorem dX11_manyOf_35 : decode cX11_manyOf 35 = .ok (.iconst 1, 1) := by decide +kernel
theorem dX11_manyOf_36 : decode cX11_manyOf 36 = .ok (.ireturn, 1) := by decide +kernel
theorem dX11_does_0 : decode cX11_does 0 = .ok (.iload_n 1, 1) := by decide +kernel
theorem dX11_does_1 : decode cX11_does 1 = .ok (.tableswitch 183 0 10 #[59, 72, 77, 90, 103, 117, 131, 137, 153, 170, 177], 59) := by decide +kernel
theorem dX11_does_60 : decode cX11_does 60 = .ok (.aload_n 0, 1) := by decide +kernel
theorem dX11_does_61 : decode cX11_does 61 = .ok (.invokevirtual 276, 3) := by decide +kernel
theorem dX11_does_64 : decode cX11_does 64 = .ok (.ifCond .lt 7, 3) := by decide +kernel
theorem dX11_does_67 : decode cX11_does 67 = .ok (.iconst 1, 1) := by decide +kernel
theorem dX11_does_68 : decode cX11_does 68 = .ok (.goto 4, 3) := by decide +kernel
theorem dX11_does_71 : decode cX11_does 71 = .ok (.iconst 0, 1) := by decide +kernel
theorem dX11_does_72 : decode cX11_does 72 = .ok (.ireturn, 1) := by decide +kernel
theorem dX11_does_73 : decode cX11_does 73 = .ok (.aload_n 0, 1) := by decide +kernel
theorem dX11_does_74 : decode cX11_does 74 = .ok (.invokevirtual 278, 3) := by decide +kernel
theorem dX11_does_77 : decode cX11_does 77 = .ok (.ireturn, 1) := by decide +kernel
theorem dX11_does_78 : decode cX11_does 78 = .ok (.aload_n 0, 1) := by decide +kernel
theorem dX11_does_79 : decode cX11_does 79 = .ok (.invokevirtual 280, 3) := by decide +kernel
theorem dX11_does_82 : decode cX11_does 82 = .ok (.ifCond .lt 7, 3) := by decide +kernel
theorem dX11_does_85 : decode cX11_does 85 = .ok (.iconst 1, 1) := by decide +kernel
theorem dX11_does_86 : decode cX11_does 86 = .ok (.goto 4, 3) := by decide +kernel
theorem dX11_does_89 : decode cX11_does 89 = .ok (.iconst 0, 1) := by decide +kernel
theorem dX11_does_90 : decode cX11_does 90 = .ok (.ireturn, 1) := by decide +kernel
theorem dX11_does_91 : decode cX11_does 91 = .ok (.aload_n 0, 1) := by decide +kernel
theorem dX11_does_92 : decode cX11_does 92 = .ok (.invokevirtual 282, 3) := by decide +kernel
theorem dX11_does_95 : decode cX11_does 95 = .ok (.ifCond .lt 7, 3) := by decide +kernel
theorem dX11_does_98 : decode cX11_does 98 = .ok (.iconst 1, 1) := by decide +kernel
theorem dX11_does_99 : decode cX11_does 99 = .ok (.goto 4, 3) := by decide +kernel
theorem dX11_does_102 : decode cX11_does 102 = .ok (.iconst 0, 1) := by decide +kernel
theorem dX11_does_103 : decode cX11_does 103 = .ok (.ireturn, 1) := by decide +kernel
theorem dX11_does_104 : decode cX11_does 104 = .ok (.aload_n 0, 1) := by decide +kernel
theorem dX11_does_105 : decode cX11_does 105 = .ok (.iload_n 2, 1) := by decide +kernel
theorem dX11_does_106 : decode cX11_does 106 = .ok (.invokevirtual 284, 3) := by decide +kernel
theorem dX11_does_109 : decode cX11_does 109 = .ok (.ifCond .lt 7, 3) := by decide +kernel
theorem dX11_does_112 : decode cX11_does 112 = .ok (.iconst 1, 1) := by decide +kernel
theorem dX11_does_113 : decode cX11_does 113 = .ok (.goto 4, 3) := by decide +kernel
theorem dX11_does_116 : decode cX11_does 116 = .ok (.iconst 0, 1) := by decide +kernel
theorem dX11_does_117 : decode cX11_does 117 = .ok (.ireturn, 1) := by decide +kernel
theorem dX11_does_118 : decode cX11_does 118 = .ok (.aload_n 0, 1) := by decide +kernel
theorem dX11_does_119 : decode cX11_does 119 = .ok (.iload_n 2, 1) := by decide +kernel
theorem dX11_does_120 : decode cX11_does 120 = .ok (.invokevirtual 286, 3) := by decide +kernel
theorem dX11_does_123 : decode cX11_does 123 = .ok (.ifCond .lt 7, 3) := by decide +kernel
theorem dX11_does_126 : decode cX11_does 126 = .ok (.iconst 1, 1) := by decide +kernel
theorem dX11_does_127 : decode cX11_does 127 = .ok (.goto 4, 3) := by decide +kernel
theorem dX11_does_130 : decode cX11_does 130 = .ok (.iconst 0, 1) := by decide +kernel
theorem dX11_does_131 : decode cX11_does 131 = .ok (.ireturn, 1) := by decide +kernel
theorem dX11_does_132 : decode cX11_does 132 = .ok (.aload_n 0, 1) := by decide +kernel
theorem dX11_does_133 : decode cX11_does 133 = .ok (.iload_n 2, 1) := by decide +kernel
theorem dX11_does_134 : decode cX11_does 134 = .ok (.invokevirtual 288, 3) := by decide +kernel
theorem dX11_does_137 : decode cX11_does 137 = .ok (.ireturn, 1) := by decide +kernel
theorem dX11_does_138 : decode cX11_does 138 = .ok (.aload_n 0, 1) := by decide +kernel
theorem dX11_does_139 : decode cX11_does 139 = .ok (.iload_n 2, 1) := by decide +kernel
theorem dX11_does_140 : decode cX11_does 140 = .ok (.iload_n 3, 1) := by decide +kernel
theorem dX11_does_141 : decode cX11_does 141 = .ok (.invokevirtual 290, 3) := by decide +kernel
theorem dX11_does_144 : decode cX11_does 144 = .ok (.iconst 1, 1) := by decide +kernel
theorem dX11_does_145 : decode cX11_does 145 = .ok (.if_icmp .ne 7, 3) := by decide +kernel
theorem dX11_does_148 : decode cX11_does 148 = .ok (.iconst 1, 1) := by decide +kernel
theorem dX11_does_149 : decode cX11_does 149 = .ok (.goto 4, 3) := by decide +kernel
theorem dX11_does_152 : decode cX11_does 152 = .ok (.iconst 0, 1) := by decide +kernel
theorem dX11_does_153 : decode cX11_does 153 = .ok (.ireturn, 1) := by decide +kernel
theorem dX11_does_154 : decode cX11_does 154 = .ok (.aload_n 0, 1) := by decide +kernel
theorem dX11_does_155 : decode cX11_does 155 = .ok (.iload_n 2, 1) := by decide +kernel
theorem dX11_does_156 : decode cX11_does 156 = .ok (.iload_n 3, 1) := by decide +kernel
theorem dX11_does_157 : decode cX11_does 157 = .ok (.iload 4, 2) := by decide +kernel
theorem dX11_does_159 : decode cX11_does 159 = .ok (.invokevirtual 292, 3) := by decide +kernel
theorem dX11_does_162 : decode cX11_does 162 = .ok (.ifCond .lt 7, 3) := by decide +kernel
theorem dX11_does_165 : decode cX11_does 165 = .ok (.iconst 1, 1) := by decide +kernel
theorem dX11_does_166 : decode cX11_does 166 = .ok (.goto 4, 3) := by decide +kernel
theorem dX11_does_169 : decode cX11_does 169 = .ok (.iconst 0, 1) := by decide +kernel
theorem dX11_does_170 : decode cX11_does 170 = .ok (.ireturn, 1) := by decide +kernel
theorem dX11_does_171 : decode cX11_does 171 = .ok (.aload_n 0, 1) := by decide +kernel
theorem dX11_does_172 : decode cX11_does 172 = .ok (.iload_n 2, 1) := by decide +kernel
theorem dX11_does_173 : decode cX11_does 173 = .ok (.iload_n 3, 1) := by decide +kernel
theorem dX11_does_174 : decode cX11_does 174 = .ok (.invokevirtual 295, 3) := by decide +kernel
theorem dX11_does_177 : decode cX11_does 177 = .ok (.ireturn, 1) := by decide +kernel
theorem dX11_does_178 : decode cX11_does 178 = .ok (.aload_n 0, 1) := by decide +kernel
theorem dX11_does_179 : decode cX11_does 179 = .ok (.iload_n 2, 1) := by decide +kernel
theorem dX11_does_180 : decode cX11_does 180 = .ok (.invokevirtual 297, 3) := by decide +kernel
theorem dX11_does_183 : decode cX11_does 183 = .ok (.ireturn, 1) := by decide +kernel
theorem dX11_does_184 : decode cX11_does 184 = .ok (.aload_n 0, 1) := by decide +kernel
theorem dX11_does_185 : decode cX11_does 185 = .ok (.iload_n 2, 1) := by decide +kernel
theorem dX11_does_186 : decode cX11_does 186 = .ok (.invokevirtual 299, 3) := by decide +kernel
theorem dX11_does_189 : decode cX11_does 189 = .ok (.ireturn, 1) := by decide +kernel
theorem dX11_deedTold_0 : decode cX11_deedTold 0 = .ok (.aload_n 0, 1) := by decide +kernel
theorem dX11_deedTold_1 : decode cX11_deedTold 1 = .ok (.ldc_w 301, 3) := by decide +kernel
theorem dX11_deedTold_4 : decode cX11_deedTold 4 = .ok (.invokevirtual 250, 3) := by decide +kernel
theorem dX11_deedTold_7 : decode cX11_deedTold 7 = .ok (.ifCond .eq 25, 3) := by decide +kernel
theorem dX11_deedTold_10 : decode cX11_deedTold 10 = .ok (.iload_n 1, 1) := by decide +kernel
theorem dX11_deedTold_11 : decode cX11_deedTold 11 = .ok (.iconst 3, 1) := by decide +kernel
theorem dX11_deedTold_12 : decode cX11_deedTold 12 = .ok (.if_icmp .ne 8, 3) := by decide +kernel
theorem dX11_deedTold_15 : decode cX11_deedTold 15 = .ok (.aload_n 0, 1) := by decide +kernel
theorem dX11_deedTold_16 : decode cX11_deedTold 16 = .ok (.iconst 3, 1) := by decide +kernel
theorem dX11_deedTold_17 : decode cX11_deedTold 17 = .ok (.invokevirtual 242, 3) := by decide +kernel
theorem dX11_deedTold_20 : decode cX11_deedTold 20 = .ok (.aload_n 0, 1) := by decide +kernel
theorem dX11_deedTold_21 : decode cX11_deedTold 21 = .ok (.invokevirtual 245, 3) := by decide +kernel
theorem dX11_deedTold_24 : decode cX11_deedTold 24 = .ok (.aload_n 0, 1) := by decide +kernel
theorem dX11_deedTold_25 : decode cX11_deedTold 25 = .ok (.iload_n 1, 1) := by decide +kernel
theorem dX11_deedTold_26 : decode cX11_deedTold 26 = .ok (.iconst 1, 1) := by decide +kernel
theorem dX11_deedTold_27 : decode cX11_deedTold 27 = .ok (.iadd, 1) := by decide +kernel
theorem dX11_deedTold_28 : decode cX11_deedTold 28 = .ok (.invokevirtual 303, 3) := by decide +kernel
theorem dX11_deedTold_31 : decode cX11_deedTold 31 = .ok (.return_, 1) := by decide +kernel
theorem dX11_deedTold_32 : decode cX11_deedTold 32 = .ok (.aload_n 0, 1) := by decide +kernel
theorem dX11_deedTold_33 : decode cX11_deedTold 33 = .ok (.invokevirtual 306, 3) := by decide +kernel
theorem dX11_deedTold_36 : decode cX11_deedTold 36 = .ok (.istore_n 2, 1) := by decide +kernel
theorem dX11_deedTold_37 : decode cX11_deedTold 37 = .ok (.iload_n 2, 1) := by decide +kernel
theorem dX11_deedTold_38 : decode cX11_deedTold 38 = .ok (.ifCond .ge 9, 3) := by decide +kernel
theorem dX11_deedTold_41 : decode cX11_deedTold 41 = .ok (.aload_n 0, 1) := by decide +kernel
theorem dX11_deedTold_42 : decode cX11_deedTold 42 = .ok (.iconst 1, 1) := by decide +kernel
theorem dX11_deedTold_43 : decode cX11_deedTold 43 = .ok (.invokevirtual 242, 3) := by decide +kernel
theorem dX11_deedTold_46 : decode cX11_deedTold 46 = .ok (.return_, 1) := by decide +kernel
theorem dX11_deedTold_47 : decode cX11_deedTold 47 = .ok (.aload_n 0, 1) := by decide +kernel
theorem dX11_deedTold_48 : decode cX11_deedTold 48 = .ok (.invokevirtual 245, 3) := by decide +kernel
theorem dX11_deedTold_51 : decode cX11_deedTold 51 = .ok (.iload_n 2, 1) := by decide +kernel
theorem dX11_deedTold_52 : decode cX11_deedTold 52 = .ok (.invokestatic 309, 3) := by decide +kernel
theorem dX11_deedTold_55 : decode cX11_deedTold 55 = .ok (.ifCond .le 13, 3) := by decide +kernel
theorem dX11_deedTold_58 : decode cX11_deedTold 58 = .ok (.aload_n 0, 1) := by decide +kernel
theorem dX11_deedTold_59 : decode cX11_deedTold 59 = .ok (.sipush 9999, 3) := by decide +kernel
theorem dX11_deedTold_62 : decode cX11_deedTold 62 = .ok (.invokevirtual 312, 3) := by decide +kernel
theorem dX11_deedTold_65 : decode cX11_deedTold 65 = .ok (.goto 4, 3) := by decide +kernel
theorem dX11_deedTold_68 : decode cX11_deedTold 68 = .ok (.iconst 0, 1) := by decide +kernel
theorem dX11_deedTold_69 : decode cX11_deedTold 69 = .ok (.istore_n 3, 1) := by decide +kernel
theorem dX11_deedTold_70 : decode cX11_deedTold 70 = .ok (.iload_n 2, 1) := by decide +kernel
theorem dX11_deedTold_71 : decode cX11_deedTold 71 = .ok (.invokestatic 309, 3) := by decide +kernel
theorem dX11_deedTold_74 : decode cX11_deedTold 74 = .ok (.iconst 1, 1) := by decide +kernel
theorem dX11_deedTold_75 : decode cX11_deedTold 75 = .ok (.if_icmp .le 13, 3) := by decide +kernel
theorem dX11_deedTold_78 : decode cX11_deedTold 78 = .ok (.aload_n 0, 1) := by decide +kernel
theorem dX11_deedTold_79 : decode cX11_deedTold 79 = .ok (.sipush 9999, 3) := by decide +kernel
theorem dX11_deedTold_82 : decode cX11_deedTold 82 = .ok (.invokevirtual 312, 3) := by decide +kernel
theorem dX11_deedTold_85 : decode cX11_deedTold 85 = .ok (.goto 4, 3) := by decide +kernel
theorem dX11_deedTold_88 : decode cX11_deedTold 88 = .ok (.iconst 0, 1) := by decide +kernel
theorem dX11_deedTold_89 : decode cX11_deedTold 89 = .ok (.istore 4, 2) := by decide +kernel
theorem dX11_deedTold_91 : decode cX11_deedTold 91 = .ok (.iload_n 2, 1) := by decide +kernel
theorem dX11_deedTold_92 : decode cX11_deedTold 92 = .ok (.invokestatic 309, 3) := by decide +kernel
theorem dX11_deedTold_95 : decode cX11_deedTold 95 = .ok (.iconst 2, 1) := by decide +kernel
theorem dX11_deedTold_96 : decode cX11_deedTold 96 = .ok (.if_icmp .le 13, 3) := by decide +kernel
theorem dX11_deedTold_99 : decode cX11_deedTold 99 = .ok (.aload_n 0, 1) := by decide +kernel
theorem dX11_deedTold_100 : decode cX11_deedTold 100 = .ok (.sipush 9999, 3) := by decide +kernel
theorem dX11_deedTold_103 : decode cX11_deedTold 103 = .ok (.invokevirtual 312, 3) := by decide +kernel
theorem dX11_deedTold_106 : decode cX11_deedTold 106 = .ok (.goto 4, 3) := by decide +kernel
theorem dX11_deedTold_109 : decode cX11_deedTold 109 = .ok (.iconst 0, 1) := by decide +kernel
theorem dX11_deedTold_110 : decode cX11_deedTold 110 = .ok (.istore 5, 2) := by decide +kernel
theorem dX11_deedTold_112 : decode cX11_deedTold 112 = .ok (.aload_n 0, 1) := by decide +kernel
theorem dX11_deedTold_113 : decode cX11_deedTold 113 = .ok (.getfield 198, 3) := by decide +kernel
theorem dX11_deedTold_116 : decode cX11_deedTold 116 = .ok (.ifCond .gt 17, 3) := by decide +kernel
theorem dX11_deedTold_119 : decode cX11_deedTold 119 = .ok (.aload_n 0, 1) := by decide +kernel
theorem dX11_deedTold_120 : decode cX11_deedTold 120 = .ok (.getfield 315, 3) := by decide +kernel
theorem dX11_deedTold_123 : decode cX11_deedTold 123 = .ok (.ifCond .eq 10, 3) := by decide +kernel
theorem dX11_deedTold_126 : decode cX11_deedTold 126 = .ok (.aload_n 0, 1) := by decide +kernel
theorem dX11_deedTold_127 : decode cX11_deedTold 127 = .ok (.getfield 318, 3) := by decide +kernel
theorem dX11_deedTold_130 : decode cX11_deedTold 130 = .ok (.ifCond .eq 4, 3) := by decide +kernel
theorem dX11_deedTold_133 : decode cX11_deedTold 133 = .ok (.return_, 1) := by decide +kernel
theorem dX11_deedTold_134 : decode cX11_deedTold 134 = .ok (.aload_n 0, 1) := by decide +kernel
theorem dX11_deedTold_135 : decode cX11_deedTold 135 = .ok (.getfield 321, 3) := by decide +kernel
theorem dX11_deedTold_138 : decode cX11_deedTold 138 = .ok (.sipush 200, 3) := by decide +kernel
theorem dX11_deedTold_141 : decode cX11_deedTold 141 = .ok (.if_icmp .eq 16, 3) := by decide +kernel
theorem dX11_deedTold_144 : decode cX11_deedTold 144 = .ok (.aload_n 0, 1) := by decide +kernel
theorem dX11_deedTold_145 : decode cX11_deedTold 145 = .ok (.iload_n 2, 1) := by decide +kernel
theorem dX11_deedTold_146 : decode cX11_deedTold 146 = .ok (.iload_n 3, 1) := by decide +kernel
theorem dX11_deedTold_147 : decode cX11_deedTold 147 = .ok (.iload 4, 2) := by decide +kernel
theorem dX11_deedTold_149 : decode cX11_deedTold 149 = .ok (.iload 5, 2) := by decide +kernel
theorem dX11_deedTold_151 : decode cX11_deedTold 151 = .ok (.invokevirtual 324, 3) := by decide +kernel
theorem dX11_deedTold_154 : decode cX11_deedTold 154 = .ok (.ifCond .ne 9, 3) := by decide +kernel
theorem dX11_deedTold_157 : decode cX11_deedTold 157 = .ok (.aload_n 0, 1) := by decide +kernel
theorem dX11_deedTold_158 : decode cX11_deedTold 158 = .ok (.iconst 1, 1) := by decide +kernel
theorem dX11_deedTold_159 : decode cX11_deedTold 159 = .ok (.putfield 318, 3) := by decide +kernel
theorem dX11_deedTold_162 : decode cX11_deedTold 162 = .ok (.return_, 1) := by decide +kernel
theorem dX11_deedTold_163 : decode cX11_deedTold 163 = .ok (.aload_n 0, 1) := by decide +kernel
theorem dX11_deedTold_164 : decode cX11_deedTold 164 = .ok (.dup, 1) := by decide +kernel
theorem dX11_deedTold_165 : decode cX11_deedTold 165 = .ok (.getfield 321, 3) := by decide +kernel
theorem dX11_deedTold_168 : decode cX11_deedTold 168 = .ok (.iconst 1, 1) := by decide +kernel
theorem dX11_deedTold_169 : decode cX11_deedTold 169 = .ok (.iadd, 1) := by decide +kernel
theorem dX11_deedTold_170 : decode cX11_deedTold 170 = .ok (.putfield 321, 3) := by decide +kernel
theorem dX11_deedTold_173 : decode cX11_deedTold 173 = .ok (.return_, 1) := by decide +kernel
theorem dX11_againTold_0 : decode cX11_againTold 0 = .ok (.aload_n 0, 1) := by decide +kernel
theorem dX11_againTold_1 : decode cX11_againTold 1 = .ok (.bipush 20, 2) := by decide +kernel
theorem dX11_againTold_3 : decode cX11_againTold 3 = .ok (.invokevirtual 312, 3) := by decide +kernel
theorem dX11_againTold_6 : decode cX11_againTold 6 = .ok (.istore_n 2, 1) := by decide +kernel
theorem dX11_againTold_7 : decode cX11_againTold 7 = .ok (.aload_n 0, 1) := by decide +kernel
theorem dX11_againTold_8 : decode cX11_againTold 8 = .ok (.getfield 198, 3) := by decide +kernel
theorem dX11_againTold_11 : decode cX11_againTold 11 = .ok (.ifCond .le 4, 3) := by decide +kernel
theorem dX11_againTold_14 : decode cX11_againTold 14 = .ok (.return_, 1) := by decide +kernel
theorem dX11_againTold_15 : decode cX11_againTold 15 = .ok (.aload_n 0, 1) := by decide +kernel
theorem dX11_againTold_16 : decode cX11_againTold 16 = .ok (.getfield 315, 3) := by decide +kernel
theorem dX11_againTold_19 : decode cX11_againTold 19 = .ok (.istore_n 3, 1) := by decide +kernel
theorem dX11_againTold_20 : decode cX11_againTold 20 = .ok (.aload_n 0, 1) := by decide +kernel
theorem dX11_againTold_21 : decode cX11_againTold 21 = .ok (.getfield 315, 3) := by decide +kernel
theorem dX11_againTold_24 : decode cX11_againTold 24 = .ok (.ifCond .eq 11, 3) := by decide +kernel
theorem dX11_againTold_27 : decode cX11_againTold 27 = .ok (.iload_n 2, 1) := by decide +kernel
theorem dX11_againTold_28 : decode cX11_againTold 28 = .ok (.ifCond .le 7, 3) := by decide +kernel
theorem dX11_againTold_31 : decode cX11_againTold 31 = .ok (.iconst 1, 1) := by decide +kernel
theorem dX11_againTold_32 : decode cX11_againTold 32 = .ok (.goto 4, 3) := by decide +kernel
theorem dX11_againTold_35 : decode cX11_againTold 35 = .ok (.iconst 0, 1) := by decide +kernel
theorem dX11_againTold_36 : decode cX11_againTold 36 = .ok (.istore 4, 2) := by decide +kernel
theorem dX11_againTold_38 : decode cX11_againTold 38 = .ok (.aload_n 0, 1) := by decide +kernel
theorem dX11_againTold_39 : decode cX11_againTold 39 = .ok (.getfield 207, 3) := by decide +kernel
theorem dX11_againTold_42 : decode cX11_againTold 42 = .ok (.istore 5, 2) := by decide +kernel
theorem dX11_againTold_44 : decode cX11_againTold 44 = .ok (.iload 4, 2) := by decide +kernel
theorem dX11_againTold_46 : decode cX11_againTold 46 = .ok (.ifCond .eq 7, 3) := by decide +kernel
theorem dX11_againTold_49 : decode cX11_againTold 49 = .ok (.iload_n 2, 1) := by decide +kernel
theorem dX11_againTold_50 : decode cX11_againTold 50 = .ok (.goto 4, 3) := by decide +kernel
theorem dX11_againTold_53 : decode cX11_againTold 53 = .ok (.iconst 1, 1) := by decide +kernel
theorem dX11_againTold_54 : decode cX11_againTold 54 = .ok (.istore 6, 2) := by decide +kernel
theorem dX11_againTold_56 : decode cX11_againTold 56 = .ok (.iconst 0, 1) := by decide +kernel
theorem dX11_againTold_57 : decode cX11_againTold 57 = .ok (.istore 7, 2) := by decide +kernel
theorem dX11_againTold_59 : decode cX11_againTold 59 = .ok (.iload 7, 2) := by decide +kernel
theorem dX11_againTold_61 : decode cX11_againTold 61 = .ok (.iload 6, 2) := by decide +kernel
theorem dX11_againTold_63 : decode cX11_againTold 63 = .ok (.if_icmp .ge 60, 3) := by decide +kernel
theorem dX11_againTold_66 : decode cX11_againTold 66 = .ok (.aload_n 0, 1) := by decide +kernel
theorem dX11_againTold_67 : decode cX11_againTold 67 = .ok (.getfield 198, 3) := by decide +kernel
theorem dX11_againTold_70 : decode cX11_againTold 70 = .ok (.ifCond .ne 53, 3) := by decide +kernel
theorem dX11_againTold_73 : decode cX11_againTold 73 = .ok (.aload_n 0, 1) := by decide +kernel
theorem dX11_againTold_74 : decode cX11_againTold 74 = .ok (.getfield 318, 3) := by decide +kernel
theorem dX11_againTold_77 : decode cX11_againTold 77 = .ok (.ifCond .eq 7, 3) := by decide +kernel
theorem dX11_againTold_80 : decode cX11_againTold 80 = .ok (.iload_n 3, 1) := by decide +kernel
theorem dX11_againTold_81 : decode cX11_againTold 81 = .ok (.ifCond .ne 42, 3) := by decide +kernel
theorem dX11_againTold_84 : decode cX11_againTold 84 = .ok (.aload_n 0, 1) := by decide +kernel
theorem dX11_againTold_85 : decode cX11_againTold 85 = .ok (.iload 4, 2) := by decide +kernel
theorem dX11_againTold_87 : decode cX11_againTold 87 = .ok (.putfield 315, 3) := by decide +kernel
theorem dX11_againTold_90 : decode cX11_againTold 90 = .ok (.aload_n 0, 1) := by decide +kernel
theorem dX11_againTold_91 : decode cX11_againTold 91 = .ok (.iload 5, 2) := by decide +kernel
theorem dX11_againTold_93 : decode cX11_againTold 93 = .ok (.putfield 201, 3) := by decide +kernel
theorem dX11_againTold_96 : decode cX11_againTold 96 = .ok (.aload_n 0, 1) := by decide +kernel
theorem dX11_againTold_97 : decode cX11_againTold 97 = .ok (.invokevirtual 245, 3) := by decide +kernel
theorem dX11_againTold_100 : decode cX11_againTold 100 = .ok (.aload_n 0, 1) := by decide +kernel
theorem dX11_againTold_101 : decode cX11_againTold 101 = .ok (.bipush 91, 2) := by decide +kernel
theorem dX11_againTold_103 : decode cX11_againTold 103 = .ok (.invokevirtual 328, 3) := by decide +kernel
theorem dX11_againTold_106 : decode cX11_againTold 106 = .ok (.aload_n 0, 1) := by decide +kernel
theorem dX11_againTold_107 : decode cX11_againTold 107 = .ok (.iload_n 1, 1) := by decide +kernel
theorem dX11_againTold_108 : decode cX11_againTold 108 = .ok (.invokevirtual 331, 3) := by decide +kernel
theorem dX11_againTold_111 : decode cX11_againTold 111 = .ok (.aload_n 0, 1) := by decide +kernel
theorem dX11_againTold_112 : decode cX11_againTold 112 = .ok (.bipush 93, 2) := by decide +kernel
theorem dX11_againTold_114 : decode cX11_againTold 114 = .ok (.invokevirtual 328, 3) := by decide +kernel
theorem dX11_againTold_117 : decode cX11_againTold 117 = .ok (.iinc 7 1, 3) := by decide +kernel
theorem dX11_againTold_120 : decode cX11_againTold 120 = .ok (.goto (-61), 3) := by decide +kernel
theorem dX11_againTold_123 : decode cX11_againTold 123 = .ok (.aload_n 0, 1) := by decide +kernel
theorem dX11_againTold_124 : decode cX11_againTold 124 = .ok (.iload_n 3, 1) := by decide +kernel
theorem dX11_againTold_125 : decode cX11_againTold 125 = .ok (.putfield 315, 3) := by decide +kernel
theorem dX11_againTold_128 : decode cX11_againTold 128 = .ok (.return_, 1) := by decide +kernel
theorem dX11_deedsTold_0 : decode cX11_deedsTold 0 = .ok (.aload_n 0, 1) := by decide +kernel
theorem dX11_deedsTold_1 : decode cX11_deedsTold 1 = .ok (.getfield 198, 3) := by decide +kernel
theorem dX11_deedsTold_4 : decode cX11_deedsTold 4 = .ok (.ifCond .ne 70, 3) := by decide +kernel
theorem dX11_deedsTold_7 : decode cX11_deedsTold 7 = .ok (.aload_n 0, 1) := by decide +kernel
theorem dX11_deedsTold_8 : decode cX11_deedsTold 8 = .ok (.getfield 210, 3) := by decide +kernel
theorem dX11_deedsTold_11 : decode cX11_deedsTold 11 = .ok (.ifCond .eq 63, 3) := by decide +kernel
theorem dX11_deedsTold_14 : decode cX11_deedsTold 14 = .ok (.aload_n 0, 1) := by decide +kernel
theorem dX11_deedsTold_15 : decode cX11_deedsTold 15 = .ok (.getfield 210, 3) := by decide +kernel
theorem dX11_deedsTold_18 : decode cX11_deedsTold 18 = .ok (.iconst 3, 1) := by decide +kernel
theorem dX11_deedsTold_19 : decode cX11_deedsTold 19 = .ok (.if_icmp .ne 12, 3) := by decide +kernel
theorem dX11_deedsTold_22 : decode cX11_deedsTold 22 = .ok (.aload_n 0, 1) := by decide +kernel
theorem dX11_deedsTold_23 : decode cX11_deedsTold 23 = .ok (.getfield 217, 3) := by decide +kernel
theorem dX11_deedsTold_26 : decode cX11_deedsTold 26 = .ok (.bipush 93, 2) := by decide +kernel
theorem dX11_deedsTold_28 : decode cX11_deedsTold 28 = .ok (.if_icmp .eq 46, 3) := by decide +kernel
theorem dX11_deedsTold_31 : decode cX11_deedsTold 31 = .ok (.aload_n 0, 1) := by decide +kernel
theorem dX11_deedsTold_32 : decode cX11_deedsTold 32 = .ok (.getfield 318, 3) := by decide +kernel
theorem dX11_deedsTold_35 : decode cX11_deedsTold 35 = .ok (.ifCond .eq 10, 3) := by decide +kernel
theorem dX11_deedsTold_38 : decode cX11_deedsTold 38 = .ok (.aload_n 0, 1) := by decide +kernel
theorem dX11_deedsTold_39 : decode cX11_deedsTold 39 = .ok (.getfield 315, 3) := by decide +kernel
theorem dX11_deedsTold_42 : decode cX11_deedsTold 42 = .ok (.ifCond .ne 32, 3) := by decide +kernel
theorem dX11_deedsTold_45 : decode cX11_deedsTold 45 = .ok (.aload_n 0, 1) := by decide +kernel
theorem dX11_deedsTold_46 : decode cX11_deedsTold 46 = .ok (.iload_n 1, 1) := by decide +kernel
theorem dX11_deedsTold_47 : decode cX11_deedsTold 47 = .ok (.invokevirtual 334, 3) := by decide +kernel
theorem dX11_deedsTold_50 : decode cX11_deedsTold 50 = .ok (.aload_n 0, 1) := by decide +kernel
theorem dX11_deedsTold_51 : decode cX11_deedsTold 51 = .ok (.getfield 318, 3) := by decide +kernel
theorem dX11_deedsTold_54 : decode cX11_deedsTold 54 = .ok (.ifCond .eq 11, 3) := by decide +kernel
theorem dX11_deedsTold_57 : decode cX11_deedsTold 57 = .ok (.aload_n 0, 1) := by decide +kernel
theorem dX11_deedsTold_58 : decode cX11_deedsTold 58 = .ok (.getfield 315, 3) := by decide +kernel
theorem dX11_deedsTold_61 : decode cX11_deedsTold 61 = .ok (.ifCond .eq 4, 3) := by decide +kernel
theorem dX11_deedsTold_64 : decode cX11_deedsTold 64 = .ok (.return_, 1) := by decide +kernel
theorem dX11_deedsTold_65 : decode cX11_deedsTold 65 = .ok (.aload_n 0, 1) := by decide +kernel
theorem dX11_deedsTold_66 : decode cX11_deedsTold 66 = .ok (.bipush 59, 2) := by decide +kernel
theorem dX11_deedsTold_68 : decode cX11_deedsTold 68 = .ok (.invokevirtual 328, 3) := by decide +kernel
theorem dX11_deedsTold_71 : decode cX11_deedsTold 71 = .ok (.goto (-71), 3) := by decide +kernel
theorem dX11_deedsTold_74 : decode cX11_deedsTold 74 = .ok (.return_, 1) := by decide +kernel
theorem dX11_goesThrough_0 : decode cX11_goesThrough 0 = .ok (.aload_n 0, 1) := by decide +kernel
theorem dX11_goesThrough_1 : decode cX11_goesThrough 1 = .ok (.iconst 0, 1) := by decide +kernel
theorem dX11_goesThrough_2 : decode cX11_goesThrough 2 = .ok (.putfield 198, 3) := by decide +kernel
theorem dX11_goesThrough_5 : decode cX11_goesThrough 5 = .ok (.aload_n 0, 1) := by decide +kernel
theorem dX11_goesThrough_6 : decode cX11_goesThrough 6 = .ok (.iconst 0, 1) := by decide +kernel
theorem dX11_goesThrough_7 : decode cX11_goesThrough 7 = .ok (.putfield 201, 3) := by decide +kernel
theorem dX11_goesThrough_10 : decode cX11_goesThrough 10 = .ok (.aload_n 0, 1) := by decide +kernel
theorem dX11_goesThrough_11 : decode cX11_goesThrough 11 = .ok (.iload_n 1, 1) := by decide +kernel
theorem dX11_goesThrough_12 : decode cX11_goesThrough 12 = .ok (.putfield 315, 3) := by decide +kernel
theorem dX11_goesThrough_15 : decode cX11_goesThrough 15 = .ok (.aload_n 0, 1) := by decide +kernel
theorem dX11_goesThrough_16 : decode cX11_goesThrough 16 = .ok (.iconst 0, 1) := by decide +kernel
theorem dX11_goesThrough_17 : decode cX11_goesThrough 17 = .ok (.putfield 318, 3) := by decide +kernel
theorem dX11_goesThrough_20 : decode cX11_goesThrough 20 = .ok (.aload_n 0, 1) := by decide +kernel
theorem dX11_goesThrough_21 : decode cX11_goesThrough 21 = .ok (.iconst 0, 1) := by decide +kernel
theorem dX11_goesThrough_22 : decode cX11_goesThrough 22 = .ok (.putfield 321, 3) := by decide +kernel
theorem dX11_goesThrough_25 : decode cX11_goesThrough 25 = .ok (.aload_n 0, 1) := by decide +kernel
theorem dX11_goesThrough_26 : decode cX11_goesThrough 26 = .ok (.invokevirtual 245, 3) := by decide +kernel
theorem dX11_goesThrough_29 : decode cX11_goesThrough 29 = .ok (.aload_n 0, 1) := by decide +kernel
theorem dX11_goesThrough_30 : decode cX11_goesThrough 30 = .ok (.iconst 0, 1) := by decide +kernel
theorem dX11_goesThrough_31 : decode cX11_goesThrough 31 = .ok (.invokevirtual 331, 3) := by decide +kernel
theorem dX11_goesThrough_34 : decode cX11_goesThrough 34 = .ok (.aload_n 0, 1) := by decide +kernel
theorem dX11_goesThrough_35 : decode cX11_goesThrough 35 = .ok (.getfield 318, 3) := by decide +kernel
theorem dX11_goesThrough_38 : decode cX11_goesThrough 38 = .ok (.ifCond .ne 22, 3) := by decide +kernel
theorem dX11_goesThrough_41 : decode cX11_goesThrough 41 = .ok (.aload_n 0, 1) := by decide +kernel
theorem dX11_goesThrough_42 : decode cX11_goesThrough 42 = .ok (.getfield 198, 3) := by decide +kernel
theorem dX11_goesThrough_45 : decode cX11_goesThrough 45 = .ok (.ifCond .ne 15, 3) := by decide +kernel
theorem dX11_goesThrough_48 : decode cX11_goesThrough 48 = .ok (.aload_n 0, 1) := by decide +kernel
theorem dX11_goesThrough_49 : decode cX11_goesThrough 49 = .ok (.getfield 210, 3) := by decide +kernel
theorem dX11_goesThrough_52 : decode cX11_goesThrough 52 = .ok (.ifCond .eq 8, 3) := by decide +kernel
theorem dX11_goesThrough_55 : decode cX11_goesThrough 55 = .ok (.aload_n 0, 1) := by decide +kernel
theorem dX11_goesThrough_56 : decode cX11_goesThrough 56 = .ok (.iconst 1, 1) := by decide +kernel
theorem dX11_goesThrough_57 : decode cX11_goesThrough 57 = .ok (.invokevirtual 242, 3) := by decide +kernel
theorem dX11_goesThrough_60 : decode cX11_goesThrough 60 = .ok (.return_, 1) := by decide +kernel
theorem dX11_script_0 : decode cX11_script 0 = .ok (.aload_n 0, 1) := by decide +kernel
theorem dX11_script_1 : decode cX11_script 1 = .ok (.iconst 0, 1) := by decide +kernel
theorem dX11_script_2 : decode cX11_script 2 = .ok (.putfield 39, 3) := by decide +kernel
theorem dX11_script_5 : decode cX11_script 5 = .ok (.aload_n 0, 1) := by decide +kernel
theorem dX11_script_6 : decode cX11_script 6 = .ok (.aload_n 0, 1) := by decide +kernel
theorem dX11_script_7 : decode cX11_script 7 = .ok (.getfield 188, 3) := by decide +kernel
theorem dX11_script_10 : decode cX11_script 10 = .ok (.putfield 195, 3) := by decide +kernel
theorem dX11_script_13 : decode cX11_script 13 = .ok (.aload_n 0, 1) := by decide +kernel
theorem dX11_script_14 : decode cX11_script 14 = .ok (.iconst 0, 1) := by decide +kernel
theorem dX11_script_15 : decode cX11_script 15 = .ok (.putfield 188, 3) := by decide +kernel
theorem dX11_script_18 : decode cX11_script 18 = .ok (.aload_n 0, 1) := by decide +kernel
theorem dX11_script_19 : decode cX11_script 19 = .ok (.getfield 195, 3) := by decide +kernel
theorem dX11_script_22 : decode cX11_script 22 = .ok (.sipush 240, 3) := by decide +kernel
theorem dX11_script_25 : decode cX11_script 25 = .ok (.if_icmp .le 5, 3) := by decide +kernel
theorem dX11_script_28 : decode cX11_script 28 = .ok (.iconst (-1), 1) := by decide +kernel
theorem dX11_script_29 : decode cX11_script 29 = .ok (.ireturn, 1) := by decide +kernel
theorem dX11_script_30 : decode cX11_script 30 = .ok (.aload_n 0, 1) := by decide +kernel
theorem dX11_script_31 : decode cX11_script 31 = .ok (.iconst 0, 1) := by decide +kernel
theorem dX11_script_32 : decode cX11_script 32 = .ok (.invokevirtual 337, 3) := by decide +kernel
theorem dX11_script_35 : decode cX11_script 35 = .ok (.aload_n 0, 1) := by decide +kernel
theorem dX11_script_36 : decode cX11_script 36 = .ok (.getfield 198, 3) := by decide +kernel
theorem dX11_script_39 : decode cX11_script 39 = .ok (.ifCond .le 11, 3) := by decide +kernel
theorem dX11_script_42 : decode cX11_script 42 = .ok (.bipush (-2), 2) := by decide +kernel
theorem dX11_script_44 : decode cX11_script 44 = .ok (.aload_n 0, 1) := by decide +kernel
theorem dX11_script_45 : decode cX11_script 45 = .ok (.getfield 198, 3) := by decide +kernel
theorem dX11_script_48 : decode cX11_script 48 = .ok (.isub, 1) := by decide +kernel
theorem dX11_script_49 : decode cX11_script 49 = .ok (.ireturn, 1) := by decide +kernel
theorem dX11_script_50 : decode cX11_script 50 = .ok (.aload_n 0, 1) := by decide +kernel
theorem dX11_script_51 : decode cX11_script 51 = .ok (.iconst 1, 1) := by decide +kernel
theorem dX11_script_52 : decode cX11_script 52 = .ok (.invokevirtual 337, 3) := by decide +kernel
theorem dX11_script_55 : decode cX11_script 55 = .ok (.aload_n 0, 1) := by decide +kernel
theorem dX11_script_56 : decode cX11_script 56 = .ok (.iconst 0, 1) := by decide +kernel
theorem dX11_script_57 : decode cX11_script 57 = .ok (.putfield 39, 3) := by decide +kernel
theorem dX11_script_60 : decode cX11_script 60 = .ok (.aload_n 0, 1) := by decide +kernel
theorem dX11_script_61 : decode cX11_script 61 = .ok (.getfield 321, 3) := by decide +kernel
theorem dX11_script_64 : decode cX11_script 64 = .ok (.ireturn, 1) := by decide +kernel
theorem dX11_laid_0 : decode cX11_laid 0 = .ok (.aload_n 0, 1) := by decide +kernel
theorem dX11_laid_1 : decode cX11_laid 1 = .ok (.iconst 0, 1) := by decide +kernel
theorem dX11_laid_2 : decode cX11_laid 2 = .ok (.putfield 39, 3) := by decide +kernel
theorem dX11_laid_5 : decode cX11_laid 5 = .ok (.iload_n 1, 1) := by decide +kernel
theorem dX11_laid_6 : decode cX11_laid 6 = .ok (.iconst 0, 1) := by decide +kernel
theorem dX11_laid_7 : decode cX11_laid 7 = .ok (.aload_n 0, 1) := by decide +kernel
theorem dX11_laid_8 : decode cX11_laid 8 = .ok (.invokevirtual 147, 3) := by decide +kernel
theorem dX11_laid_11 : decode cX11_laid 11 = .ok (.iconst 1, 1) := by decide +kernel
theorem dX11_laid_12 : decode cX11_laid 12 = .ok (.isub, 1) := by decide +kernel
theorem dX11_laid_13 : decode cX11_laid 13 = .ok (.invokestatic 114, 3) := by decide +kernel
theorem dX11_laid_16 : decode cX11_laid 16 = .ok (.ifCond .eq 16, 3) := by decide +kernel
theorem dX11_laid_19 : decode cX11_laid 19 = .ok (.aload_n 0, 1) := by decide +kernel
theorem dX11_laid_20 : decode cX11_laid 20 = .ok (.getfield 7, 3) := by decide +kernel
theorem dX11_laid_23 : decode cX11_laid 23 = .ok (.sipush 708, 3) := by decide +kernel
theorem dX11_laid_26 : decode cX11_laid 26 = .ok (.iload_n 1, 1) := by decide +kernel
theorem dX11_laid_27 : decode cX11_laid 27 = .ok (.iadd, 1) := by decide +kernel
theorem dX11_laid_28 : decode cX11_laid 28 = .ok (.iaload, 1) := by decide +kernel
theorem dX11_laid_29 : decode cX11_laid 29 = .ok (.goto 4, 3) := by decide +kernel
theorem dX11_laid_32 : decode cX11_laid 32 = .ok (.iconst (-1), 1) := by decide +kernel
theorem dX11_laid_33 : decode cX11_laid 33 = .ok (.ireturn, 1) := by decide +kernel
theorem dX11_of_0 : decode cX11_of 0 = .ok (.aload_n 0, 1) := by decide +kernel
theorem dX11_of_1 : decode cX11_of 1 = .ok (.iconst 0, 1) := by decide +kernel
theorem dX11_of_2 : decode cX11_of 2 = .ok (.putfield 39, 3) := by decide +kernel
theorem dX11_of_5 : decode cX11_of 5 = .ok (.aload_n 0, 1) := by decide +kernel
theorem dX11_of_6 : decode cX11_of 6 = .ok (.iload_n 1, 1) := by decide +kernel
theorem dX11_of_7 : decode cX11_of 7 = .ok (.invokevirtual 138, 3) := by decide +kernel
theorem dX11_of_10 : decode cX11_of 10 = .ok (.ifCond .ne 5, 3) := by decide +kernel
theorem dX11_of_13 : decode cX11_of 13 = .ok (.iconst (-1), 1) := by decide +kernel
theorem dX11_of_14 : decode cX11_of 14 = .ok (.ireturn, 1) := by decide +kernel
theorem dX11_of_15 : decode cX11_of 15 = .ok (.aload_n 0, 1) := by decide +kernel
theorem dX11_of_16 : decode cX11_of 16 = .ok (.iload_n 1, 1) := by decide +kernel
theorem dX11_of_17 : decode cX11_of 17 = .ok (.invokevirtual 135, 3) := by decide +kernel
theorem dX11_of_20 : decode cX11_of 20 = .ok (.istore_n 3, 1) := by decide +kernel
theorem dX11_of_21 : decode cX11_of 21 = .ok (.iload_n 2, 1) := by decide +kernel
theorem dX11_of_22 : decode cX11_of 22 = .ok (.tableswitch 91 0 4 #[34, 48, 54, 60, 74], 34) := by decide +kernel
theorem dX11_of_56 : decode cX11_of 56 = .ok (.aload_n 0, 1) := by decide +kernel
theorem dX11_of_57 : decode cX11_of 57 = .ok (.iload_n 1, 1) := by decide +kernel
theorem dX11_of_58 : decode cX11_of 58 = .ok (.invokevirtual 126, 3) := by decide +kernel
theorem dX11_of_61 : decode cX11_of 61 = .ok (.ifCond .eq 7, 3) := by decide +kernel
theorem dX11_of_64 : decode cX11_of 64 = .ok (.iconst 1, 1) := by decide +kernel
theorem dX11_of_65 : decode cX11_of 65 = .ok (.goto 4, 3) := by decide +kernel
theorem dX11_of_68 : decode cX11_of 68 = .ok (.iconst 0, 1) := by decide +kernel
theorem dX11_of_69 : decode cX11_of 69 = .ok (.ireturn, 1) := by decide +kernel
theorem dX11_of_70 : decode cX11_of 70 = .ok (.iload_n 3, 1) := by decide +kernel
theorem dX11_of_71 : decode cX11_of 71 = .ok (.iload_n 1, 1) := by decide +kernel
theorem dX11_of_72 : decode cX11_of 72 = .ok (.invokestatic 91, 3) := by decide +kernel
theorem dX11_of_75 : decode cX11_of 75 = .ok (.ireturn, 1) := by decide +kernel
theorem dX11_of_76 : decode cX11_of 76 = .ok (.iload_n 3, 1) := by decide +kernel
theorem dX11_of_77 : decode cX11_of 77 = .ok (.iload_n 1, 1) := by decide +kernel
theorem dX11_of_78 : decode cX11_of 78 = .ok (.invokestatic 94, 3) := by decide +kernel
theorem dX11_of_81 : decode cX11_of 81 = .ok (.ireturn, 1) := by decide +kernel
theorem dX11_of_82 : decode cX11_of 82 = .ok (.aload_n 0, 1) := by decide +kernel
theorem dX11_of_83 : decode cX11_of 83 = .ok (.iload_n 1, 1) := by decide +kernel
theorem dX11_of_84 : decode cX11_of 84 = .ok (.invokevirtual 129, 3) := by decide +kernel
theorem dX11_of_87 : decode cX11_of 87 = .ok (.ifCond .eq 7, 3) := by decide +kernel
theorem dX11_of_90 : decode cX11_of 90 = .ok (.iconst 1, 1) := by decide +kernel
theorem dX11_of_91 : decode cX11_of 91 = .ok (.goto 4, 3) := by decide +kernel
theorem dX11_of_94 : decode cX11_of 94 = .ok (.iconst 0, 1) := by decide +kernel
theorem dX11_of_95 : decode cX11_of 95 = .ok (.ireturn, 1) := by decide +kernel
theorem dX11_of_96 : decode cX11_of 96 = .ok (.aload_n 0, 1) := by decide +kernel
theorem dX11_of_97 : decode cX11_of 97 = .ok (.iload_n 1, 1) := by decide +kernel
theorem dX11_of_98 : decode cX11_of 98 = .ok (.invokevirtual 141, 3) := by decide +kernel
theorem dX11_of_101 : decode cX11_of 101 = .ok (.ifCond .eq 10, 3) := by decide +kernel
theorem dX11_of_104 : decode cX11_of 104 = .ok (.aload_n 0, 1) := by decide +kernel
theorem dX11_of_105 : decode cX11_of 105 = .ok (.getfield 56, 3) := by decide +kernel
theorem dX11_of_108 : decode cX11_of 108 = .ok (.goto 4, 3) := by decide +kernel
theorem dX11_of_111 : decode cX11_of 111 = .ok (.iconst 0, 1) := by decide +kernel
theorem dX11_of_112 : decode cX11_of 112 = .ok (.ireturn, 1) := by decide +kernel
theorem dX11_of_113 : decode cX11_of 113 = .ok (.iconst (-1), 1) := by decide +kernel
theorem dX11_of_114 : decode cX11_of 114 = .ok (.ireturn, 1) := by decide +kernel
theorem dX11_word_0 : decode cX11_word 0 = .ok (.aload_n 0, 1) := by decide +kernel
theorem dX11_word_1 : decode cX11_word 1 = .ok (.aload_n 0, 1) := by decide +kernel
theorem dX11_word_2 : decode cX11_word 2 = .ok (.iload_n 1, 1) := by decide +kernel
theorem dX11_word_3 : decode cX11_word 3 = .ok (.iload_n 2, 1) := by decide +kernel
theorem dX11_word_4 : decode cX11_word 4 = .ok (.invokevirtual 150, 3) := by decide +kernel
theorem dX11_word_7 : decode cX11_word 7 = .ok (.ifCond .eq 7, 3) := by decide +kernel
theorem dX11_word_10 : decode cX11_word 10 = .ok (.iconst 0, 1) := by decide +kernel
theorem dX11_word_11 : decode cX11_word 11 = .ok (.goto 4, 3) := by decide +kernel
theorem dX11_word_14 : decode cX11_word 14 = .ok (.iconst 1, 1) := by decide +kernel
theorem dX11_word_15 : decode cX11_word 15 = .ok (.putfield 39, 3) := by decide +kernel
theorem dX11_word_18 : decode cX11_word 18 = .ok (.aload_n 0, 1) := by decide +kernel
theorem dX11_word_19 : decode cX11_word 19 = .ok (.getfield 39, 3) := by decide +kernel
theorem dX11_word_22 : decode cX11_word 22 = .ok (.ifCond .ne 18, 3) := by decide +kernel
theorem dX11_word_25 : decode cX11_word 25 = .ok (.aload_n 0, 1) := by decide +kernel
theorem dX11_word_26 : decode cX11_word 26 = .ok (.getfield 7, 3) := by decide +kernel
theorem dX11_word_29 : decode cX11_word 29 = .ok (.iconst 0, 1) := by decide +kernel
theorem dX11_word_30 : decode cX11_word 30 = .ok (.iload_n 1, 1) := by decide +kernel
theorem dX11_word_31 : decode cX11_word 31 = .ok (.iload_n 2, 1) := by decide +kernel
theorem dX11_word_32 : decode cX11_word 32 = .ok (.invokestatic 50, 3) := by decide +kernel
theorem dX11_word_35 : decode cX11_word 35 = .ok (.iadd, 1) := by decide +kernel
theorem dX11_word_36 : decode cX11_word 36 = .ok (.iaload, 1) := by decide +kernel
theorem dX11_word_37 : decode cX11_word 37 = .ok (.goto 4, 3) := by decide +kernel
theorem dX11_word_40 : decode cX11_word 40 = .ok (.iconst 0, 1) := by decide +kernel
theorem dX11_word_41 : decode cX11_word 41 = .ok (.ireturn, 1) := by decide +kernel
theorem dX11_badAt_0 : decode cX11_badAt 0 = .ok (.aload_n 0, 1) := by decide +kernel
theorem dX11_badAt_1 : decode cX11_badAt 1 = .ok (.iconst 0, 1) := by decide +kernel
theorem dX11_badAt_2 : decode cX11_badAt 2 = .ok (.putfield 39, 3) := by decide +kernel
theorem dX11_badAt_5 : decode cX11_badAt 5 = .ok (.iconst 0, 1) := by decide +kernel
theorem dX11_badAt_6 : decode cX11_badAt 6 = .ok (.istore_n 2, 1) := by decide +kernel
theorem dX11_badAt_7 : decode cX11_badAt 7 = .ok (.iconst 0, 1) := by decide +kernel
theorem dX11_badAt_8 : decode cX11_badAt 8 = .ok (.istore_n 3, 1) := by decide +kernel
theorem dX11_badAt_9 : decode cX11_badAt 9 = .ok (.iload_n 3, 1) := by decide +kernel
theorem dX11_badAt_10 : decode cX11_badAt 10 = .ok (.aload_n 0, 1) := by decide +kernel
theorem dX11_badAt_11 : decode cX11_badAt 11 = .ok (.getfield 7, 3) := by decide +kernel
theorem dX11_badAt_14 : decode cX11_badAt 14 = .ok (.sipush 716, 3) := by decide +kernel
theorem dX11_badAt_17 : decode cX11_badAt 17 = .ok (.iaload, 1) := by decide +kernel
theorem dX11_badAt_18 : decode cX11_badAt 18 = .ok (.if_icmp .ge 64, 3) := by decide +kernel
theorem dX11_badAt_21 : decode cX11_badAt 21 = .ok (.iconst 0, 1) := by decide +kernel
theorem dX11_badAt_22 : decode cX11_badAt 22 = .ok (.istore 4, 2) := by decide +kernel
theorem dX11_badAt_24 : decode cX11_badAt 24 = .ok (.iload 4, 2) := by decide +kernel
theorem dX11_badAt_26 : decode cX11_badAt 26 = .ok (.aload_n 0, 1) := by decide +kernel
theorem dX11_badAt_27 : decode cX11_badAt 27 = .ok (.invokevirtual 147, 3) := by decide +kernel
theorem dX11_badAt_30 : decode cX11_badAt 30 = .ok (.if_icmp .ge 46, 3) := by decide +kernel
theorem dX11_badAt_33 : decode cX11_badAt 33 = .ok (.aload_n 0, 1) := by decide +kernel
theorem dX11_badAt_34 : decode cX11_badAt 34 = .ok (.getfield 7, 3) := by decide +kernel
theorem dX11_badAt_37 : decode cX11_badAt 37 = .ok (.sipush 280, 3) := by decide +kernel
theorem dX11_badAt_40 : decode cX11_badAt 40 = .ok (.iload 4, 2) := by decide +kernel
theorem dX11_badAt_42 : decode cX11_badAt 42 = .ok (.iload_n 3, 1) := by decide +kernel
theorem dX11_badAt_43 : decode cX11_badAt 43 = .ok (.invokestatic 50, 3) := by decide +kernel
theorem dX11_badAt_46 : decode cX11_badAt 46 = .ok (.iadd, 1) := by decide +kernel
theorem dX11_badAt_47 : decode cX11_badAt 47 = .ok (.iaload, 1) := by decide +kernel
theorem dX11_badAt_48 : decode cX11_badAt 48 = .ok (.ifCond .ne 6, 3) := by decide +kernel
theorem dX11_badAt_51 : decode cX11_badAt 51 = .ok (.goto 19, 3) := by decide +kernel
theorem dX11_badAt_54 : decode cX11_badAt 54 = .ok (.iload_n 2, 1) := by decide +kernel
theorem dX11_badAt_55 : decode cX11_badAt 55 = .ok (.iload_n 1, 1) := by decide +kernel
theorem dX11_badAt_56 : decode cX11_badAt 56 = .ok (.if_icmp .ne 11, 3) := by decide +kernel
theorem dX11_badAt_59 : decode cX11_badAt 59 = .ok (.bipush 100, 2) := by decide +kernel
theorem dX11_badAt_61 : decode cX11_badAt 61 = .ok (.iload_n 3, 1) := by decide +kernel
theorem dX11_badAt_62 : decode cX11_badAt 62 = .ok (.imul, 1) := by decide +kernel
theorem dX11_badAt_63 : decode cX11_badAt 63 = .ok (.iload 4, 2) := by decide +kernel
theorem dX11_badAt_65 : decode cX11_badAt 65 = .ok (.iadd, 1) := by decide +kernel
theorem dX11_badAt_66 : decode cX11_badAt 66 = .ok (.ireturn, 1) := by decide +kernel
theorem dX11_badAt_67 : decode cX11_badAt 67 = .ok (.iinc 2 1, 3) := by decide +kernel
theorem dX11_badAt_70 : decode cX11_badAt 70 = .ok (.iinc 4 1, 3) := by decide +kernel
theorem dX11_badAt_73 : decode cX11_badAt 73 = .ok (.goto (-49), 3) := by decide +kernel
theorem dX11_badAt_76 : decode cX11_badAt 76 = .ok (.iinc 3 1, 3) := by decide +kernel
theorem dX11_badAt_79 : decode cX11_badAt 79 = .ok (.goto (-70), 3) := by decide +kernel
theorem dX11_badAt_82 : decode cX11_badAt 82 = .ok (.iload_n 1, 1) := by decide +kernel
theorem dX11_badAt_83 : decode cX11_badAt 83 = .ok (.iconst (-1), 1) := by decide +kernel
theorem dX11_badAt_84 : decode cX11_badAt 84 = .ok (.if_icmp .ne 7, 3) := by decide +kernel
theorem dX11_badAt_87 : decode cX11_badAt 87 = .ok (.iload_n 2, 1) := by decide +kernel
theorem dX11_badAt_88 : decode cX11_badAt 88 = .ok (.goto 4, 3) := by decide +kernel
theorem dX11_badAt_91 : decode cX11_badAt 91 = .ok (.iconst (-1), 1) := by decide +kernel
theorem dX11_badAt_92 : decode cX11_badAt 92 = .ok (.ireturn, 1) := by decide +kernel
theorem dX11_stepsLeft_0 : decode cX11_stepsLeft 0 = .ok (.aload_n 0, 1) := by decide +kernel
theorem dX11_stepsLeft_1 : decode cX11_stepsLeft 1 = .ok (.getfield 7, 3) := by decide +kernel
theorem dX11_stepsLeft_4 : decode cX11_stepsLeft 4 = .ok (.sipush 719, 3) := by decide +kernel
theorem dX11_stepsLeft_7 : decode cX11_stepsLeft 7 = .ok (.iaload, 1) := by decide +kernel
theorem dX11_stepsLeft_8 : decode cX11_stepsLeft 8 = .ok (.ineg, 1) := by decide +kernel
theorem dX11_stepsLeft_9 : decode cX11_stepsLeft 9 = .ok (.istore_n 1, 1) := by decide +kernel
theorem dX11_stepsLeft_10 : decode cX11_stepsLeft 10 = .ok (.aload_n 0, 1) := by decide +kernel
theorem dX11_stepsLeft_11 : decode cX11_stepsLeft 11 = .ok (.getfield 7, 3) := by decide +kernel
theorem dX11_stepsLeft_14 : decode cX11_stepsLeft 14 = .ok (.sipush 718, 3) := by decide +kernel
theorem dX11_stepsLeft_17 : decode cX11_stepsLeft 17 = .ok (.iaload, 1) := by decide +kernel
theorem dX11_stepsLeft_18 : decode cX11_stepsLeft 18 = .ok (.istore_n 2, 1) := by decide +kernel
theorem dX11_stepsLeft_19 : decode cX11_stepsLeft 19 = .ok (.iload_n 2, 1) := by decide +kernel
theorem dX11_stepsLeft_20 : decode cX11_stepsLeft 20 = .ok (.aload_n 0, 1) := by decide +kernel
theorem dX11_stepsLeft_21 : decode cX11_stepsLeft 21 = .ok (.invokevirtual 67, 3) := by decide +kernel
theorem dX11_stepsLeft_24 : decode cX11_stepsLeft 24 = .ok (.if_icmp .ge 22, 3) := by decide +kernel
theorem dX11_stepsLeft_27 : decode cX11_stepsLeft 27 = .ok (.iload_n 1, 1) := by decide +kernel
theorem dX11_stepsLeft_28 : decode cX11_stepsLeft 28 = .ok (.aload_n 0, 1) := by decide +kernel
theorem dX11_stepsLeft_29 : decode cX11_stepsLeft 29 = .ok (.iload_n 2, 1) := by decide +kernel
theorem dX11_stepsLeft_30 : decode cX11_stepsLeft 30 = .ok (.invokevirtual 104, 3) := by decide +kernel
theorem dX11_stepsLeft_33 : decode cX11_stepsLeft 33 = .ok (.iadd, 1) := by decide +kernel
theorem dX11_stepsLeft_34 : decode cX11_stepsLeft 34 = .ok (.istore_n 1, 1) := by decide +kernel
theorem dX11_stepsLeft_35 : decode cX11_stepsLeft 35 = .ok (.iload_n 2, 1) := by decide +kernel
theorem dX11_stepsLeft_36 : decode cX11_stepsLeft 36 = .ok (.aload_n 0, 1) := by decide +kernel
theorem dX11_stepsLeft_37 : decode cX11_stepsLeft 37 = .ok (.iload_n 2, 1) := by decide +kernel
theorem dX11_stepsLeft_38 : decode cX11_stepsLeft 38 = .ok (.invokevirtual 70, 3) := by decide +kernel
theorem dX11_stepsLeft_41 : decode cX11_stepsLeft 41 = .ok (.iadd, 1) := by decide +kernel
theorem dX11_stepsLeft_42 : decode cX11_stepsLeft 42 = .ok (.istore_n 2, 1) := by decide +kernel
theorem dX11_stepsLeft_43 : decode cX11_stepsLeft 43 = .ok (.goto (-24), 3) := by decide +kernel
theorem dX11_stepsLeft_46 : decode cX11_stepsLeft 46 = .ok (.iload_n 1, 1) := by decide +kernel
theorem dX11_stepsLeft_47 : decode cX11_stepsLeft 47 = .ok (.ireturn, 1) := by decide +kernel
theorem dX11_critical_0 : decode cX11_critical 0 = .ok (.iconst 0, 1) := by decide +kernel
theorem dX11_critical_1 : decode cX11_critical 1 = .ok (.istore_n 2, 1) := by decide +kernel
theorem dX11_critical_2 : decode cX11_critical 2 = .ok (.iconst 0, 1) := by decide +kernel
theorem dX11_critical_3 : decode cX11_critical 3 = .ok (.istore_n 3, 1) := by decide +kernel
theorem dX11_critical_4 : decode cX11_critical 4 = .ok (.aload_n 0, 1) := by decide +kernel
theorem dX11_critical_5 : decode cX11_critical 5 = .ok (.getfield 7, 3) := by decide +kernel
theorem dX11_critical_8 : decode cX11_critical 8 = .ok (.sipush 718, 3) := by decide +kernel
theorem dX11_critical_11 : decode cX11_critical 11 = .ok (.iaload, 1) := by decide +kernel
theorem dX11_critical_12 : decode cX11_critical 12 = .ok (.istore 4, 2) := by decide +kernel
theorem dX11_critical_14 : decode cX11_critical 14 = .ok (.iload 4, 2) := by decide +kernel
theorem dX11_critical_16 : decode cX11_critical 16 = .ok (.aload_n 0, 1) := by decide +kernel
theorem dX11_critical_17 : decode cX11_critical 17 = .ok (.invokevirtual 67, 3) := by decide +kernel
theorem dX11_critical_20 : decode cX11_critical 20 = .ok (.if_icmp .ge 49, 3) := by decide +kernel
theorem dX11_critical_23 : decode cX11_critical 23 = .ok (.aload_n 0, 1) := by decide +kernel
theorem dX11_critical_24 : decode cX11_critical 24 = .ok (.iload 4, 2) := by decide +kernel
theorem dX11_critical_26 : decode cX11_critical 26 = .ok (.invokevirtual 74, 3) := by decide +kernel
theorem dX11_critical_29 : decode cX11_critical 29 = .ok (.ifCond .ne 6, 3) := by decide +kernel
theorem dX11_critical_32 : decode cX11_critical 32 = .ok (.goto 23, 3) := by decide +kernel
theorem dX11_critical_35 : decode cX11_critical 35 = .ok (.iinc 2 1, 3) := by decide +kernel
theorem dX11_critical_38 : decode cX11_critical 38 = .ok (.aload_n 0, 1) := by decide +kernel
theorem dX11_critical_39 : decode cX11_critical 39 = .ok (.iload 4, 2) := by decide +kernel
theorem dX11_critical_41 : decode cX11_critical 41 = .ok (.invokevirtual 81, 3) := by decide +kernel
theorem dX11_critical_44 : decode cX11_critical 44 = .ok (.iload_n 3, 1) := by decide +kernel
theorem dX11_critical_45 : decode cX11_critical 45 = .ok (.if_icmp .le 10, 3) := by decide +kernel
theorem dX11_critical_48 : decode cX11_critical 48 = .ok (.aload_n 0, 1) := by decide +kernel
theorem dX11_critical_49 : decode cX11_critical 49 = .ok (.iload 4, 2) := by decide +kernel
theorem dX11_critical_51 : decode cX11_critical 51 = .ok (.invokevirtual 81, 3) := by decide +kernel
theorem dX11_critical_54 : decode cX11_critical 54 = .ok (.istore_n 3, 1) := by decide +kernel
theorem dX11_critical_55 : decode cX11_critical 55 = .ok (.iload 4, 2) := by decide +kernel
theorem dX11_critical_57 : decode cX11_critical 57 = .ok (.aload_n 0, 1) := by decide +kernel
theorem dX11_critical_58 : decode cX11_critical 58 = .ok (.iload 4, 2) := by decide +kernel
theorem dX11_critical_60 : decode cX11_critical 60 = .ok (.invokevirtual 70, 3) := by decide +kernel
theorem dX11_critical_63 : decode cX11_critical 63 = .ok (.iadd, 1) := by decide +kernel
theorem dX11_critical_64 : decode cX11_critical 64 = .ok (.istore 4, 2) := by decide +kernel
theorem dX11_critical_66 : decode cX11_critical 66 = .ok (.goto (-52), 3) := by decide +kernel
theorem dX11_critical_69 : decode cX11_critical 69 = .ok (.iload_n 1, 1) := by decide +kernel
theorem dX11_critical_70 : decode cX11_critical 70 = .ok (.ifCond .eq 7, 3) := by decide +kernel
theorem dX11_critical_73 : decode cX11_critical 73 = .ok (.iload_n 3, 1) := by decide +kernel
theorem dX11_critical_74 : decode cX11_critical 74 = .ok (.goto 4, 3) := by decide +kernel
theorem dX11_critical_77 : decode cX11_critical 77 = .ok (.iload_n 2, 1) := by decide +kernel
theorem dX11_critical_78 : decode cX11_critical 78 = .ok (.ireturn, 1) := by decide +kernel
theorem dX11_isStuck_0 : decode cX11_isStuck 0 = .ok (.aload_n 0, 1) := by decide +kernel
theorem dX11_isStuck_1 : decode cX11_isStuck 1 = .ok (.getfield 7, 3) := by decide +kernel
theorem dX11_isStuck_4 : decode cX11_isStuck 4 = .ok (.sipush 719, 3) := by decide +kernel
theorem dX11_isStuck_7 : decode cX11_isStuck 7 = .ok (.iaload, 1) := by decide +kernel
theorem dX11_isStuck_8 : decode cX11_isStuck 8 = .ok (.aload_n 0, 1) := by decide +kernel
theorem dX11_isStuck_9 : decode cX11_isStuck 9 = .ok (.aload_n 0, 1) := by decide +kernel
theorem dX11_isStuck_10 : decode cX11_isStuck 10 = .ok (.getfield 7, 3) := by decide +kernel
theorem dX11_isStuck_13 : decode cX11_isStuck 13 = .ok (.sipush 718, 3) := by decide +kernel
theorem dX11_isStuck_16 : decode cX11_isStuck 16 = .ok (.iaload, 1) := by decide +kernel
theorem dX11_isStuck_17 : decode cX11_isStuck 17 = .ok (.invokevirtual 78, 3) := by decide +kernel
theorem dX11_isStuck_20 : decode cX11_isStuck 20 = .ok (.if_icmp .lt 5, 3) := by decide +kernel
theorem dX11_isStuck_23 : decode cX11_isStuck 23 = .ok (.iconst 0, 1) := by decide +kernel
theorem dX11_isStuck_24 : decode cX11_isStuck 24 = .ok (.ireturn, 1) := by decide +kernel
theorem dX11_isStuck_25 : decode cX11_isStuck 25 = .ok (.aload_n 0, 1) := by decide +kernel
theorem dX11_isStuck_26 : decode cX11_isStuck 26 = .ok (.getfield 7, 3) := by decide +kernel
theorem dX11_isStuck_29 : decode cX11_isStuck 29 = .ok (.sipush 718, 3) := by decide +kernel
theorem dX11_isStuck_32 : decode cX11_isStuck 32 = .ok (.iaload, 1) := by decide +kernel
theorem dX11_isStuck_33 : decode cX11_isStuck 33 = .ok (.aload_n 0, 1) := by decide +kernel
theorem dX11_isStuck_34 : decode cX11_isStuck 34 = .ok (.getfield 7, 3) := by decide +kernel
theorem dX11_isStuck_37 : decode cX11_isStuck 37 = .ok (.sipush 715, 3) := by decide +kernel
theorem dX11_isStuck_40 : decode cX11_isStuck 40 = .ok (.iaload, 1) := by decide +kernel
theorem dX11_isStuck_41 : decode cX11_isStuck 41 = .ok (.imul, 1) := by decide +kernel
theorem dX11_isStuck_42 : decode cX11_isStuck 42 = .ok (.aload_n 0, 1) := by decide +kernel
theorem dX11_isStuck_43 : decode cX11_isStuck 43 = .ok (.getfield 7, 3) := by decide +kernel
theorem dX11_isStuck_46 : decode cX11_isStuck 46 = .ok (.sipush 719, 3) := by decide +kernel
theorem dX11_isStuck_49 : decode cX11_isStuck 49 = .ok (.iaload, 1) := by decide +kernel
theorem dX11_isStuck_50 : decode cX11_isStuck 50 = .ok (.iadd, 1) := by decide +kernel
theorem dX11_isStuck_51 : decode cX11_isStuck 51 = .ok (.istore_n 1, 1) := by decide +kernel
theorem dX11_isStuck_52 : decode cX11_isStuck 52 = .ok (.aload_n 0, 1) := by decide +kernel
theorem dX11_isStuck_53 : decode cX11_isStuck 53 = .ok (.aload_n 0, 1) := by decide +kernel
theorem dX11_isStuck_54 : decode cX11_isStuck 54 = .ok (.getfield 7, 3) := by decide +kernel
theorem dX11_isStuck_57 : decode cX11_isStuck 57 = .ok (.sipush 715, 3) := by decide +kernel
theorem dX11_isStuck_60 : decode cX11_isStuck 60 = .ok (.iaload, 1) := by decide +kernel
theorem dX11_isStuck_61 : decode cX11_isStuck 61 = .ok (.aload_n 0, 1) := by decide +kernel
theorem dX11_isStuck_62 : decode cX11_isStuck 62 = .ok (.getfield 7, 3) := by decide +kernel
theorem dX11_isStuck_65 : decode cX11_isStuck 65 = .ok (.sipush 715, 3) := by decide +kernel
theorem dX11_isStuck_68 : decode cX11_isStuck 68 = .ok (.iaload, 1) := by decide +kernel
theorem dX11_isStuck_69 : decode cX11_isStuck 69 = .ok (.iload_n 1, 1) := by decide +kernel
theorem dX11_isStuck_70 : decode cX11_isStuck 70 = .ok (.invokestatic 91, 3) := by decide +kernel
theorem dX11_isStuck_73 : decode cX11_isStuck 73 = .ok (.aload_n 0, 1) := by decide +kernel
theorem dX11_isStuck_74 : decode cX11_isStuck 74 = .ok (.getfield 7, 3) := by decide +kernel
theorem dX11_isStuck_77 : decode cX11_isStuck 77 = .ok (.sipush 715, 3) := by decide +kernel
theorem dX11_isStuck_80 : decode cX11_isStuck 80 = .ok (.iaload, 1) := by decide +kernel
theorem dX11_isStuck_81 : decode cX11_isStuck 81 = .ok (.iload_n 1, 1) := by decide +kernel
theorem dX11_isStuck_82 : decode cX11_isStuck 82 = .ok (.invokestatic 94, 3) := by decide +kernel
theorem dX11_isStuck_85 : decode cX11_isStuck 85 = .ok (.invokevirtual 97, 3) := by decide +kernel
theorem dX11_isStuck_88 : decode cX11_isStuck 88 = .ok (.ifCond .ne 7, 3) := by decide +kernel
theorem dX11_isStuck_91 : decode cX11_isStuck 91 = .ok (.iconst 1, 1) := by decide +kernel
theorem dX11_isStuck_92 : decode cX11_isStuck 92 = .ok (.goto 4, 3) := by decide +kernel
theorem dX11_isStuck_95 : decode cX11_isStuck 95 = .ok (.iconst 0, 1) := by decide +kernel
theorem dX11_isStuck_96 : decode cX11_isStuck 96 = .ok (.ireturn, 1) := by decide +kernel
theorem dX11_batch_0 : decode cX11_batch 0 = .ok (.aload_n 0, 1) := by decide +kernel
theorem dX11_batch_1 : decode cX11_batch 1 = .ok (.iconst 0, 1) := by decide +kernel
theorem dX11_batch_2 : decode cX11_batch 2 = .ok (.putfield 39, 3) := by decide +kernel
theorem dX11_batch_5 : decode cX11_batch 5 = .ok (.aload_n 0, 1) := by decide +kernel
theorem dX11_batch_6 : decode cX11_batch 6 = .ok (.invokevirtual 84, 3) := by decide +kernel
theorem dX11_batch_9 : decode cX11_batch 9 = .ok (.ifCond .ne 5, 3) := by decide +kernel
theorem dX11_batch_12 : decode cX11_batch 12 = .ok (.iconst (-1), 1) := by decide +kernel
theorem dX11_batch_13 : decode cX11_batch 13 = .ok (.ireturn, 1) := by decide +kernel
theorem dX11_batch_14 : decode cX11_batch 14 = .ok (.iload_n 1, 1) := by decide +kernel
theorem dX11_batch_15 : decode cX11_batch 15 = .ok (.tableswitch 127 0 7 #[45, 58, 67, 88, 93, 99, 105, 118], 45) := by decide +kernel
theorem dX11_batch_60 : decode cX11_batch 60 = .ok (.aload_n 0, 1) := by decide +kernel
theorem dX11_batch_61 : decode cX11_batch 61 = .ok (.aload_n 0, 1) := by decide +kernel
theorem dX11_batch_62 : decode cX11_batch 62 = .ok (.getfield 7, 3) := by decide +kernel
theorem dX11_batch_65 : decode cX11_batch 65 = .ok (.sipush 718, 3) := by decide +kernel
theorem dX11_batch_68 : decode cX11_batch 68 = .ok (.iaload, 1) := by decide +kernel
theorem dX11_batch_69 : decode cX11_batch 69 = .ok (.invokevirtual 104, 3) := by decide +kernel
theorem dX11_batch_72 : decode cX11_batch 72 = .ok (.ireturn, 1) := by decide +kernel
theorem dX11_batch_73 : decode cX11_batch 73 = .ok (.aload_n 0, 1) := by decide +kernel
theorem dX11_batch_74 : decode cX11_batch 74 = .ok (.getfield 7, 3) := by decide +kernel
theorem dX11_batch_77 : decode cX11_batch 77 = .ok (.sipush 719, 3) := by decide +kernel
theorem dX11_batch_80 : decode cX11_batch 80 = .ok (.iaload, 1) := by decide +kernel
theorem dX11_batch_81 : decode cX11_batch 81 = .ok (.ireturn, 1) := by decide +kernel
theorem dX11_batch_82 : decode cX11_batch 82 = .ok (.aload_n 0, 1) := by decide +kernel
theorem dX11_batch_83 : decode cX11_batch 83 = .ok (.aload_n 0, 1) := by decide +kernel
theorem dX11_batch_84 : decode cX11_batch 84 = .ok (.getfield 7, 3) := by decide +kernel
theorem dX11_batch_87 : decode cX11_batch 87 = .ok (.sipush 718, 3) := by decide +kernel
theorem dX11_batch_90 : decode cX11_batch 90 = .ok (.iaload, 1) := by decide +kernel
theorem dX11_batch_91 : decode cX11_batch 91 = .ok (.invokevirtual 74, 3) := by decide +kernel
theorem dX11_batch_94 : decode cX11_batch 94 = .ok (.ifCond .eq 7, 3) := by decide +kernel
theorem dX11_batch_97 : decode cX11_batch 97 = .ok (.iconst 1, 1) := by decide +kernel
theorem dX11_batch_98 : decode cX11_batch 98 = .ok (.goto 4, 3) := by decide +kernel
theorem dX11_batch_101 : decode cX11_batch 101 = .ok (.iconst 0, 1) := by decide +kernel
theorem dX11_batch_102 : decode cX11_batch 102 = .ok (.ireturn, 1) := by decide +kernel
theorem dX11_batch_103 : decode cX11_batch 103 = .ok (.aload_n 0, 1) := by decide +kernel
theorem dX11_batch_104 : decode cX11_batch 104 = .ok (.invokevirtual 341, 3) := by decide +kernel
theorem dX11_batch_107 : decode cX11_batch 107 = .ok (.ireturn, 1) := by decide +kernel
theorem dX11_batch_108 : decode cX11_batch 108 = .ok (.aload_n 0, 1) := by decide +kernel
theorem dX11_batch_109 : decode cX11_batch 109 = .ok (.iconst 0, 1) := by decide +kernel
theorem dX11_batch_110 : decode cX11_batch 110 = .ok (.invokevirtual 344, 3) := by decide +kernel
theorem dX11_batch_113 : decode cX11_batch 113 = .ok (.ireturn, 1) := by decide +kernel
theorem dX11_batch_114 : decode cX11_batch 114 = .ok (.aload_n 0, 1) := by decide +kernel
theorem dX11_batch_115 : decode cX11_batch 115 = .ok (.iconst 1, 1) := by decide +kernel
theorem dX11_batch_116 : decode cX11_batch 116 = .ok (.invokevirtual 344, 3) := by decide +kernel
theorem dX11_batch_119 : decode cX11_batch 119 = .ok (.ireturn, 1) := by decide +kernel
theorem dX11_batch_120 : decode cX11_batch 120 = .ok (.aload_n 0, 1) := by decide +kernel
theorem dX11_batch_121 : decode cX11_batch 121 = .ok (.invokevirtual 348, 3) := by decide +kernel
theorem dX11_batch_124 : decode cX11_batch 124 = .ok (.ifCond .eq 7, 3) := by decide +kernel
theorem dX11_batch_127 : decode cX11_batch 127 = .ok (.iconst 1, 1) := by decide +kernel
theorem dX11_batch_128 : decode cX11_batch 128 = .ok (.goto 4, 3) := by decide +kernel
theorem dX11_batch_131 : decode cX11_batch 131 = .ok (.iconst 0, 1) := by decide +kernel
theorem dX11_batch_132 : decode cX11_batch 132 = .ok (.ireturn, 1) := by decide +kernel
theorem dX11_batch_133 : decode cX11_batch 133 = .ok (.aload_n 0, 1) := by decide +kernel
theorem dX11_batch_134 : decode cX11_batch 134 = .ok (.getfield 7, 3) := by decide +kernel
theorem dX11_batch_137 : decode cX11_batch 137 = .ok (.sipush 720, 3) := by decide +kernel
theorem dX11_batch_140 : decode cX11_batch 140 = .ok (.iaload, 1) := by decide +kernel
theorem dX11_batch_141 : decode cX11_batch 141 = .ok (.ireturn, 1) := by decide +kernel
theorem dX11_batch_142 : decode cX11_batch 142 = .ok (.iconst (-1), 1) := by decide +kernel
theorem dX11_batch_143 : decode cX11_batch 143 = .ok (.ireturn, 1) := by decide +kernel
theorem dX11_unreadable_0 : decode cX11_unreadable 0 = .ok (.iconst 0, 1) := by decide +kernel
theorem dX11_unreadable_1 : decode cX11_unreadable 1 = .ok (.istore_n 1, 1) := by decide +kernel
theorem dX11_unreadable_2 : decode cX11_unreadable 2 = .ok (.iconst 0, 1) := by decide +kernel
theorem dX11_unreadable_3 : decode cX11_unreadable 3 = .ok (.istore_n 2, 1) := by decide +kernel
theorem dX11_unreadable_4 : decode cX11_unreadable 4 = .ok (.iload_n 2, 1) := by decide +kernel
theorem dX11_unreadable_5 : decode cX11_unreadable 5 = .ok (.aload_n 0, 1) := by decide +kernel
theorem dX11_unreadable_6 : decode cX11_unreadable 6 = .ok (.invokevirtual 63, 3) := by decide +kernel
theorem dX11_unreadable_9 : decode cX11_unreadable 9 = .ok (.if_icmp .ge 20, 3) := by decide +kernel
theorem dX11_unreadable_12 : decode cX11_unreadable 12 = .ok (.aload_n 0, 1) := by decide +kernel
theorem dX11_unreadable_13 : decode cX11_unreadable 13 = .ok (.iload_n 2, 1) := by decide +kernel
theorem dX11_unreadable_14 : decode cX11_unreadable 14 = .ok (.invokevirtual 141, 3) := by decide +kernel
theorem dX11_unreadable_17 : decode cX11_unreadable 17 = .ok (.ifCond .ne 6, 3) := by decide +kernel
theorem dX11_unreadable_20 : decode cX11_unreadable 20 = .ok (.iinc 1 1, 3) := by decide +kernel
theorem dX11_unreadable_23 : decode cX11_unreadable 23 = .ok (.iinc 2 1, 3) := by decide +kernel
theorem dX11_unreadable_26 : decode cX11_unreadable 26 = .ok (.goto (-22), 3) := by decide +kernel
theorem dX11_unreadable_29 : decode cX11_unreadable 29 = .ok (.iload_n 1, 1) := by decide +kernel
theorem dX11_unreadable_30 : decode cX11_unreadable 30 = .ok (.ireturn, 1) := by decide +kernel
theorem dX11_count_0 : decode cX11_count 0 = .ok (.aload_n 0, 1) := by decide +kernel
theorem dX11_count_1 : decode cX11_count 1 = .ok (.iconst 0, 1) := by decide +kernel
theorem dX11_count_2 : decode cX11_count 2 = .ok (.putfield 39, 3) := by decide +kernel
theorem dX11_count_5 : decode cX11_count 5 = .ok (.iload_n 1, 1) := by decide +kernel
theorem dX11_count_6 : decode cX11_count 6 = .ok (.tableswitch 223 0 16 #[82, 87, 96, 101, 110, 119, 128, 144, 153, 159, 168, 177, 186, 195, 204, 209, 218], 82) := by decide +kernel
theorem dX11_count_88 : decode cX11_count 88 = .ok (.aload_n 0, 1) := by decide +kernel
theorem dX11_count_89 : decode cX11_count 89 = .ok (.invokevirtual 147, 3) := by decide +kernel
theorem dX11_count_92 : decode cX11_count 92 = .ok (.ireturn, 1) := by decide +kernel
theorem dX11_count_93 : decode cX11_count 93 = .ok (.aload_n 0, 1) := by decide +kernel
theorem dX11_count_94 : decode cX11_count 94 = .ok (.getfield 7, 3) := by decide +kernel
theorem dX11_count_97 : decode cX11_count 97 = .ok (.sipush 716, 3) := by decide +kernel
theorem dX11_count_100 : decode cX11_count 100 = .ok (.iaload, 1) := by decide +kernel
theorem dX11_count_101 : decode cX11_count 101 = .ok (.ireturn, 1) := by decide +kernel
theorem dX11_count_102 : decode cX11_count 102 = .ok (.aload_n 0, 1) := by decide +kernel
theorem dX11_count_103 : decode cX11_count 103 = .ok (.invokevirtual 63, 3) := by decide +kernel
theorem dX11_count_106 : decode cX11_count 106 = .ok (.ireturn, 1) := by decide +kernel
theorem dX11_count_107 : decode cX11_count 107 = .ok (.aload_n 0, 1) := by decide +kernel
theorem dX11_count_108 : decode cX11_count 108 = .ok (.getfield 7, 3) := by decide +kernel
theorem dX11_count_111 : decode cX11_count 111 = .ok (.sipush 717, 3) := by decide +kernel
theorem dX11_count_114 : decode cX11_count 114 = .ok (.iaload, 1) := by decide +kernel
theorem dX11_count_115 : decode cX11_count 115 = .ok (.ireturn, 1) := by decide +kernel
theorem dX11_count_116 : decode cX11_count 116 = .ok (.aload_n 0, 1) := by decide +kernel
theorem dX11_count_117 : decode cX11_count 117 = .ok (.getfield 7, 3) := by decide +kernel
theorem dX11_count_120 : decode cX11_count 120 = .ok (.sipush 718, 3) := by decide +kernel
theorem dX11_count_123 : decode cX11_count 123 = .ok (.iaload, 1) := by decide +kernel
theorem dX11_count_124 : decode cX11_count 124 = .ok (.ireturn, 1) := by decide +kernel
theorem dX11_count_125 : decode cX11_count 125 = .ok (.aload_n 0, 1) := by decide +kernel
theorem dX11_count_126 : decode cX11_count 126 = .ok (.getfield 7, 3) := by decide +kernel
theorem dX11_count_129 : decode cX11_count 129 = .ok (.sipush 726, 3) := by decide +kernel
theorem dX11_count_132 : decode cX11_count 132 = .ok (.iaload, 1) := by decide +kernel
theorem dX11_count_133 : decode cX11_count 133 = .ok (.ireturn, 1) := by decide +kernel
theorem dX11_count_134 : decode cX11_count 134 = .ok (.aload_n 0, 1) := by decide +kernel
theorem dX11_count_135 : decode cX11_count 135 = .ok (.invokevirtual 84, 3) := by decide +kernel
theorem dX11_count_138 : decode cX11_count 138 = .ok (.ifCond .eq 10, 3) := by decide +kernel
theorem dX11_count_141 : decode cX11_count 141 = .ok (.aload_n 0, 1) := by decide +kernel
theorem dX11_count_142 : decode cX11_count 142 = .ok (.invokevirtual 67, 3) := by decide +kernel
theorem dX11_count_145 : decode cX11_count 145 = .ok (.goto 4, 3) := by decide +kernel
theorem dX11_count_148 : decode cX11_count 148 = .ok (.iconst (-1), 1) := by decide +kernel
theorem dX11_count_149 : decode cX11_count 149 = .ok (.ireturn, 1) := by decide +kernel
theorem dX11_count_150 : decode cX11_count 150 = .ok (.aload_n 0, 1) := by decide +kernel
theorem dX11_count_151 : decode cX11_count 151 = .ok (.getfield 7, 3) := by decide +kernel
theorem dX11_count_154 : decode cX11_count 154 = .ok (.sipush 721, 3) := by decide +kernel
theorem dX11_count_157 : decode cX11_count 157 = .ok (.iaload, 1) := by decide +kernel
theorem dX11_count_158 : decode cX11_count 158 = .ok (.ireturn, 1) := by decide +kernel
theorem dX11_count_159 : decode cX11_count 159 = .ok (.aload_n 0, 1) := by decide +kernel
theorem dX11_count_160 : decode cX11_count 160 = .ok (.iconst (-1), 1) := by decide +kernel
theorem dX11_count_161 : decode cX11_count 161 = .ok (.invokevirtual 351, 3) := by decide +kernel
theorem dX11_count_164 : decode cX11_count 164 = .ok (.ireturn, 1) := by decide +kernel
theorem dX11_count_165 : decode cX11_count 165 = .ok (.aload_n 0, 1) := by decide +kernel
theorem dX11_count_166 : decode cX11_count 166 = .ok (.getfield 7, 3) := by decide +kernel
theorem dX11_count_169 : decode cX11_count 169 = .ok (.sipush 727, 3) := by decide +kernel
theorem dX11_count_172 : decode cX11_count 172 = .ok (.iaload, 1) := by decide +kernel
theorem dX11_count_173 : decode cX11_count 173 = .ok (.ireturn, 1) := by decide +kernel
theorem dX11_count_174 : decode cX11_count 174 = .ok (.aload_n 0, 1) := by decide +kernel
theorem dX11_count_175 : decode cX11_count 175 = .ok (.getfield 7, 3) := by decide +kernel
theorem dX11_count_178 : decode cX11_count 178 = .ok (.sipush 728, 3) := by decide +kernel
theorem dX11_count_181 : decode cX11_count 181 = .ok (.iaload, 1) := by decide +kernel
theorem dX11_count_182 : decode cX11_count 182 = .ok (.ireturn, 1) := by decide +kernel
theorem dX11_count_183 : decode cX11_count 183 = .ok (.aload_n 0, 1) := by decide +kernel
theorem dX11_count_184 : decode cX11_count 184 = .ok (.getfield 7, 3) := by decide +kernel
theorem dX11_count_187 : decode cX11_count 187 = .ok (.sipush 722, 3) := by decide +kernel
theorem dX11_count_190 : decode cX11_count 190 = .ok (.iaload, 1) := by decide +kernel
theorem dX11_count_191 : decode cX11_count 191 = .ok (.ireturn, 1) := by decide +kernel
theorem dX11_count_192 : decode cX11_count 192 = .ok (.aload_n 0, 1) := by decide +kernel
theorem dX11_count_193 : decode cX11_count 193 = .ok (.getfield 7, 3) := by decide +kernel
theorem dX11_count_196 : decode cX11_count 196 = .ok (.sipush 723, 3) := by decide +kernel
theorem dX11_count_199 : decode cX11_count 199 = .ok (.iaload, 1) := by decide +kernel
theorem dX11_count_200 : decode cX11_count 200 = .ok (.ireturn, 1) := by decide +kernel
theorem dX11_count_201 : decode cX11_count 201 = .ok (.aload_n 0, 1) := by decide +kernel
theorem dX11_count_202 : decode cX11_count 202 = .ok (.getfield 7, 3) := by decide +kernel
theorem dX11_count_205 : decode cX11_count 205 = .ok (.sipush 724, 3) := by decide +kernel
theorem dX11_count_208 : decode cX11_count 208 = .ok (.iaload, 1) := by decide +kernel
theorem dX11_count_209 : decode cX11_count 209 = .ok (.ireturn, 1) := by decide +kernel
theorem dX11_count_210 : decode cX11_count 210 = .ok (.aload_n 0, 1) := by decide +kernel
theorem dX11_count_211 : decode cX11_count 211 = .ok (.invokevirtual 354, 3) := by decide +kernel
theorem dX11_count_214 : decode cX11_count 214 = .ok (.ireturn, 1) := by decide +kernel
theorem dX11_count_215 : decode cX11_count 215 = .ok (.aload_n 0, 1) := by decide +kernel
theorem dX11_count_216 : decode cX11_count 216 = .ok (.getfield 7, 3) := by decide +kernel
theorem dX11_count_219 : decode cX11_count 219 = .ok (.sipush 725, 3) := by decide +kernel
theorem dX11_count_222 : decode cX11_count 222 = .ok (.iaload, 1) := by decide +kernel
theorem dX11_count_223 : decode cX11_count 223 = .ok (.ireturn, 1) := by decide +kernel
theorem dX11_count_224 : decode cX11_count 224 = .ok (.aload_n 0, 1) := by decide +kernel
theorem dX11_count_225 : decode cX11_count 225 = .ok (.getfield 188, 3) := by decide +kernel
theorem dX11_count_228 : decode cX11_count 228 = .ok (.ireturn, 1) := by decide +kernel
theorem dX11_count_229 : decode cX11_count 229 = .ok (.iconst (-1), 1) := by decide +kernel
theorem dX11_count_230 : decode cX11_count 230 = .ok (.ireturn, 1) := by decide +kernel
