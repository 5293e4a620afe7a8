theorem dd_Mo_outside_0 : decode bm_Mo_outside 0 = .ok (.iload_n 0, 1) := by decide +kernel
theorem dd_Mo_outside_1 : decode bm_Mo_outside 1 = .ok (.iload_n 1, 1) := by decide +kernel
theorem dd_Mo_outside_2 : decode bm_Mo_outside 2 = .ok (.if_icmp .lt 8, 3) := by decide +kernel
theorem dd_Mo_outside_5 : decode bm_Mo_outside 5 = .ok (.iload_n 0, 1) := by decide +kernel
theorem dd_Mo_outside_6 : decode bm_Mo_outside 6 = .ok (.iload_n 2, 1) := by decide +kernel
theorem dd_Mo_outside_7 : decode bm_Mo_outside 7 = .ok (.if_icmp .le 7, 3) := by decide +kernel
theorem dd_Mo_outside_10 : decode bm_Mo_outside 10 = .ok (.iconst 1, 1) := by decide +kernel
theorem dd_Mo_outside_11 : decode bm_Mo_outside 11 = .ok (.goto 4, 3) := by decide +kernel
theorem dd_Mo_outside_14 : decode bm_Mo_outside 14 = .ok (.iconst 0, 1) := by decide +kernel
theorem dd_Mo_outside_15 : decode bm_Mo_outside 15 = .ok (.ireturn, 1) := by decide +kernel
theorem dd_Mo_mix_0 : decode bm_Mo_mix 0 = .ok (.iload_n 0, 1) := by decide +kernel
theorem dd_Mo_mix_1 : decode bm_Mo_mix 1 = .ok (.iload_n 1, 1) := by decide +kernel
theorem dd_Mo_mix_2 : decode bm_Mo_mix 2 = .ok (.ixor, 1) := by decide +kernel
theorem dd_Mo_mix_3 : decode bm_Mo_mix 3 = .ok (.ldc 90, 2) := by decide +kernel
theorem dd_Mo_mix_5 : decode bm_Mo_mix 5 = .ok (.imul, 1) := by decide +kernel
theorem dd_Mo_mix_6 : decode bm_Mo_mix 6 = .ok (.istore_n 2, 1) := by decide +kernel
theorem dd_Mo_mix_7 : decode bm_Mo_mix 7 = .ok (.iload_n 2, 1) := by decide +kernel
theorem dd_Mo_mix_8 : decode bm_Mo_mix 8 = .ok (.iload_n 2, 1) := by decide +kernel
theorem dd_Mo_mix_9 : decode bm_Mo_mix 9 = .ok (.bipush 15, 2) := by decide +kernel
theorem dd_Mo_mix_11 : decode bm_Mo_mix 11 = .ok (.iushr, 1) := by decide +kernel
theorem dd_Mo_mix_12 : decode bm_Mo_mix 12 = .ok (.ixor, 1) := by decide +kernel
theorem dd_Mo_mix_13 : decode bm_Mo_mix 13 = .ok (.ireturn, 1) := by decide +kernel
theorem dd_Mo_list_0 : decode bm_Mo_list 0 = .ok (.bipush 8, 2) := by decide +kernel
theorem dd_Mo_list_2 : decode bm_Mo_list 2 = .ok (.iload_n 1, 1) := by decide +kernel
theorem dd_Mo_list_3 : decode bm_Mo_list 3 = .ok (.imul, 1) := by decide +kernel
theorem dd_Mo_list_4 : decode bm_Mo_list 4 = .ok (.aload_n 0, 1) := by decide +kernel
theorem dd_Mo_list_5 : decode bm_Mo_list 5 = .ok (.getfield 7, 3) := by decide +kernel
theorem dd_Mo_list_8 : decode bm_Mo_list 8 = .ok (.iload_n 1, 1) := by decide +kernel
theorem dd_Mo_list_9 : decode bm_Mo_list 9 = .ok (.iaload, 1) := by decide +kernel
theorem dd_Mo_list_10 : decode bm_Mo_list 10 = .ok (.bipush 8, 2) := by decide +kernel
theorem dd_Mo_list_12 : decode bm_Mo_list 12 = .ok (.irem, 1) := by decide +kernel
theorem dd_Mo_list_13 : decode bm_Mo_list 13 = .ok (.iadd, 1) := by decide +kernel
theorem dd_Mo_list_14 : decode bm_Mo_list 14 = .ok (.istore 4, 2) := by decide +kernel
theorem dd_Mo_list_16 : decode bm_Mo_list 16 = .ok (.aload_n 0, 1) := by decide +kernel
theorem dd_Mo_list_17 : decode bm_Mo_list 17 = .ok (.getfield 23, 3) := by decide +kernel
theorem dd_Mo_list_20 : decode bm_Mo_list 20 = .ok (.sipush 128, 3) := by decide +kernel
theorem dd_Mo_list_23 : decode bm_Mo_list 23 = .ok (.iload 4, 2) := by decide +kernel
theorem dd_Mo_list_25 : decode bm_Mo_list 25 = .ok (.imul, 1) := by decide +kernel
theorem dd_Mo_list_26 : decode bm_Mo_list 26 = .ok (.aload_n 0, 1) := by decide +kernel
theorem dd_Mo_list_27 : decode bm_Mo_list 27 = .ok (.getfield 20, 3) := by decide +kernel
theorem dd_Mo_list_30 : decode bm_Mo_list 30 = .ok (.iload 4, 2) := by decide +kernel
theorem dd_Mo_list_32 : decode bm_Mo_list 32 = .ok (.iaload, 1) := by decide +kernel
theorem dd_Mo_list_33 : decode bm_Mo_list 33 = .ok (.iadd, 1) := by decide +kernel
theorem dd_Mo_list_34 : decode bm_Mo_list 34 = .ok (.iload_n 2, 1) := by decide +kernel
theorem dd_Mo_list_35 : decode bm_Mo_list 35 = .ok (.iastore, 1) := by decide +kernel
theorem dd_Mo_list_36 : decode bm_Mo_list 36 = .ok (.aload_n 0, 1) := by decide +kernel
theorem dd_Mo_list_37 : decode bm_Mo_list 37 = .ok (.getfield 26, 3) := by decide +kernel
theorem dd_Mo_list_40 : decode bm_Mo_list 40 = .ok (.sipush 128, 3) := by decide +kernel
theorem dd_Mo_list_43 : decode bm_Mo_list 43 = .ok (.iload 4, 2) := by decide +kernel
theorem dd_Mo_list_45 : decode bm_Mo_list 45 = .ok (.imul, 1) := by decide +kernel
theorem dd_Mo_list_46 : decode bm_Mo_list 46 = .ok (.aload_n 0, 1) := by decide +kernel
theorem dd_Mo_list_47 : decode bm_Mo_list 47 = .ok (.getfield 20, 3) := by decide +kernel
theorem dd_Mo_list_50 : decode bm_Mo_list 50 = .ok (.iload 4, 2) := by decide +kernel
theorem dd_Mo_list_52 : decode bm_Mo_list 52 = .ok (.iaload, 1) := by decide +kernel
theorem dd_Mo_list_53 : decode bm_Mo_list 53 = .ok (.iadd, 1) := by decide +kernel
theorem dd_Mo_list_54 : decode bm_Mo_list 54 = .ok (.iload_n 3, 1) := by decide +kernel
theorem dd_Mo_list_55 : decode bm_Mo_list 55 = .ok (.iastore, 1) := by decide +kernel
theorem dd_Mo_list_56 : decode bm_Mo_list 56 = .ok (.aload_n 0, 1) := by decide +kernel
theorem dd_Mo_list_57 : decode bm_Mo_list 57 = .ok (.getfield 20, 3) := by decide +kernel
theorem dd_Mo_list_60 : decode bm_Mo_list 60 = .ok (.iload 4, 2) := by decide +kernel
theorem dd_Mo_list_62 : decode bm_Mo_list 62 = .ok (.dup2, 1) := by decide +kernel
theorem dd_Mo_list_63 : decode bm_Mo_list 63 = .ok (.iaload, 1) := by decide +kernel
theorem dd_Mo_list_64 : decode bm_Mo_list 64 = .ok (.iconst 1, 1) := by decide +kernel
theorem dd_Mo_list_65 : decode bm_Mo_list 65 = .ok (.iadd, 1) := by decide +kernel
theorem dd_Mo_list_66 : decode bm_Mo_list 66 = .ok (.iastore, 1) := by decide +kernel
theorem dd_Mo_list_67 : decode bm_Mo_list 67 = .ok (.return_, 1) := by decide +kernel
theorem dd_Mo_tick_0 : decode bm_Mo_tick 0 = .ok (.iload_n 1, 1) := by decide +kernel
theorem dd_Mo_tick_1 : decode bm_Mo_tick 1 = .ok (.iconst 0, 1) := by decide +kernel
theorem dd_Mo_tick_2 : decode bm_Mo_tick 2 = .ok (.iconst 1, 1) := by decide +kernel
theorem dd_Mo_tick_3 : decode bm_Mo_tick 3 = .ok (.invokestatic 91, 3) := by decide +kernel
theorem dd_Mo_tick_6 : decode bm_Mo_tick 6 = .ok (.ifCond .eq 5, 3) := by decide +kernel
theorem dd_Mo_tick_9 : decode bm_Mo_tick 9 = .ok (.iconst (-1), 1) := by decide +kernel
theorem dd_Mo_tick_10 : decode bm_Mo_tick 10 = .ok (.ireturn, 1) := by decide +kernel
theorem dd_Mo_tick_11 : decode bm_Mo_tick 11 = .ok (.aload_n 0, 1) := by decide +kernel
theorem dd_Mo_tick_12 : decode bm_Mo_tick 12 = .ok (.getfield 7, 3) := by decide +kernel
theorem dd_Mo_tick_15 : decode bm_Mo_tick 15 = .ok (.iload_n 1, 1) := by decide +kernel
theorem dd_Mo_tick_16 : decode bm_Mo_tick 16 = .ok (.dup2, 1) := by decide +kernel
theorem dd_Mo_tick_17 : decode bm_Mo_tick 17 = .ok (.iaload, 1) := by decide +kernel
theorem dd_Mo_tick_18 : decode bm_Mo_tick 18 = .ok (.iconst 1, 1) := by decide +kernel
theorem dd_Mo_tick_19 : decode bm_Mo_tick 19 = .ok (.iadd, 1) := by decide +kernel
theorem dd_Mo_tick_20 : decode bm_Mo_tick 20 = .ok (.iastore, 1) := by decide +kernel
theorem dd_Mo_tick_21 : decode bm_Mo_tick 21 = .ok (.aload_n 0, 1) := by decide +kernel
theorem dd_Mo_tick_22 : decode bm_Mo_tick 22 = .ok (.getfield 20, 3) := by decide +kernel
theorem dd_Mo_tick_25 : decode bm_Mo_tick 25 = .ok (.bipush 8, 2) := by decide +kernel
theorem dd_Mo_tick_27 : decode bm_Mo_tick 27 = .ok (.iload_n 1, 1) := by decide +kernel
theorem dd_Mo_tick_28 : decode bm_Mo_tick 28 = .ok (.imul, 1) := by decide +kernel
theorem dd_Mo_tick_29 : decode bm_Mo_tick 29 = .ok (.aload_n 0, 1) := by decide +kernel
theorem dd_Mo_tick_30 : decode bm_Mo_tick 30 = .ok (.getfield 7, 3) := by decide +kernel
theorem dd_Mo_tick_33 : decode bm_Mo_tick 33 = .ok (.iload_n 1, 1) := by decide +kernel
theorem dd_Mo_tick_34 : decode bm_Mo_tick 34 = .ok (.iaload, 1) := by decide +kernel
theorem dd_Mo_tick_35 : decode bm_Mo_tick 35 = .ok (.bipush 8, 2) := by decide +kernel
theorem dd_Mo_tick_37 : decode bm_Mo_tick 37 = .ok (.irem, 1) := by decide +kernel
theorem dd_Mo_tick_38 : decode bm_Mo_tick 38 = .ok (.iadd, 1) := by decide +kernel
theorem dd_Mo_tick_39 : decode bm_Mo_tick 39 = .ok (.iconst 0, 1) := by decide +kernel
theorem dd_Mo_tick_40 : decode bm_Mo_tick 40 = .ok (.iastore, 1) := by decide +kernel
theorem dd_Mo_tick_41 : decode bm_Mo_tick 41 = .ok (.iconst 0, 1) := by decide +kernel
theorem dd_Mo_tick_42 : decode bm_Mo_tick 42 = .ok (.istore_n 2, 1) := by decide +kernel
theorem dd_Mo_tick_43 : decode bm_Mo_tick 43 = .ok (.iload_n 2, 1) := by decide +kernel
theorem dd_Mo_tick_44 : decode bm_Mo_tick 44 = .ok (.iconst 3, 1) := by decide +kernel
theorem dd_Mo_tick_45 : decode bm_Mo_tick 45 = .ok (.if_icmp .ge 63, 3) := by decide +kernel
theorem dd_Mo_tick_48 : decode bm_Mo_tick 48 = .ok (.aload_n 0, 1) := by decide +kernel
theorem dd_Mo_tick_49 : decode bm_Mo_tick 49 = .ok (.getfield 29, 3) := by decide +kernel
theorem dd_Mo_tick_52 : decode bm_Mo_tick 52 = .ok (.iconst 3, 1) := by decide +kernel
theorem dd_Mo_tick_53 : decode bm_Mo_tick 53 = .ok (.iload_n 1, 1) := by decide +kernel
theorem dd_Mo_tick_54 : decode bm_Mo_tick 54 = .ok (.imul, 1) := by decide +kernel
theorem dd_Mo_tick_55 : decode bm_Mo_tick 55 = .ok (.iload_n 2, 1) := by decide +kernel
theorem dd_Mo_tick_56 : decode bm_Mo_tick 56 = .ok (.iadd, 1) := by decide +kernel
theorem dd_Mo_tick_57 : decode bm_Mo_tick 57 = .ok (.iaload, 1) := by decide +kernel
theorem dd_Mo_tick_58 : decode bm_Mo_tick 58 = .ok (.ifCond .le 44, 3) := by decide +kernel
theorem dd_Mo_tick_61 : decode bm_Mo_tick 61 = .ok (.aload_n 0, 1) := by decide +kernel
theorem dd_Mo_tick_62 : decode bm_Mo_tick 62 = .ok (.iload_n 1, 1) := by decide +kernel
theorem dd_Mo_tick_63 : decode bm_Mo_tick 63 = .ok (.sipush 4096, 3) := by decide +kernel
theorem dd_Mo_tick_66 : decode bm_Mo_tick 66 = .ok (.iload_n 2, 1) := by decide +kernel
theorem dd_Mo_tick_67 : decode bm_Mo_tick 67 = .ok (.iadd, 1) := by decide +kernel
theorem dd_Mo_tick_68 : decode bm_Mo_tick 68 = .ok (.iconst 2, 1) := by decide +kernel
theorem dd_Mo_tick_69 : decode bm_Mo_tick 69 = .ok (.aload_n 0, 1) := by decide +kernel
theorem dd_Mo_tick_70 : decode bm_Mo_tick 70 = .ok (.getfield 29, 3) := by decide +kernel
theorem dd_Mo_tick_73 : decode bm_Mo_tick 73 = .ok (.iconst 3, 1) := by decide +kernel
theorem dd_Mo_tick_74 : decode bm_Mo_tick 74 = .ok (.iload_n 1, 1) := by decide +kernel
theorem dd_Mo_tick_75 : decode bm_Mo_tick 75 = .ok (.imul, 1) := by decide +kernel
theorem dd_Mo_tick_76 : decode bm_Mo_tick 76 = .ok (.iload_n 2, 1) := by decide +kernel
theorem dd_Mo_tick_77 : decode bm_Mo_tick 77 = .ok (.iadd, 1) := by decide +kernel
theorem dd_Mo_tick_78 : decode bm_Mo_tick 78 = .ok (.iaload, 1) := by decide +kernel
theorem dd_Mo_tick_79 : decode bm_Mo_tick 79 = .ok (.imul, 1) := by decide +kernel
theorem dd_Mo_tick_80 : decode bm_Mo_tick 80 = .ok (.aload_n 0, 1) := by decide +kernel
theorem dd_Mo_tick_81 : decode bm_Mo_tick 81 = .ok (.getfield 32, 3) := by decide +kernel
theorem dd_Mo_tick_84 : decode bm_Mo_tick 84 = .ok (.iconst 3, 1) := by decide +kernel
theorem dd_Mo_tick_85 : decode bm_Mo_tick 85 = .ok (.iload_n 1, 1) := by decide +kernel
theorem dd_Mo_tick_86 : decode bm_Mo_tick 86 = .ok (.imul, 1) := by decide +kernel
theorem dd_Mo_tick_87 : decode bm_Mo_tick 87 = .ok (.iload_n 2, 1) := by decide +kernel
theorem dd_Mo_tick_88 : decode bm_Mo_tick 88 = .ok (.iadd, 1) := by decide +kernel
theorem dd_Mo_tick_89 : decode bm_Mo_tick 89 = .ok (.baload, 1) := by decide +kernel
theorem dd_Mo_tick_90 : decode bm_Mo_tick 90 = .ok (.ifCond .eq 7, 3) := by decide +kernel
theorem dd_Mo_tick_93 : decode bm_Mo_tick 93 = .ok (.iconst 1, 1) := by decide +kernel
theorem dd_Mo_tick_94 : decode bm_Mo_tick 94 = .ok (.goto 4, 3) := by decide +kernel
theorem dd_Mo_tick_97 : decode bm_Mo_tick 97 = .ok (.iconst 0, 1) := by decide +kernel
theorem dd_Mo_tick_98 : decode bm_Mo_tick 98 = .ok (.iadd, 1) := by decide +kernel
theorem dd_Mo_tick_99 : decode bm_Mo_tick 99 = .ok (.invokevirtual 95, 3) := by decide +kernel
theorem dd_Mo_tick_102 : decode bm_Mo_tick 102 = .ok (.iinc 2 1, 3) := by decide +kernel
theorem dd_Mo_tick_105 : decode bm_Mo_tick 105 = .ok (.goto (-62), 3) := by decide +kernel
theorem dd_Mo_tick_108 : decode bm_Mo_tick 108 = .ok (.iconst 0, 1) := by decide +kernel
theorem dd_Mo_tick_109 : decode bm_Mo_tick 109 = .ok (.istore_n 2, 1) := by decide +kernel
theorem dd_Mo_tick_110 : decode bm_Mo_tick 110 = .ok (.iload_n 2, 1) := by decide +kernel
theorem dd_Mo_tick_111 : decode bm_Mo_tick 111 = .ok (.iconst 3, 1) := by decide +kernel
theorem dd_Mo_tick_112 : decode bm_Mo_tick 112 = .ok (.if_icmp .ge 55, 3) := by decide +kernel
theorem dd_Mo_tick_115 : decode bm_Mo_tick 115 = .ok (.aload_n 0, 1) := by decide +kernel
theorem dd_Mo_tick_116 : decode bm_Mo_tick 116 = .ok (.getfield 29, 3) := by decide +kernel
theorem dd_Mo_tick_119 : decode bm_Mo_tick 119 = .ok (.iconst 3, 1) := by decide +kernel
theorem dd_Mo_tick_120 : decode bm_Mo_tick 120 = .ok (.iload_n 1, 1) := by decide +kernel
theorem dd_Mo_tick_121 : decode bm_Mo_tick 121 = .ok (.imul, 1) := by decide +kernel
theorem dd_Mo_tick_122 : decode bm_Mo_tick 122 = .ok (.iload_n 2, 1) := by decide +kernel
theorem dd_Mo_tick_123 : decode bm_Mo_tick 123 = .ok (.iadd, 1) := by decide +kernel
theorem dd_Mo_tick_124 : decode bm_Mo_tick 124 = .ok (.iaload, 1) := by decide +kernel
theorem dd_Mo_tick_125 : decode bm_Mo_tick 125 = .ok (.ifCond .le 36, 3) := by decide +kernel
theorem dd_Mo_tick_128 : decode bm_Mo_tick 128 = .ok (.aload_n 0, 1) := by decide +kernel
theorem dd_Mo_tick_129 : decode bm_Mo_tick 129 = .ok (.getfield 32, 3) := by decide +kernel
theorem dd_Mo_tick_132 : decode bm_Mo_tick 132 = .ok (.iconst 3, 1) := by decide +kernel
theorem dd_Mo_tick_133 : decode bm_Mo_tick 133 = .ok (.iload_n 1, 1) := by decide +kernel
theorem dd_Mo_tick_134 : decode bm_Mo_tick 134 = .ok (.imul, 1) := by decide +kernel
theorem dd_Mo_tick_135 : decode bm_Mo_tick 135 = .ok (.iload_n 2, 1) := by decide +kernel
theorem dd_Mo_tick_136 : decode bm_Mo_tick 136 = .ok (.iadd, 1) := by decide +kernel
theorem dd_Mo_tick_137 : decode bm_Mo_tick 137 = .ok (.baload, 1) := by decide +kernel
theorem dd_Mo_tick_138 : decode bm_Mo_tick 138 = .ok (.ifCond .eq 23, 3) := by decide +kernel
theorem dd_Mo_tick_141 : decode bm_Mo_tick 141 = .ok (.aload_n 0, 1) := by decide +kernel
theorem dd_Mo_tick_142 : decode bm_Mo_tick 142 = .ok (.iload_n 1, 1) := by decide +kernel
theorem dd_Mo_tick_143 : decode bm_Mo_tick 143 = .ok (.sipush 8192, 3) := by decide +kernel
theorem dd_Mo_tick_146 : decode bm_Mo_tick 146 = .ok (.iload_n 2, 1) := by decide +kernel
theorem dd_Mo_tick_147 : decode bm_Mo_tick 147 = .ok (.iadd, 1) := by decide +kernel
theorem dd_Mo_tick_148 : decode bm_Mo_tick 148 = .ok (.aload_n 0, 1) := by decide +kernel
theorem dd_Mo_tick_149 : decode bm_Mo_tick 149 = .ok (.getfield 38, 3) := by decide +kernel
theorem dd_Mo_tick_152 : decode bm_Mo_tick 152 = .ok (.iconst 3, 1) := by decide +kernel
theorem dd_Mo_tick_153 : decode bm_Mo_tick 153 = .ok (.iload_n 1, 1) := by decide +kernel
theorem dd_Mo_tick_154 : decode bm_Mo_tick 154 = .ok (.imul, 1) := by decide +kernel
theorem dd_Mo_tick_155 : decode bm_Mo_tick 155 = .ok (.iload_n 2, 1) := by decide +kernel
theorem dd_Mo_tick_156 : decode bm_Mo_tick 156 = .ok (.iadd, 1) := by decide +kernel
theorem dd_Mo_tick_157 : decode bm_Mo_tick 157 = .ok (.iaload, 1) := by decide +kernel
theorem dd_Mo_tick_158 : decode bm_Mo_tick 158 = .ok (.invokevirtual 95, 3) := by decide +kernel
theorem dd_Mo_tick_161 : decode bm_Mo_tick 161 = .ok (.iinc 2 1, 3) := by decide +kernel
theorem dd_Mo_tick_164 : decode bm_Mo_tick 164 = .ok (.goto (-54), 3) := by decide +kernel
theorem dd_Mo_tick_167 : decode bm_Mo_tick 167 = .ok (.iconst 0, 1) := by decide +kernel
theorem dd_Mo_tick_168 : decode bm_Mo_tick 168 = .ok (.istore_n 2, 1) := by decide +kernel
theorem dd_Mo_tick_169 : decode bm_Mo_tick 169 = .ok (.iload_n 2, 1) := by decide +kernel
theorem dd_Mo_tick_170 : decode bm_Mo_tick 170 = .ok (.iconst 3, 1) := by decide +kernel
theorem dd_Mo_tick_171 : decode bm_Mo_tick 171 = .ok (.if_icmp .ge 47, 3) := by decide +kernel
theorem dd_Mo_tick_174 : decode bm_Mo_tick 174 = .ok (.iconst 0, 1) := by decide +kernel
theorem dd_Mo_tick_175 : decode bm_Mo_tick 175 = .ok (.istore_n 3, 1) := by decide +kernel
theorem dd_Mo_tick_176 : decode bm_Mo_tick 176 = .ok (.iload_n 3, 1) := by decide +kernel
theorem dd_Mo_tick_177 : decode bm_Mo_tick 177 = .ok (.iconst 3, 1) := by decide +kernel
theorem dd_Mo_tick_178 : decode bm_Mo_tick 178 = .ok (.if_icmp .ge 34, 3) := by decide +kernel
theorem dd_Mo_tick_181 : decode bm_Mo_tick 181 = .ok (.iconst 1, 1) := by decide +kernel
theorem dd_Mo_tick_182 : decode bm_Mo_tick 182 = .ok (.istore 4, 2) := by decide +kernel
theorem dd_Mo_tick_184 : decode bm_Mo_tick 184 = .ok (.iload 4, 2) := by decide +kernel
theorem dd_Mo_tick_186 : decode bm_Mo_tick 186 = .ok (.bipush 13, 2) := by decide +kernel
theorem dd_Mo_tick_188 : decode bm_Mo_tick 188 = .ok (.if_icmp .ge 18, 3) := by decide +kernel
theorem dd_Mo_tick_191 : decode bm_Mo_tick 191 = .ok (.aload_n 0, 1) := by decide +kernel
theorem dd_Mo_tick_192 : decode bm_Mo_tick 192 = .ok (.iload_n 1, 1) := by decide +kernel
theorem dd_Mo_tick_193 : decode bm_Mo_tick 193 = .ok (.iload_n 2, 1) := by decide +kernel
theorem dd_Mo_tick_194 : decode bm_Mo_tick 194 = .ok (.iload_n 3, 1) := by decide +kernel
theorem dd_Mo_tick_195 : decode bm_Mo_tick 195 = .ok (.iload 4, 2) := by decide +kernel
theorem dd_Mo_tick_197 : decode bm_Mo_tick 197 = .ok (.invokevirtual 99, 3) := by decide +kernel
theorem dd_Mo_tick_200 : decode bm_Mo_tick 200 = .ok (.iinc 4 1, 3) := by decide +kernel
theorem dd_Mo_tick_203 : decode bm_Mo_tick 203 = .ok (.goto (-19), 3) := by decide +kernel
theorem dd_Mo_tick_206 : decode bm_Mo_tick 206 = .ok (.iinc 3 1, 3) := by decide +kernel
theorem dd_Mo_tick_209 : decode bm_Mo_tick 209 = .ok (.goto (-33), 3) := by decide +kernel
theorem dd_Mo_tick_212 : decode bm_Mo_tick 212 = .ok (.iinc 2 1, 3) := by decide +kernel
theorem dd_Mo_tick_215 : decode bm_Mo_tick 215 = .ok (.goto (-46), 3) := by decide +kernel
theorem dd_Mo_tick_218 : decode bm_Mo_tick 218 = .ok (.aload_n 0, 1) := by decide +kernel
theorem dd_Mo_tick_219 : decode bm_Mo_tick 219 = .ok (.getfield 7, 3) := by decide +kernel
theorem dd_Mo_tick_222 : decode bm_Mo_tick 222 = .ok (.iload_n 1, 1) := by decide +kernel
theorem dd_Mo_tick_223 : decode bm_Mo_tick 223 = .ok (.iaload, 1) := by decide +kernel
theorem dd_Mo_tick_224 : decode bm_Mo_tick 224 = .ok (.ireturn, 1) := by decide +kernel
theorem dd_Mo_listPacket_0 : decode bm_Mo_listPacket 0 = .ok (.bipush 13, 2) := by decide +kernel
theorem dd_Mo_listPacket_2 : decode bm_Mo_listPacket 2 = .ok (.iconst 3, 1) := by decide +kernel
theorem dd_Mo_listPacket_3 : decode bm_Mo_listPacket 3 = .ok (.iload_n 1, 1) := by decide +kernel
theorem dd_Mo_listPacket_4 : decode bm_Mo_listPacket 4 = .ok (.imul, 1) := by decide +kernel
theorem dd_Mo_listPacket_5 : decode bm_Mo_listPacket 5 = .ok (.iload_n 3, 1) := by decide +kernel
theorem dd_Mo_listPacket_6 : decode bm_Mo_listPacket 6 = .ok (.iadd, 1) := by decide +kernel
theorem dd_Mo_listPacket_7 : decode bm_Mo_listPacket 7 = .ok (.imul, 1) := by decide +kernel
theorem dd_Mo_listPacket_8 : decode bm_Mo_listPacket 8 = .ok (.iload 4, 2) := by decide +kernel
theorem dd_Mo_listPacket_10 : decode bm_Mo_listPacket 10 = .ok (.iadd, 1) := by decide +kernel
theorem dd_Mo_listPacket_11 : decode bm_Mo_listPacket 11 = .ok (.istore 5, 2) := by decide +kernel
theorem dd_Mo_listPacket_13 : decode bm_Mo_listPacket 13 = .ok (.bipush 13, 2) := by decide +kernel
theorem dd_Mo_listPacket_15 : decode bm_Mo_listPacket 15 = .ok (.iconst 3, 1) := by decide +kernel
theorem dd_Mo_listPacket_16 : decode bm_Mo_listPacket 16 = .ok (.iconst 1, 1) := by decide +kernel
theorem dd_Mo_listPacket_17 : decode bm_Mo_listPacket 17 = .ok (.iload_n 1, 1) := by decide +kernel
theorem dd_Mo_listPacket_18 : decode bm_Mo_listPacket 18 = .ok (.isub, 1) := by decide +kernel
theorem dd_Mo_listPacket_19 : decode bm_Mo_listPacket 19 = .ok (.imul, 1) := by decide +kernel
theorem dd_Mo_listPacket_20 : decode bm_Mo_listPacket 20 = .ok (.iload_n 3, 1) := by decide +kernel
theorem dd_Mo_listPacket_21 : decode bm_Mo_listPacket 21 = .ok (.iadd, 1) := by decide +kernel
theorem dd_Mo_listPacket_22 : decode bm_Mo_listPacket 22 = .ok (.imul, 1) := by decide +kernel
theorem dd_Mo_listPacket_23 : decode bm_Mo_listPacket 23 = .ok (.iload 4, 2) := by decide +kernel
theorem dd_Mo_listPacket_25 : decode bm_Mo_listPacket 25 = .ok (.iadd, 1) := by decide +kernel
theorem dd_Mo_listPacket_26 : decode bm_Mo_listPacket 26 = .ok (.istore 6, 2) := by decide +kernel
theorem dd_Mo_listPacket_28 : decode bm_Mo_listPacket 28 = .ok (.iload_n 2, 1) := by decide +kernel
theorem dd_Mo_listPacket_29 : decode bm_Mo_listPacket 29 = .ok (.ifCond .ne 57, 3) := by decide +kernel
theorem dd_Mo_listPacket_32 : decode bm_Mo_listPacket 32 = .ok (.iload 4, 2) := by decide +kernel
theorem dd_Mo_listPacket_34 : decode bm_Mo_listPacket 34 = .ok (.aload_n 0, 1) := by decide +kernel
theorem dd_Mo_listPacket_35 : decode bm_Mo_listPacket 35 = .ok (.getfield 35, 3) := by decide +kernel
theorem dd_Mo_listPacket_38 : decode bm_Mo_listPacket 38 = .ok (.iconst 3, 1) := by decide +kernel
theorem dd_Mo_listPacket_39 : decode bm_Mo_listPacket 39 = .ok (.iload_n 1, 1) := by decide +kernel
theorem dd_Mo_listPacket_40 : decode bm_Mo_listPacket 40 = .ok (.imul, 1) := by decide +kernel
theorem dd_Mo_listPacket_41 : decode bm_Mo_listPacket 41 = .ok (.iload_n 3, 1) := by decide +kernel
theorem dd_Mo_listPacket_42 : decode bm_Mo_listPacket 42 = .ok (.iadd, 1) := by decide +kernel
theorem dd_Mo_listPacket_43 : decode bm_Mo_listPacket 43 = .ok (.iaload, 1) := by decide +kernel
theorem dd_Mo_listPacket_44 : decode bm_Mo_listPacket 44 = .ok (.if_icmp .gt 42, 3) := by decide +kernel
theorem dd_Mo_listPacket_47 : decode bm_Mo_listPacket 47 = .ok (.aload_n 0, 1) := by decide +kernel
theorem dd_Mo_listPacket_48 : decode bm_Mo_listPacket 48 = .ok (.getfield 59, 3) := by decide +kernel
theorem dd_Mo_listPacket_51 : decode bm_Mo_listPacket 51 = .ok (.iload 5, 2) := by decide +kernel
theorem dd_Mo_listPacket_53 : decode bm_Mo_listPacket 53 = .ok (.iaload, 1) := by decide +kernel
theorem dd_Mo_listPacket_54 : decode bm_Mo_listPacket 54 = .ok (.ifCond .ne 32, 3) := by decide +kernel
theorem dd_Mo_listPacket_57 : decode bm_Mo_listPacket 57 = .ok (.aload_n 0, 1) := by decide +kernel
theorem dd_Mo_listPacket_58 : decode bm_Mo_listPacket 58 = .ok (.iload_n 1, 1) := by decide +kernel
theorem dd_Mo_listPacket_59 : decode bm_Mo_listPacket 59 = .ok (.sipush 12288, 3) := by decide +kernel
theorem dd_Mo_listPacket_62 : decode bm_Mo_listPacket 62 = .ok (.bipush 64, 2) := by decide +kernel
theorem dd_Mo_listPacket_64 : decode bm_Mo_listPacket 64 = .ok (.iload_n 3, 1) := by decide +kernel
theorem dd_Mo_listPacket_65 : decode bm_Mo_listPacket 65 = .ok (.imul, 1) := by decide +kernel
theorem dd_Mo_listPacket_66 : decode bm_Mo_listPacket 66 = .ok (.iadd, 1) := by decide +kernel
theorem dd_Mo_listPacket_67 : decode bm_Mo_listPacket 67 = .ok (.iload 4, 2) := by decide +kernel
theorem dd_Mo_listPacket_69 : decode bm_Mo_listPacket 69 = .ok (.iadd, 1) := by decide +kernel
theorem dd_Mo_listPacket_70 : decode bm_Mo_listPacket 70 = .ok (.aload_n 0, 1) := by decide +kernel
theorem dd_Mo_listPacket_71 : decode bm_Mo_listPacket 71 = .ok (.iload 5, 2) := by decide +kernel
theorem dd_Mo_listPacket_73 : decode bm_Mo_listPacket 73 = .ok (.aload_n 0, 1) := by decide +kernel
theorem dd_Mo_listPacket_74 : decode bm_Mo_listPacket 74 = .ok (.getfield 47, 3) := by decide +kernel
theorem dd_Mo_listPacket_77 : decode bm_Mo_listPacket 77 = .ok (.iload 5, 2) := by decide +kernel
theorem dd_Mo_listPacket_79 : decode bm_Mo_listPacket 79 = .ok (.iaload, 1) := by decide +kernel
theorem dd_Mo_listPacket_80 : decode bm_Mo_listPacket 80 = .ok (.invokevirtual 103, 3) := by decide +kernel
theorem dd_Mo_listPacket_83 : decode bm_Mo_listPacket 83 = .ok (.invokevirtual 95, 3) := by decide +kernel
theorem dd_Mo_listPacket_86 : decode bm_Mo_listPacket 86 = .ok (.iload_n 2, 1) := by decide +kernel
theorem dd_Mo_listPacket_87 : decode bm_Mo_listPacket 87 = .ok (.iconst 1, 1) := by decide +kernel
theorem dd_Mo_listPacket_88 : decode bm_Mo_listPacket 88 = .ok (.if_icmp .ne 43, 3) := by decide +kernel
theorem dd_Mo_listPacket_91 : decode bm_Mo_listPacket 91 = .ok (.aload_n 0, 1) := by decide +kernel
theorem dd_Mo_listPacket_92 : decode bm_Mo_listPacket 92 = .ok (.getfield 62, 3) := by decide +kernel
theorem dd_Mo_listPacket_95 : decode bm_Mo_listPacket 95 = .ok (.iload 6, 2) := by decide +kernel
theorem dd_Mo_listPacket_97 : decode bm_Mo_listPacket 97 = .ok (.iaload, 1) := by decide +kernel
theorem dd_Mo_listPacket_98 : decode bm_Mo_listPacket 98 = .ok (.ifCond .le 33, 3) := by decide +kernel
theorem dd_Mo_listPacket_101 : decode bm_Mo_listPacket 101 = .ok (.aload_n 0, 1) := by decide +kernel
theorem dd_Mo_listPacket_102 : decode bm_Mo_listPacket 102 = .ok (.getfield 32, 3) := by decide +kernel
theorem dd_Mo_listPacket_105 : decode bm_Mo_listPacket 105 = .ok (.iconst 3, 1) := by decide +kernel
theorem dd_Mo_listPacket_106 : decode bm_Mo_listPacket 106 = .ok (.iload_n 1, 1) := by decide +kernel
theorem dd_Mo_listPacket_107 : decode bm_Mo_listPacket 107 = .ok (.imul, 1) := by decide +kernel
theorem dd_Mo_listPacket_108 : decode bm_Mo_listPacket 108 = .ok (.iload_n 3, 1) := by decide +kernel
theorem dd_Mo_listPacket_109 : decode bm_Mo_listPacket 109 = .ok (.iadd, 1) := by decide +kernel
theorem dd_Mo_listPacket_110 : decode bm_Mo_listPacket 110 = .ok (.baload, 1) := by decide +kernel
theorem dd_Mo_listPacket_111 : decode bm_Mo_listPacket 111 = .ok (.ifCond .ne 20, 3) := by decide +kernel
theorem dd_Mo_listPacket_114 : decode bm_Mo_listPacket 114 = .ok (.aload_n 0, 1) := by decide +kernel
theorem dd_Mo_listPacket_115 : decode bm_Mo_listPacket 115 = .ok (.iload_n 1, 1) := by decide +kernel
theorem dd_Mo_listPacket_116 : decode bm_Mo_listPacket 116 = .ok (.sipush 16384, 3) := by decide +kernel
theorem dd_Mo_listPacket_119 : decode bm_Mo_listPacket 119 = .ok (.bipush 64, 2) := by decide +kernel
theorem dd_Mo_listPacket_121 : decode bm_Mo_listPacket 121 = .ok (.iload_n 3, 1) := by decide +kernel
theorem dd_Mo_listPacket_122 : decode bm_Mo_listPacket 122 = .ok (.imul, 1) := by decide +kernel
theorem dd_Mo_listPacket_123 : decode bm_Mo_listPacket 123 = .ok (.iadd, 1) := by decide +kernel
theorem dd_Mo_listPacket_124 : decode bm_Mo_listPacket 124 = .ok (.iload 4, 2) := by decide +kernel
theorem dd_Mo_listPacket_126 : decode bm_Mo_listPacket 126 = .ok (.iadd, 1) := by decide +kernel
theorem dd_Mo_listPacket_127 : decode bm_Mo_listPacket 127 = .ok (.iconst 1, 1) := by decide +kernel
theorem dd_Mo_listPacket_128 : decode bm_Mo_listPacket 128 = .ok (.invokevirtual 95, 3) := by decide +kernel
theorem dd_Mo_listPacket_131 : decode bm_Mo_listPacket 131 = .ok (.iload_n 2, 1) := by decide +kernel
theorem dd_Mo_listPacket_132 : decode bm_Mo_listPacket 132 = .ok (.iconst 2, 1) := by decide +kernel
theorem dd_Mo_listPacket_133 : decode bm_Mo_listPacket 133 = .ok (.if_icmp .ne 36, 3) := by decide +kernel
theorem dd_Mo_listPacket_136 : decode bm_Mo_listPacket 136 = .ok (.aload_n 0, 1) := by decide +kernel
theorem dd_Mo_listPacket_137 : decode bm_Mo_listPacket 137 = .ok (.getfield 62, 3) := by decide +kernel
theorem dd_Mo_listPacket_140 : decode bm_Mo_listPacket 140 = .ok (.iload 6, 2) := by decide +kernel
theorem dd_Mo_listPacket_142 : decode bm_Mo_listPacket 142 = .ok (.iaload, 1) := by decide +kernel
theorem dd_Mo_listPacket_143 : decode bm_Mo_listPacket 143 = .ok (.ifCond .le 26, 3) := by decide +kernel
theorem dd_Mo_listPacket_146 : decode bm_Mo_listPacket 146 = .ok (.aload_n 0, 1) := by decide +kernel
theorem dd_Mo_listPacket_147 : decode bm_Mo_listPacket 147 = .ok (.iload_n 1, 1) := by decide +kernel
theorem dd_Mo_listPacket_148 : decode bm_Mo_listPacket 148 = .ok (.sipush 20480, 3) := by decide +kernel
theorem dd_Mo_listPacket_151 : decode bm_Mo_listPacket 151 = .ok (.bipush 64, 2) := by decide +kernel
theorem dd_Mo_listPacket_153 : decode bm_Mo_listPacket 153 = .ok (.iload_n 3, 1) := by decide +kernel
theorem dd_Mo_listPacket_154 : decode bm_Mo_listPacket 154 = .ok (.imul, 1) := by decide +kernel
theorem dd_Mo_listPacket_155 : decode bm_Mo_listPacket 155 = .ok (.iadd, 1) := by decide +kernel
theorem dd_Mo_listPacket_156 : decode bm_Mo_listPacket 156 = .ok (.iload 4, 2) := by decide +kernel
theorem dd_Mo_listPacket_158 : decode bm_Mo_listPacket 158 = .ok (.iadd, 1) := by decide +kernel
theorem dd_Mo_listPacket_159 : decode bm_Mo_listPacket 159 = .ok (.aload_n 0, 1) := by decide +kernel
theorem dd_Mo_listPacket_160 : decode bm_Mo_listPacket 160 = .ok (.getfield 62, 3) := by decide +kernel
theorem dd_Mo_listPacket_163 : decode bm_Mo_listPacket 163 = .ok (.iload 6, 2) := by decide +kernel
theorem dd_Mo_listPacket_165 : decode bm_Mo_listPacket 165 = .ok (.iaload, 1) := by decide +kernel
theorem dd_Mo_listPacket_166 : decode bm_Mo_listPacket 166 = .ok (.invokevirtual 95, 3) := by decide +kernel
theorem dd_Mo_listPacket_169 : decode bm_Mo_listPacket 169 = .ok (.return_, 1) := by decide +kernel
theorem dd_Mo_print_0 : decode bm_Mo_print 0 = .ok (.iconst 3, 1) := by decide +kernel
theorem dd_Mo_print_1 : decode bm_Mo_print 1 = .ok (.aload_n 0, 1) := by decide +kernel
theorem dd_Mo_print_2 : decode bm_Mo_print 2 = .ok (.getfield 44, 3) := by decide +kernel
theorem dd_Mo_print_5 : decode bm_Mo_print 5 = .ok (.iload_n 1, 1) := by decide +kernel
theorem dd_Mo_print_6 : decode bm_Mo_print 6 = .ok (.iaload, 1) := by decide +kernel
theorem dd_Mo_print_7 : decode bm_Mo_print 7 = .ok (.invokestatic 107, 3) := by decide +kernel
theorem dd_Mo_print_10 : decode bm_Mo_print 10 = .ok (.iload_n 2, 1) := by decide +kernel
theorem dd_Mo_print_11 : decode bm_Mo_print 11 = .ok (.invokestatic 107, 3) := by decide +kernel
theorem dd_Mo_print_14 : decode bm_Mo_print 14 = .ok (.aload_n 0, 1) := by decide +kernel
theorem dd_Mo_print_15 : decode bm_Mo_print 15 = .ok (.getfield 50, 3) := by decide +kernel
theorem dd_Mo_print_18 : decode bm_Mo_print 18 = .ok (.iload_n 1, 1) := by decide +kernel
theorem dd_Mo_print_19 : decode bm_Mo_print 19 = .ok (.iaload, 1) := by decide +kernel
theorem dd_Mo_print_20 : decode bm_Mo_print 20 = .ok (.invokestatic 107, 3) := by decide +kernel
theorem dd_Mo_print_23 : decode bm_Mo_print 23 = .ok (.aload_n 0, 1) := by decide +kernel
theorem dd_Mo_print_24 : decode bm_Mo_print 24 = .ok (.getfield 53, 3) := by decide +kernel
theorem dd_Mo_print_27 : decode bm_Mo_print 27 = .ok (.iload_n 1, 1) := by decide +kernel
theorem dd_Mo_print_28 : decode bm_Mo_print 28 = .ok (.iaload, 1) := by decide +kernel
theorem dd_Mo_print_29 : decode bm_Mo_print 29 = .ok (.invokestatic 107, 3) := by decide +kernel
theorem dd_Mo_print_32 : decode bm_Mo_print 32 = .ok (.aload_n 0, 1) := by decide +kernel
theorem dd_Mo_print_33 : decode bm_Mo_print 33 = .ok (.getfield 56, 3) := by decide +kernel
theorem dd_Mo_print_36 : decode bm_Mo_print 36 = .ok (.iload_n 1, 1) := by decide +kernel
theorem dd_Mo_print_37 : decode bm_Mo_print 37 = .ok (.iaload, 1) := by decide +kernel
theorem dd_Mo_print_38 : decode bm_Mo_print 38 = .ok (.invokestatic 107, 3) := by decide +kernel
theorem dd_Mo_print_41 : decode bm_Mo_print 41 = .ok (.ireturn, 1) := by decide +kernel
theorem dd_Mo_keeps_0 : decode bm_Mo_keeps 0 = .ok (.iload_n 2, 1) := by decide +kernel
theorem dd_Mo_keeps_1 : decode bm_Mo_keeps 1 = .ok (.iconst 1, 1) := by decide +kernel
theorem dd_Mo_keeps_2 : decode bm_Mo_keeps 2 = .ok (.if_icmp .lt 30, 3) := by decide +kernel
theorem dd_Mo_keeps_5 : decode bm_Mo_keeps 5 = .ok (.iload_n 2, 1) := by decide +kernel
theorem dd_Mo_keeps_6 : decode bm_Mo_keeps 6 = .ok (.aload_n 0, 1) := by decide +kernel
theorem dd_Mo_keeps_7 : decode bm_Mo_keeps 7 = .ok (.getfield 7, 3) := by decide +kernel
theorem dd_Mo_keeps_10 : decode bm_Mo_keeps 10 = .ok (.iload_n 1, 1) := by decide +kernel
theorem dd_Mo_keeps_11 : decode bm_Mo_keeps 11 = .ok (.iaload, 1) := by decide +kernel
theorem dd_Mo_keeps_12 : decode bm_Mo_keeps 12 = .ok (.if_icmp .gt 20, 3) := by decide +kernel
theorem dd_Mo_keeps_15 : decode bm_Mo_keeps 15 = .ok (.iload_n 2, 1) := by decide +kernel
theorem dd_Mo_keeps_16 : decode bm_Mo_keeps 16 = .ok (.aload_n 0, 1) := by decide +kernel
theorem dd_Mo_keeps_17 : decode bm_Mo_keeps 17 = .ok (.getfield 7, 3) := by decide +kernel
theorem dd_Mo_keeps_20 : decode bm_Mo_keeps 20 = .ok (.iload_n 1, 1) := by decide +kernel
theorem dd_Mo_keeps_21 : decode bm_Mo_keeps 21 = .ok (.iaload, 1) := by decide +kernel
theorem dd_Mo_keeps_22 : decode bm_Mo_keeps 22 = .ok (.bipush 8, 2) := by decide +kernel
theorem dd_Mo_keeps_24 : decode bm_Mo_keeps 24 = .ok (.isub, 1) := by decide +kernel
theorem dd_Mo_keeps_25 : decode bm_Mo_keeps 25 = .ok (.if_icmp .le 7, 3) := by decide +kernel
theorem dd_Mo_keeps_28 : decode bm_Mo_keeps 28 = .ok (.iconst 1, 1) := by decide +kernel
theorem dd_Mo_keeps_29 : decode bm_Mo_keeps 29 = .ok (.goto 4, 3) := by decide +kernel
theorem dd_Mo_keeps_32 : decode bm_Mo_keeps 32 = .ok (.iconst 0, 1) := by decide +kernel
theorem dd_Mo_keeps_33 : decode bm_Mo_keeps 33 = .ok (.ireturn, 1) := by decide +kernel
theorem dd_Mo_update_0 : decode bm_Mo_update 0 = .ok (.iload_n 1, 1) := by decide +kernel
theorem dd_Mo_update_1 : decode bm_Mo_update 1 = .ok (.iconst 0, 1) := by decide +kernel
theorem dd_Mo_update_2 : decode bm_Mo_update 2 = .ok (.iconst 1, 1) := by decide +kernel
theorem dd_Mo_update_3 : decode bm_Mo_update 3 = .ok (.invokestatic 91, 3) := by decide +kernel
theorem dd_Mo_update_6 : decode bm_Mo_update 6 = .ok (.ifCond .ne 19, 3) := by decide +kernel
theorem dd_Mo_update_9 : decode bm_Mo_update 9 = .ok (.iload_n 2, 1) := by decide +kernel
theorem dd_Mo_update_10 : decode bm_Mo_update 10 = .ok (.iconst 1, 1) := by decide +kernel
theorem dd_Mo_update_11 : decode bm_Mo_update 11 = .ok (.aload_n 0, 1) := by decide +kernel
theorem dd_Mo_update_12 : decode bm_Mo_update 12 = .ok (.getfield 7, 3) := by decide +kernel
theorem dd_Mo_update_15 : decode bm_Mo_update 15 = .ok (.iconst 1, 1) := by decide +kernel
theorem dd_Mo_update_16 : decode bm_Mo_update 16 = .ok (.iload_n 1, 1) := by decide +kernel
theorem dd_Mo_update_17 : decode bm_Mo_update 17 = .ok (.isub, 1) := by decide +kernel
theorem dd_Mo_update_18 : decode bm_Mo_update 18 = .ok (.iaload, 1) := by decide +kernel
theorem dd_Mo_update_19 : decode bm_Mo_update 19 = .ok (.invokestatic 91, 3) := by decide +kernel
theorem dd_Mo_update_22 : decode bm_Mo_update 22 = .ok (.ifCond .eq 5, 3) := by decide +kernel
theorem dd_Mo_update_25 : decode bm_Mo_update 25 = .ok (.iconst (-1), 1) := by decide +kernel
theorem dd_Mo_update_26 : decode bm_Mo_update 26 = .ok (.ireturn, 1) := by decide +kernel
theorem dd_Mo_update_27 : decode bm_Mo_update 27 = .ok (.iload_n 3, 1) := by decide +kernel
theorem dd_Mo_update_28 : decode bm_Mo_update 28 = .ok (.iconst 1, 1) := by decide +kernel
theorem dd_Mo_update_29 : decode bm_Mo_update 29 = .ok (.iand, 1) := by decide +kernel
theorem dd_Mo_update_30 : decode bm_Mo_update 30 = .ok (.iload_n 3, 1) := by decide +kernel
theorem dd_Mo_update_31 : decode bm_Mo_update 31 = .ok (.iconst 1, 1) := by decide +kernel
theorem dd_Mo_update_32 : decode bm_Mo_update 32 = .ok (.ishr, 1) := by decide +kernel
theorem dd_Mo_update_33 : decode bm_Mo_update 33 = .ok (.iconst 1, 1) := by decide +kernel
theorem dd_Mo_update_34 : decode bm_Mo_update 34 = .ok (.iand, 1) := by decide +kernel
theorem dd_Mo_update_35 : decode bm_Mo_update 35 = .ok (.iadd, 1) := by decide +kernel
theorem dd_Mo_update_36 : decode bm_Mo_update 36 = .ok (.iload_n 3, 1) := by decide +kernel
theorem dd_Mo_update_37 : decode bm_Mo_update 37 = .ok (.iconst 2, 1) := by decide +kernel
theorem dd_Mo_update_38 : decode bm_Mo_update 38 = .ok (.ishr, 1) := by decide +kernel
theorem dd_Mo_update_39 : decode bm_Mo_update 39 = .ok (.iconst 1, 1) := by decide +kernel
theorem dd_Mo_update_40 : decode bm_Mo_update 40 = .ok (.iand, 1) := by decide +kernel
theorem dd_Mo_update_41 : decode bm_Mo_update 41 = .ok (.iadd, 1) := by decide +kernel
theorem dd_Mo_update_42 : decode bm_Mo_update 42 = .ok (.iload_n 3, 1) := by decide +kernel
theorem dd_Mo_update_43 : decode bm_Mo_update 43 = .ok (.iconst 3, 1) := by decide +kernel
theorem dd_Mo_update_44 : decode bm_Mo_update 44 = .ok (.ishr, 1) := by decide +kernel
theorem dd_Mo_update_45 : decode bm_Mo_update 45 = .ok (.iconst 1, 1) := by decide +kernel
theorem dd_Mo_update_46 : decode bm_Mo_update 46 = .ok (.iand, 1) := by decide +kernel
theorem dd_Mo_update_47 : decode bm_Mo_update 47 = .ok (.iadd, 1) := by decide +kernel
theorem dd_Mo_update_48 : decode bm_Mo_update 48 = .ok (.istore 5, 2) := by decide +kernel
theorem dd_Mo_update_50 : decode bm_Mo_update 50 = .ok (.iload 4, 2) := by decide +kernel
theorem dd_Mo_update_52 : decode bm_Mo_update 52 = .ok (.ifCond .ne 9, 3) := by decide +kernel
theorem dd_Mo_update_55 : decode bm_Mo_update 55 = .ok (.iload 5, 2) := by decide +kernel
theorem dd_Mo_update_57 : decode bm_Mo_update 57 = .ok (.iconst 3, 1) := by decide +kernel
theorem dd_Mo_update_58 : decode bm_Mo_update 58 = .ok (.if_icmp .ge 6, 3) := by decide +kernel
theorem dd_Mo_update_61 : decode bm_Mo_update 61 = .ok (.bipush (-6), 2) := by decide +kernel
theorem dd_Mo_update_63 : decode bm_Mo_update 63 = .ok (.ireturn, 1) := by decide +kernel
theorem dd_Mo_update_64 : decode bm_Mo_update 64 = .ok (.aload_n 0, 1) := by decide +kernel
theorem dd_Mo_update_65 : decode bm_Mo_update 65 = .ok (.getfield 13, 3) := by decide +kernel
theorem dd_Mo_update_68 : decode bm_Mo_update 68 = .ok (.sipush 1100, 3) := by decide +kernel
theorem dd_Mo_update_71 : decode bm_Mo_update 71 = .ok (.iload_n 1, 1) := by decide +kernel
theorem dd_Mo_update_72 : decode bm_Mo_update 72 = .ok (.imul, 1) := by decide +kernel
theorem dd_Mo_update_73 : decode bm_Mo_update 73 = .ok (.iload_n 2, 1) := by decide +kernel
theorem dd_Mo_update_74 : decode bm_Mo_update 74 = .ok (.iadd, 1) := by decide +kernel
theorem dd_Mo_update_75 : decode bm_Mo_update 75 = .ok (.iconst 1, 1) := by decide +kernel
theorem dd_Mo_update_76 : decode bm_Mo_update 76 = .ok (.bastore, 1) := by decide +kernel
theorem dd_Mo_update_77 : decode bm_Mo_update 77 = .ok (.aload_n 0, 1) := by decide +kernel
theorem dd_Mo_update_78 : decode bm_Mo_update 78 = .ok (.getfield 17, 3) := by decide +kernel
theorem dd_Mo_update_81 : decode bm_Mo_update 81 = .ok (.iload_n 1, 1) := by decide +kernel
theorem dd_Mo_update_82 : decode bm_Mo_update 82 = .ok (.iload_n 2, 1) := by decide +kernel
theorem dd_Mo_update_83 : decode bm_Mo_update 83 = .ok (.aload_n 0, 1) := by decide +kernel
theorem dd_Mo_update_84 : decode bm_Mo_update 84 = .ok (.getfield 17, 3) := by decide +kernel
theorem dd_Mo_update_87 : decode bm_Mo_update 87 = .ok (.iload_n 1, 1) := by decide +kernel
theorem dd_Mo_update_88 : decode bm_Mo_update 88 = .ok (.iaload, 1) := by decide +kernel
theorem dd_Mo_update_89 : decode bm_Mo_update 89 = .ok (.if_icmp .le 7, 3) := by decide +kernel
theorem dd_Mo_update_92 : decode bm_Mo_update 92 = .ok (.iload_n 2, 1) := by decide +kernel
theorem dd_Mo_update_93 : decode bm_Mo_update 93 = .ok (.goto 9, 3) := by decide +kernel
theorem dd_Mo_update_96 : decode bm_Mo_update 96 = .ok (.aload_n 0, 1) := by decide +kernel
theorem dd_Mo_update_97 : decode bm_Mo_update 97 = .ok (.getfield 17, 3) := by decide +kernel
theorem dd_Mo_update_100 : decode bm_Mo_update 100 = .ok (.iload_n 1, 1) := by decide +kernel
theorem dd_Mo_update_101 : decode bm_Mo_update 101 = .ok (.iaload, 1) := by decide +kernel
theorem dd_Mo_update_102 : decode bm_Mo_update 102 = .ok (.iastore, 1) := by decide +kernel
theorem dd_Mo_update_103 : decode bm_Mo_update 103 = .ok (.iconst 0, 1) := by decide +kernel
theorem dd_Mo_update_104 : decode bm_Mo_update 104 = .ok (.ireturn, 1) := by decide +kernel
theorem dd_Mo_knows_0 : decode bm_Mo_knows 0 = .ok (.iload_n 1, 1) := by decide +kernel
theorem dd_Mo_knows_1 : decode bm_Mo_knows 1 = .ok (.iconst 0, 1) := by decide +kernel
theorem dd_Mo_knows_2 : decode bm_Mo_knows 2 = .ok (.iconst 1, 1) := by decide +kernel
theorem dd_Mo_knows_3 : decode bm_Mo_knows 3 = .ok (.invokestatic 91, 3) := by decide +kernel
theorem dd_Mo_knows_6 : decode bm_Mo_knows 6 = .ok (.ifCond .ne 33, 3) := by decide +kernel
theorem dd_Mo_knows_9 : decode bm_Mo_knows 9 = .ok (.iload_n 2, 1) := by decide +kernel
theorem dd_Mo_knows_10 : decode bm_Mo_knows 10 = .ok (.iconst 1, 1) := by decide +kernel
theorem dd_Mo_knows_11 : decode bm_Mo_knows 11 = .ok (.sipush 1099, 3) := by decide +kernel
theorem dd_Mo_knows_14 : decode bm_Mo_knows 14 = .ok (.invokestatic 91, 3) := by decide +kernel
theorem dd_Mo_knows_17 : decode bm_Mo_knows 17 = .ok (.ifCond .ne 22, 3) := by decide +kernel
theorem dd_Mo_knows_20 : decode bm_Mo_knows 20 = .ok (.aload_n 0, 1) := by decide +kernel
theorem dd_Mo_knows_21 : decode bm_Mo_knows 21 = .ok (.getfield 13, 3) := by decide +kernel
theorem dd_Mo_knows_24 : decode bm_Mo_knows 24 = .ok (.sipush 1100, 3) := by decide +kernel
theorem dd_Mo_knows_27 : decode bm_Mo_knows 27 = .ok (.iload_n 1, 1) := by decide +kernel
theorem dd_Mo_knows_28 : decode bm_Mo_knows 28 = .ok (.imul, 1) := by decide +kernel
theorem dd_Mo_knows_29 : decode bm_Mo_knows 29 = .ok (.iload_n 2, 1) := by decide +kernel
theorem dd_Mo_knows_30 : decode bm_Mo_knows 30 = .ok (.iadd, 1) := by decide +kernel
theorem dd_Mo_knows_31 : decode bm_Mo_knows 31 = .ok (.baload, 1) := by decide +kernel
theorem dd_Mo_knows_32 : decode bm_Mo_knows 32 = .ok (.ifCond .eq 7, 3) := by decide +kernel
theorem dd_Mo_knows_35 : decode bm_Mo_knows 35 = .ok (.iconst 1, 1) := by decide +kernel
theorem dd_Mo_knows_36 : decode bm_Mo_knows 36 = .ok (.goto 4, 3) := by decide +kernel
theorem dd_Mo_knows_39 : decode bm_Mo_knows 39 = .ok (.iconst 0, 1) := by decide +kernel
theorem dd_Mo_knows_40 : decode bm_Mo_knows 40 = .ok (.ireturn, 1) := by decide +kernel
theorem dd_Mo_proof_0 : decode bm_Mo_proof 0 = .ok (.iconst 1, 1) := by decide +kernel
theorem dd_Mo_proof_1 : decode bm_Mo_proof 1 = .ok (.iload_n 1, 1) := by decide +kernel
theorem dd_Mo_proof_2 : decode bm_Mo_proof 2 = .ok (.isub, 1) := by decide +kernel
theorem dd_Mo_proof_3 : decode bm_Mo_proof 3 = .ok (.istore 6, 2) := by decide +kernel
theorem dd_Mo_proof_5 : decode bm_Mo_proof 5 = .ok (.aload_n 0, 1) := by decide +kernel
theorem dd_Mo_proof_6 : decode bm_Mo_proof 6 = .ok (.iload_n 1, 1) := by decide +kernel
theorem dd_Mo_proof_7 : decode bm_Mo_proof 7 = .ok (.iload_n 2, 1) := by decide +kernel
theorem dd_Mo_proof_8 : decode bm_Mo_proof 8 = .ok (.invokevirtual 110, 3) := by decide +kernel
theorem dd_Mo_proof_11 : decode bm_Mo_proof 11 = .ok (.ifCond .ne 6, 3) := by decide +kernel
theorem dd_Mo_proof_14 : decode bm_Mo_proof 14 = .ok (.bipush (-3), 2) := by decide +kernel
theorem dd_Mo_proof_16 : decode bm_Mo_proof 16 = .ok (.ireturn, 1) := by decide +kernel
theorem dd_Mo_proof_17 : decode bm_Mo_proof 17 = .ok (.aload_n 0, 1) := by decide +kernel
theorem dd_Mo_proof_18 : decode bm_Mo_proof 18 = .ok (.iload 6, 2) := by decide +kernel
theorem dd_Mo_proof_20 : decode bm_Mo_proof 20 = .ok (.iload_n 2, 1) := by decide +kernel
theorem dd_Mo_proof_21 : decode bm_Mo_proof 21 = .ok (.invokevirtual 114, 3) := by decide +kernel
theorem dd_Mo_proof_24 : decode bm_Mo_proof 24 = .ok (.ifCond .ne 6, 3) := by decide +kernel
theorem dd_Mo_proof_27 : decode bm_Mo_proof 27 = .ok (.bipush (-4), 2) := by decide +kernel
theorem dd_Mo_proof_29 : decode bm_Mo_proof 29 = .ok (.ireturn, 1) := by decide +kernel
theorem dd_Mo_proof_30 : decode bm_Mo_proof 30 = .ok (.bipush 8, 2) := by decide +kernel
theorem dd_Mo_proof_32 : decode bm_Mo_proof 32 = .ok (.iload 6, 2) := by decide +kernel
theorem dd_Mo_proof_34 : decode bm_Mo_proof 34 = .ok (.imul, 1) := by decide +kernel
theorem dd_Mo_proof_35 : decode bm_Mo_proof 35 = .ok (.iload_n 2, 1) := by decide +kernel
theorem dd_Mo_proof_36 : decode bm_Mo_proof 36 = .ok (.bipush 8, 2) := by decide +kernel
theorem dd_Mo_proof_38 : decode bm_Mo_proof 38 = .ok (.irem, 1) := by decide +kernel
theorem dd_Mo_proof_39 : decode bm_Mo_proof 39 = .ok (.iadd, 1) := by decide +kernel
theorem dd_Mo_proof_40 : decode bm_Mo_proof 40 = .ok (.istore 7, 2) := by decide +kernel
theorem dd_Mo_proof_42 : decode bm_Mo_proof 42 = .ok (.sipush 128, 3) := by decide +kernel
theorem dd_Mo_proof_45 : decode bm_Mo_proof 45 = .ok (.iload 7, 2) := by decide +kernel
theorem dd_Mo_proof_47 : decode bm_Mo_proof 47 = .ok (.imul, 1) := by decide +kernel
theorem dd_Mo_proof_48 : decode bm_Mo_proof 48 = .ok (.istore 8, 2) := by decide +kernel
theorem dd_Mo_proof_50 : decode bm_Mo_proof 50 = .ok (.iload 8, 2) := by decide +kernel
theorem dd_Mo_proof_52 : decode bm_Mo_proof 52 = .ok (.sipush 128, 3) := by decide +kernel
theorem dd_Mo_proof_55 : decode bm_Mo_proof 55 = .ok (.iload 7, 2) := by decide +kernel
theorem dd_Mo_proof_57 : decode bm_Mo_proof 57 = .ok (.imul, 1) := by decide +kernel
theorem dd_Mo_proof_58 : decode bm_Mo_proof 58 = .ok (.aload_n 0, 1) := by decide +kernel
theorem dd_Mo_proof_59 : decode bm_Mo_proof 59 = .ok (.getfield 20, 3) := by decide +kernel
theorem dd_Mo_proof_62 : decode bm_Mo_proof 62 = .ok (.iload 7, 2) := by decide +kernel
theorem dd_Mo_proof_64 : decode bm_Mo_proof 64 = .ok (.iaload, 1) := by decide +kernel
theorem dd_Mo_proof_65 : decode bm_Mo_proof 65 = .ok (.iadd, 1) := by decide +kernel
theorem dd_Mo_proof_66 : decode bm_Mo_proof 66 = .ok (.if_icmp .ge 44, 3) := by decide +kernel
theorem dd_Mo_proof_69 : decode bm_Mo_proof 69 = .ok (.aload_n 0, 1) := by decide +kernel
theorem dd_Mo_proof_70 : decode bm_Mo_proof 70 = .ok (.getfield 23, 3) := by decide +kernel
theorem dd_Mo_proof_73 : decode bm_Mo_proof 73 = .ok (.iload 8, 2) := by decide +kernel
theorem dd_Mo_proof_75 : decode bm_Mo_proof 75 = .ok (.iaload, 1) := by decide +kernel
theorem dd_Mo_proof_76 : decode bm_Mo_proof 76 = .ok (.iload_n 3, 1) := by decide +kernel
theorem dd_Mo_proof_77 : decode bm_Mo_proof 77 = .ok (.if_icmp .ne 27, 3) := by decide +kernel
theorem dd_Mo_proof_80 : decode bm_Mo_proof 80 = .ok (.iload 4, 2) := by decide +kernel
theorem dd_Mo_proof_82 : decode bm_Mo_proof 82 = .ok (.ifCond .ne 19, 3) := by decide +kernel
theorem dd_Mo_proof_85 : decode bm_Mo_proof 85 = .ok (.aload_n 0, 1) := by decide +kernel
theorem dd_Mo_proof_86 : decode bm_Mo_proof 86 = .ok (.getfield 26, 3) := by decide +kernel
theorem dd_Mo_proof_89 : decode bm_Mo_proof 89 = .ok (.iload 8, 2) := by decide +kernel
theorem dd_Mo_proof_91 : decode bm_Mo_proof 91 = .ok (.iaload, 1) := by decide +kernel
theorem dd_Mo_proof_92 : decode bm_Mo_proof 92 = .ok (.iload 5, 2) := by decide +kernel
theorem dd_Mo_proof_94 : decode bm_Mo_proof 94 = .ok (.if_icmp .ne 7, 3) := by decide +kernel
theorem dd_Mo_proof_97 : decode bm_Mo_proof 97 = .ok (.iconst 0, 1) := by decide +kernel
theorem dd_Mo_proof_98 : decode bm_Mo_proof 98 = .ok (.goto 5, 3) := by decide +kernel
theorem dd_Mo_proof_101 : decode bm_Mo_proof 101 = .ok (.bipush (-5), 2) := by decide +kernel
theorem dd_Mo_proof_103 : decode bm_Mo_proof 103 = .ok (.ireturn, 1) := by decide +kernel
theorem dd_Mo_proof_104 : decode bm_Mo_proof 104 = .ok (.iinc 8 1, 3) := by decide +kernel
theorem dd_Mo_proof_107 : decode bm_Mo_proof 107 = .ok (.goto (-57), 3) := by decide +kernel
theorem dd_Mo_proof_110 : decode bm_Mo_proof 110 = .ok (.iload 4, 2) := by decide +kernel
theorem dd_Mo_proof_112 : decode bm_Mo_proof 112 = .ok (.ifCond .eq 7, 3) := by decide +kernel
theorem dd_Mo_proof_115 : decode bm_Mo_proof 115 = .ok (.iconst 0, 1) := by decide +kernel
theorem dd_Mo_proof_116 : decode bm_Mo_proof 116 = .ok (.goto 5, 3) := by decide +kernel
theorem dd_Mo_proof_119 : decode bm_Mo_proof 119 = .ok (.bipush (-5), 2) := by decide +kernel
theorem dd_Mo_proof_121 : decode bm_Mo_proof 121 = .ok (.ireturn, 1) := by decide +kernel
theorem dd_Mo_root_0 : decode bm_Mo_root 0 = .ok (.iload_n 1, 1) := by decide +kernel
theorem dd_Mo_root_1 : decode bm_Mo_root 1 = .ok (.iconst 0, 1) := by decide +kernel
theorem dd_Mo_root_2 : decode bm_Mo_root 2 = .ok (.iconst 1, 1) := by decide +kernel
theorem dd_Mo_root_3 : decode bm_Mo_root 3 = .ok (.invokestatic 91, 3) := by decide +kernel
theorem dd_Mo_root_6 : decode bm_Mo_root 6 = .ok (.ifCond .ne 12, 3) := by decide +kernel
theorem dd_Mo_root_9 : decode bm_Mo_root 9 = .ok (.aload_n 0, 1) := by decide +kernel
theorem dd_Mo_root_10 : decode bm_Mo_root 10 = .ok (.iload_n 1, 1) := by decide +kernel
theorem dd_Mo_root_11 : decode bm_Mo_root 11 = .ok (.iload_n 2, 1) := by decide +kernel
theorem dd_Mo_root_12 : decode bm_Mo_root 12 = .ok (.invokevirtual 114, 3) := by decide +kernel
theorem dd_Mo_root_15 : decode bm_Mo_root 15 = .ok (.ifCond .ne 5, 3) := by decide +kernel
theorem dd_Mo_root_18 : decode bm_Mo_root 18 = .ok (.iconst 0, 1) := by decide +kernel
theorem dd_Mo_root_19 : decode bm_Mo_root 19 = .ok (.ireturn, 1) := by decide +kernel
theorem dd_Mo_root_20 : decode bm_Mo_root 20 = .ok (.bipush 8, 2) := by decide +kernel
theorem dd_Mo_root_22 : decode bm_Mo_root 22 = .ok (.iload_n 1, 1) := by decide +kernel
theorem dd_Mo_root_23 : decode bm_Mo_root 23 = .ok (.imul, 1) := by decide +kernel
theorem dd_Mo_root_24 : decode bm_Mo_root 24 = .ok (.iload_n 2, 1) := by decide +kernel
theorem dd_Mo_root_25 : decode bm_Mo_root 25 = .ok (.bipush 8, 2) := by decide +kernel
theorem dd_Mo_root_27 : decode bm_Mo_root 27 = .ok (.irem, 1) := by decide +kernel
theorem dd_Mo_root_28 : decode bm_Mo_root 28 = .ok (.iadd, 1) := by decide +kernel
theorem dd_Mo_root_29 : decode bm_Mo_root 29 = .ok (.istore_n 3, 1) := by decide +kernel
theorem dd_Mo_root_30 : decode bm_Mo_root 30 = .ok (.iconst 0, 1) := by decide +kernel
theorem dd_Mo_root_31 : decode bm_Mo_root 31 = .ok (.istore 4, 2) := by decide +kernel
theorem dd_Mo_root_33 : decode bm_Mo_root 33 = .ok (.sipush 128, 3) := by decide +kernel
theorem dd_Mo_root_36 : decode bm_Mo_root 36 = .ok (.iload_n 3, 1) := by decide +kernel
theorem dd_Mo_root_37 : decode bm_Mo_root 37 = .ok (.imul, 1) := by decide +kernel
theorem dd_Mo_root_38 : decode bm_Mo_root 38 = .ok (.istore 5, 2) := by decide +kernel
theorem dd_Mo_root_40 : decode bm_Mo_root 40 = .ok (.iload 5, 2) := by decide +kernel
theorem dd_Mo_root_42 : decode bm_Mo_root 42 = .ok (.sipush 128, 3) := by decide +kernel
theorem dd_Mo_root_45 : decode bm_Mo_root 45 = .ok (.iload_n 3, 1) := by decide +kernel
theorem dd_Mo_root_46 : decode bm_Mo_root 46 = .ok (.imul, 1) := by decide +kernel
theorem dd_Mo_root_47 : decode bm_Mo_root 47 = .ok (.aload_n 0, 1) := by decide +kernel
theorem dd_Mo_root_48 : decode bm_Mo_root 48 = .ok (.getfield 20, 3) := by decide +kernel
theorem dd_Mo_root_51 : decode bm_Mo_root 51 = .ok (.iload_n 3, 1) := by decide +kernel
theorem dd_Mo_root_52 : decode bm_Mo_root 52 = .ok (.iaload, 1) := by decide +kernel
theorem dd_Mo_root_53 : decode bm_Mo_root 53 = .ok (.iadd, 1) := by decide +kernel
theorem dd_Mo_root_54 : decode bm_Mo_root 54 = .ok (.if_icmp .ge 86, 3) := by decide +kernel
theorem dd_Mo_root_57 : decode bm_Mo_root 57 = .ok (.aload_n 0, 1) := by decide +kernel
theorem dd_Mo_root_58 : decode bm_Mo_root 58 = .ok (.getfield 80, 3) := by decide +kernel
theorem dd_Mo_root_61 : decode bm_Mo_root 61 = .ok (.iload 4, 2) := by decide +kernel
theorem dd_Mo_root_63 : decode bm_Mo_root 63 = .ok (.iconst 1, 1) := by decide +kernel
theorem dd_Mo_root_64 : decode bm_Mo_root 64 = .ok (.aload_n 0, 1) := by decide +kernel
theorem dd_Mo_root_65 : decode bm_Mo_root 65 = .ok (.getfield 23, 3) := by decide +kernel
theorem dd_Mo_root_68 : decode bm_Mo_root 68 = .ok (.iload 5, 2) := by decide +kernel
theorem dd_Mo_root_70 : decode bm_Mo_root 70 = .ok (.iaload, 1) := by decide +kernel
theorem dd_Mo_root_71 : decode bm_Mo_root 71 = .ok (.invokestatic 107, 3) := by decide +kernel
theorem dd_Mo_root_74 : decode bm_Mo_root 74 = .ok (.aload_n 0, 1) := by decide +kernel
theorem dd_Mo_root_75 : decode bm_Mo_root 75 = .ok (.getfield 26, 3) := by decide +kernel
theorem dd_Mo_root_78 : decode bm_Mo_root 78 = .ok (.iload 5, 2) := by decide +kernel
theorem dd_Mo_root_80 : decode bm_Mo_root 80 = .ok (.iaload, 1) := by decide +kernel
theorem dd_Mo_root_81 : decode bm_Mo_root 81 = .ok (.invokestatic 107, 3) := by decide +kernel
theorem dd_Mo_root_84 : decode bm_Mo_root 84 = .ok (.iastore, 1) := by decide +kernel
theorem dd_Mo_root_85 : decode bm_Mo_root 85 = .ok (.aload_n 0, 1) := by decide +kernel
theorem dd_Mo_root_86 : decode bm_Mo_root 86 = .ok (.getfield 83, 3) := by decide +kernel
theorem dd_Mo_root_89 : decode bm_Mo_root 89 = .ok (.iload 4, 2) := by decide +kernel
theorem dd_Mo_root_91 : decode bm_Mo_root 91 = .ok (.iconst 1, 1) := by decide +kernel
theorem dd_Mo_root_92 : decode bm_Mo_root 92 = .ok (.iastore, 1) := by decide +kernel
theorem dd_Mo_root_93 : decode bm_Mo_root 93 = .ok (.iinc 4 1, 3) := by decide +kernel
theorem dd_Mo_root_96 : decode bm_Mo_root 96 = .ok (.iload 4, 2) := by decide +kernel
theorem dd_Mo_root_98 : decode bm_Mo_root 98 = .ok (.iconst 1, 1) := by decide +kernel
theorem dd_Mo_root_99 : decode bm_Mo_root 99 = .ok (.if_icmp .le 35, 3) := by decide +kernel
theorem dd_Mo_root_102 : decode bm_Mo_root 102 = .ok (.aload_n 0, 1) := by decide +kernel
theorem dd_Mo_root_103 : decode bm_Mo_root 103 = .ok (.getfield 83, 3) := by decide +kernel
theorem dd_Mo_root_106 : decode bm_Mo_root 106 = .ok (.iload 4, 2) := by decide +kernel
theorem dd_Mo_root_108 : decode bm_Mo_root 108 = .ok (.iconst 2, 1) := by decide +kernel
theorem dd_Mo_root_109 : decode bm_Mo_root 109 = .ok (.isub, 1) := by decide +kernel
theorem dd_Mo_root_110 : decode bm_Mo_root 110 = .ok (.iaload, 1) := by decide +kernel
theorem dd_Mo_root_111 : decode bm_Mo_root 111 = .ok (.aload_n 0, 1) := by decide +kernel
theorem dd_Mo_root_112 : decode bm_Mo_root 112 = .ok (.getfield 83, 3) := by decide +kernel
theorem dd_Mo_root_115 : decode bm_Mo_root 115 = .ok (.iload 4, 2) := by decide +kernel
theorem dd_Mo_root_117 : decode bm_Mo_root 117 = .ok (.iconst 1, 1) := by decide +kernel
theorem dd_Mo_root_118 : decode bm_Mo_root 118 = .ok (.isub, 1) := by decide +kernel
theorem dd_Mo_root_119 : decode bm_Mo_root 119 = .ok (.iaload, 1) := by decide +kernel
theorem dd_Mo_root_120 : decode bm_Mo_root 120 = .ok (.if_icmp .ne 14, 3) := by decide +kernel
theorem dd_Mo_root_123 : decode bm_Mo_root 123 = .ok (.aload_n 0, 1) := by decide +kernel
theorem dd_Mo_root_124 : decode bm_Mo_root 124 = .ok (.iload 4, 2) := by decide +kernel
theorem dd_Mo_root_126 : decode bm_Mo_root 126 = .ok (.invokevirtual 117, 3) := by decide +kernel
theorem dd_Mo_root_129 : decode bm_Mo_root 129 = .ok (.istore 4, 2) := by decide +kernel
theorem dd_Mo_root_131 : decode bm_Mo_root 131 = .ok (.goto (-35), 3) := by decide +kernel
theorem dd_Mo_root_134 : decode bm_Mo_root 134 = .ok (.iinc 5 1, 3) := by decide +kernel
theorem dd_Mo_root_137 : decode bm_Mo_root 137 = .ok (.goto (-97), 3) := by decide +kernel
theorem dd_Mo_root_140 : decode bm_Mo_root 140 = .ok (.iload 4, 2) := by decide +kernel
theorem dd_Mo_root_142 : decode bm_Mo_root 142 = .ok (.iconst 1, 1) := by decide +kernel
theorem dd_Mo_root_143 : decode bm_Mo_root 143 = .ok (.if_icmp .le 14, 3) := by decide +kernel
theorem dd_Mo_root_146 : decode bm_Mo_root 146 = .ok (.aload_n 0, 1) := by decide +kernel
theorem dd_Mo_root_147 : decode bm_Mo_root 147 = .ok (.iload 4, 2) := by decide +kernel
theorem dd_Mo_root_149 : decode bm_Mo_root 149 = .ok (.invokevirtual 117, 3) := by decide +kernel
theorem dd_Mo_root_152 : decode bm_Mo_root 152 = .ok (.istore 4, 2) := by decide +kernel
theorem dd_Mo_root_154 : decode bm_Mo_root 154 = .ok (.goto (-14), 3) := by decide +kernel
theorem dd_Mo_root_157 : decode bm_Mo_root 157 = .ok (.iload 4, 2) := by decide +kernel
theorem dd_Mo_root_159 : decode bm_Mo_root 159 = .ok (.ifCond .ne 7, 3) := by decide +kernel
theorem dd_Mo_root_162 : decode bm_Mo_root 162 = .ok (.iconst 0, 1) := by decide +kernel
theorem dd_Mo_root_163 : decode bm_Mo_root 163 = .ok (.goto 9, 3) := by decide +kernel
theorem dd_Mo_root_166 : decode bm_Mo_root 166 = .ok (.aload_n 0, 1) := by decide +kernel
theorem dd_Mo_root_167 : decode bm_Mo_root 167 = .ok (.getfield 80, 3) := by decide +kernel
theorem dd_Mo_root_170 : decode bm_Mo_root 170 = .ok (.iconst 0, 1) := by decide +kernel
theorem dd_Mo_root_171 : decode bm_Mo_root 171 = .ok (.iaload, 1) := by decide +kernel
theorem dd_Mo_root_172 : decode bm_Mo_root 172 = .ok (.ireturn, 1) := by decide +kernel
theorem dd_Mo_join_0 : decode bm_Mo_join 0 = .ok (.aload_n 0, 1) := by decide +kernel
theorem dd_Mo_join_1 : decode bm_Mo_join 1 = .ok (.getfield 80, 3) := by decide +kernel
theorem dd_Mo_join_4 : decode bm_Mo_join 4 = .ok (.iload_n 1, 1) := by decide +kernel
theorem dd_Mo_join_5 : decode bm_Mo_join 5 = .ok (.iconst 2, 1) := by decide +kernel
theorem dd_Mo_join_6 : decode bm_Mo_join 6 = .ok (.isub, 1) := by decide +kernel
theorem dd_Mo_join_7 : decode bm_Mo_join 7 = .ok (.iconst 2, 1) := by decide +kernel
theorem dd_Mo_join_8 : decode bm_Mo_join 8 = .ok (.aload_n 0, 1) := by decide +kernel
theorem dd_Mo_join_9 : decode bm_Mo_join 9 = .ok (.getfield 80, 3) := by decide +kernel
theorem dd_Mo_join_12 : decode bm_Mo_join 12 = .ok (.iload_n 1, 1) := by decide +kernel
theorem dd_Mo_join_13 : decode bm_Mo_join 13 = .ok (.iconst 2, 1) := by decide +kernel
theorem dd_Mo_join_14 : decode bm_Mo_join 14 = .ok (.isub, 1) := by decide +kernel
theorem dd_Mo_join_15 : decode bm_Mo_join 15 = .ok (.iaload, 1) := by decide +kernel
theorem dd_Mo_join_16 : decode bm_Mo_join 16 = .ok (.invokestatic 107, 3) := by decide +kernel
theorem dd_Mo_join_19 : decode bm_Mo_join 19 = .ok (.aload_n 0, 1) := by decide +kernel
theorem dd_Mo_join_20 : decode bm_Mo_join 20 = .ok (.getfield 80, 3) := by decide +kernel
theorem dd_Mo_join_23 : decode bm_Mo_join 23 = .ok (.iload_n 1, 1) := by decide +kernel
theorem dd_Mo_join_24 : decode bm_Mo_join 24 = .ok (.iconst 1, 1) := by decide +kernel
theorem dd_Mo_join_25 : decode bm_Mo_join 25 = .ok (.isub, 1) := by decide +kernel
theorem dd_Mo_join_26 : decode bm_Mo_join 26 = .ok (.iaload, 1) := by decide +kernel
theorem dd_Mo_join_27 : decode bm_Mo_join 27 = .ok (.invokestatic 107, 3) := by decide +kernel
theorem dd_Mo_join_30 : decode bm_Mo_join 30 = .ok (.iastore, 1) := by decide +kernel
theorem dd_Mo_join_31 : decode bm_Mo_join 31 = .ok (.aload_n 0, 1) := by decide +kernel
theorem dd_Mo_join_32 : decode bm_Mo_join 32 = .ok (.getfield 83, 3) := by decide +kernel
theorem dd_Mo_join_35 : decode bm_Mo_join 35 = .ok (.iload_n 1, 1) := by decide +kernel
theorem dd_Mo_join_36 : decode bm_Mo_join 36 = .ok (.iconst 2, 1) := by decide +kernel
theorem dd_Mo_join_37 : decode bm_Mo_join 37 = .ok (.isub, 1) := by decide +kernel
theorem dd_Mo_join_38 : decode bm_Mo_join 38 = .ok (.aload_n 0, 1) := by decide +kernel
theorem dd_Mo_join_39 : decode bm_Mo_join 39 = .ok (.getfield 83, 3) := by decide +kernel
theorem dd_Mo_join_42 : decode bm_Mo_join 42 = .ok (.iload_n 1, 1) := by decide +kernel
theorem dd_Mo_join_43 : decode bm_Mo_join 43 = .ok (.iconst 2, 1) := by decide +kernel
theorem dd_Mo_join_44 : decode bm_Mo_join 44 = .ok (.isub, 1) := by decide +kernel
theorem dd_Mo_join_45 : decode bm_Mo_join 45 = .ok (.iaload, 1) := by decide +kernel
theorem dd_Mo_join_46 : decode bm_Mo_join 46 = .ok (.aload_n 0, 1) := by decide +kernel
theorem dd_Mo_join_47 : decode bm_Mo_join 47 = .ok (.getfield 83, 3) := by decide +kernel
theorem dd_Mo_join_50 : decode bm_Mo_join 50 = .ok (.iload_n 1, 1) := by decide +kernel
theorem dd_Mo_join_51 : decode bm_Mo_join 51 = .ok (.iconst 1, 1) := by decide +kernel
theorem dd_Mo_join_52 : decode bm_Mo_join 52 = .ok (.isub, 1) := by decide +kernel
theorem dd_Mo_join_53 : decode bm_Mo_join 53 = .ok (.iaload, 1) := by decide +kernel
theorem dd_Mo_join_54 : decode bm_Mo_join 54 = .ok (.iadd, 1) := by decide +kernel
theorem dd_Mo_join_55 : decode bm_Mo_join 55 = .ok (.iastore, 1) := by decide +kernel
theorem dd_Mo_join_56 : decode bm_Mo_join 56 = .ok (.iload_n 1, 1) := by decide +kernel
theorem dd_Mo_join_57 : decode bm_Mo_join 57 = .ok (.iconst 1, 1) := by decide +kernel
theorem dd_Mo_join_58 : decode bm_Mo_join 58 = .ok (.isub, 1) := by decide +kernel
theorem dd_Mo_join_59 : decode bm_Mo_join 59 = .ok (.ireturn, 1) := by decide +kernel
theorem dd_Mo_isEnd_0 : decode bm_Mo_isEnd 0 = .ok (.iload_n 0, 1) := by decide +kernel
theorem dd_Mo_isEnd_1 : decode bm_Mo_isEnd 1 = .ok (.iconst 0, 1) := by decide +kernel
theorem dd_Mo_isEnd_2 : decode bm_Mo_isEnd 2 = .ok (.iconst 1, 1) := by decide +kernel
theorem dd_Mo_isEnd_3 : decode bm_Mo_isEnd 3 = .ok (.invokestatic 91, 3) := by decide +kernel
theorem dd_Mo_isEnd_6 : decode bm_Mo_isEnd 6 = .ok (.ifCond .ne 16, 3) := by decide +kernel
theorem dd_Mo_isEnd_9 : decode bm_Mo_isEnd 9 = .ok (.iload_n 1, 1) := by decide +kernel
theorem dd_Mo_isEnd_10 : decode bm_Mo_isEnd 10 = .ok (.iconst 0, 1) := by decide +kernel
theorem dd_Mo_isEnd_11 : decode bm_Mo_isEnd 11 = .ok (.iconst 2, 1) := by decide +kernel
theorem dd_Mo_isEnd_12 : decode bm_Mo_isEnd 12 = .ok (.invokestatic 91, 3) := by decide +kernel
theorem dd_Mo_isEnd_15 : decode bm_Mo_isEnd 15 = .ok (.ifCond .ne 7, 3) := by decide +kernel
theorem dd_Mo_isEnd_18 : decode bm_Mo_isEnd 18 = .ok (.iconst 1, 1) := by decide +kernel
theorem dd_Mo_isEnd_19 : decode bm_Mo_isEnd 19 = .ok (.goto 4, 3) := by decide +kernel
theorem dd_Mo_isEnd_22 : decode bm_Mo_isEnd 22 = .ok (.iconst 0, 1) := by decide +kernel
theorem dd_Mo_isEnd_23 : decode bm_Mo_isEnd 23 = .ok (.ireturn, 1) := by decide +kernel
theorem dd_Mo_flag_0 : decode bm_Mo_flag 0 = .ok (.iload_n 0, 1) := by decide +kernel
theorem dd_Mo_flag_1 : decode bm_Mo_flag 1 = .ok (.ifCond .eq 7, 3) := by decide +kernel
theorem dd_Mo_flag_4 : decode bm_Mo_flag 4 = .ok (.iconst 1, 1) := by decide +kernel
theorem dd_Mo_flag_5 : decode bm_Mo_flag 5 = .ok (.goto 4, 3) := by decide +kernel
theorem dd_Mo_flag_8 : decode bm_Mo_flag 8 = .ok (.iconst 0, 1) := by decide +kernel
theorem dd_Mo_flag_9 : decode bm_Mo_flag 9 = .ok (.ireturn, 1) := by decide +kernel
theorem dd_Mo_init_0 : decode bm_Mo_init 0 = .ok (.iload_n 1, 1) := by decide +kernel
theorem dd_Mo_init_1 : decode bm_Mo_init 1 = .ok (.iload_n 2, 1) := by decide +kernel
theorem dd_Mo_init_2 : decode bm_Mo_init 2 = .ok (.invokestatic 121, 3) := by decide +kernel
theorem dd_Mo_init_5 : decode bm_Mo_init 5 = .ok (.ifCond .ne 5, 3) := by decide +kernel
theorem dd_Mo_init_8 : decode bm_Mo_init 8 = .ok (.iconst (-1), 1) := by decide +kernel
theorem dd_Mo_init_9 : decode bm_Mo_init 9 = .ok (.ireturn, 1) := by decide +kernel
theorem dd_Mo_init_10 : decode bm_Mo_init 10 = .ok (.iconst 3, 1) := by decide +kernel
theorem dd_Mo_init_11 : decode bm_Mo_init 11 = .ok (.iload_n 1, 1) := by decide +kernel
theorem dd_Mo_init_12 : decode bm_Mo_init 12 = .ok (.imul, 1) := by decide +kernel
theorem dd_Mo_init_13 : decode bm_Mo_init 13 = .ok (.iload_n 2, 1) := by decide +kernel
theorem dd_Mo_init_14 : decode bm_Mo_init 14 = .ok (.iadd, 1) := by decide +kernel
theorem dd_Mo_init_15 : decode bm_Mo_init 15 = .ok (.istore 4, 2) := by decide +kernel
theorem dd_Mo_init_17 : decode bm_Mo_init 17 = .ok (.aload_n 0, 1) := by decide +kernel
theorem dd_Mo_init_18 : decode bm_Mo_init 18 = .ok (.getfield 29, 3) := by decide +kernel
theorem dd_Mo_init_21 : decode bm_Mo_init 21 = .ok (.iload 4, 2) := by decide +kernel
theorem dd_Mo_init_23 : decode bm_Mo_init 23 = .ok (.iaload, 1) := by decide +kernel
theorem dd_Mo_init_24 : decode bm_Mo_init 24 = .ok (.ifCond .eq 6, 3) := by decide +kernel
theorem dd_Mo_init_27 : decode bm_Mo_init 27 = .ok (.bipush (-2), 2) := by decide +kernel
theorem dd_Mo_init_29 : decode bm_Mo_init 29 = .ok (.ireturn, 1) := by decide +kernel
theorem dd_Mo_init_30 : decode bm_Mo_init 30 = .ok (.aload_n 0, 1) := by decide +kernel
theorem dd_Mo_init_31 : decode bm_Mo_init 31 = .ok (.getfield 29, 3) := by decide +kernel
theorem dd_Mo_init_34 : decode bm_Mo_init 34 = .ok (.iload 4, 2) := by decide +kernel
theorem dd_Mo_init_36 : decode bm_Mo_init 36 = .ok (.iconst 1, 1) := by decide +kernel
theorem dd_Mo_init_37 : decode bm_Mo_init 37 = .ok (.iastore, 1) := by decide +kernel
theorem dd_Mo_init_38 : decode bm_Mo_init 38 = .ok (.aload_n 0, 1) := by decide +kernel
theorem dd_Mo_init_39 : decode bm_Mo_init 39 = .ok (.getfield 32, 3) := by decide +kernel
theorem dd_Mo_init_42 : decode bm_Mo_init 42 = .ok (.iload 4, 2) := by decide +kernel
theorem dd_Mo_init_44 : decode bm_Mo_init 44 = .ok (.iload_n 3, 1) := by decide +kernel
theorem dd_Mo_init_45 : decode bm_Mo_init 45 = .ok (.bastore, 1) := by decide +kernel
theorem dd_Mo_init_46 : decode bm_Mo_init 46 = .ok (.iconst 0, 1) := by decide +kernel
theorem dd_Mo_init_47 : decode bm_Mo_init 47 = .ok (.ireturn, 1) := by decide +kernel
