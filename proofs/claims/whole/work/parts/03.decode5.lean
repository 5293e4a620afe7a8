theorem dd_Mo_notReceived_0 : decode bm_Mo_notReceived 0 = .ok (.aload_n 0, 1) := by decide +kernel
theorem dd_Mo_notReceived_1 : decode bm_Mo_notReceived 1 = .ok (.getfield 32, 3) := by decide +kernel
theorem dd_Mo_notReceived_4 : decode bm_Mo_notReceived 4 = .ok (.iconst 3, 1) := by decide +kernel
theorem dd_Mo_notReceived_5 : decode bm_Mo_notReceived 5 = .ok (.iload_n 1, 1) := by decide +kernel
theorem dd_Mo_notReceived_6 : decode bm_Mo_notReceived 6 = .ok (.imul, 1) := by decide +kernel
theorem dd_Mo_notReceived_7 : decode bm_Mo_notReceived 7 = .ok (.iload_n 2, 1) := by decide +kernel
theorem dd_Mo_notReceived_8 : decode bm_Mo_notReceived 8 = .ok (.iadd, 1) := by decide +kernel
theorem dd_Mo_notReceived_9 : decode bm_Mo_notReceived 9 = .ok (.baload, 1) := by decide +kernel
theorem dd_Mo_notReceived_10 : decode bm_Mo_notReceived 10 = .ok (.ifCond .ne 23, 3) := by decide +kernel
theorem dd_Mo_notReceived_13 : decode bm_Mo_notReceived 13 = .ok (.aload_n 0, 1) := by decide +kernel
theorem dd_Mo_notReceived_14 : decode bm_Mo_notReceived 14 = .ok (.iload_n 1, 1) := by decide +kernel
theorem dd_Mo_notReceived_15 : decode bm_Mo_notReceived 15 = .ok (.iload 4, 2) := by decide +kernel
theorem dd_Mo_notReceived_17 : decode bm_Mo_notReceived 17 = .ok (.sipush 16384, 3) := by decide +kernel
theorem dd_Mo_notReceived_20 : decode bm_Mo_notReceived 20 = .ok (.bipush 64, 2) := by decide +kernel
theorem dd_Mo_notReceived_22 : decode bm_Mo_notReceived 22 = .ok (.iload_n 2, 1) := by decide +kernel
theorem dd_Mo_notReceived_23 : decode bm_Mo_notReceived 23 = .ok (.imul, 1) := by decide +kernel
theorem dd_Mo_notReceived_24 : decode bm_Mo_notReceived 24 = .ok (.iadd, 1) := by decide +kernel
theorem dd_Mo_notReceived_25 : decode bm_Mo_notReceived 25 = .ok (.iload_n 3, 1) := by decide +kernel
theorem dd_Mo_notReceived_26 : decode bm_Mo_notReceived 26 = .ok (.iadd, 1) := by decide +kernel
theorem dd_Mo_notReceived_27 : decode bm_Mo_notReceived 27 = .ok (.iconst 1, 1) := by decide +kernel
theorem dd_Mo_notReceived_28 : decode bm_Mo_notReceived 28 = .ok (.iconst 0, 1) := by decide +kernel
theorem dd_Mo_notReceived_29 : decode bm_Mo_notReceived 29 = .ok (.invokevirtual 128, 3) := by decide +kernel
theorem dd_Mo_notReceived_32 : decode bm_Mo_notReceived 32 = .ok (.ireturn, 1) := by decide +kernel
theorem dd_Mo_notReceived_33 : decode bm_Mo_notReceived 33 = .ok (.aload_n 0, 1) := by decide +kernel
theorem dd_Mo_notReceived_34 : decode bm_Mo_notReceived 34 = .ok (.getfield 38, 3) := by decide +kernel
theorem dd_Mo_notReceived_37 : decode bm_Mo_notReceived 37 = .ok (.iconst 3, 1) := by decide +kernel
theorem dd_Mo_notReceived_38 : decode bm_Mo_notReceived 38 = .ok (.iconst 1, 1) := by decide +kernel
theorem dd_Mo_notReceived_39 : decode bm_Mo_notReceived 39 = .ok (.iload_n 1, 1) := by decide +kernel
theorem dd_Mo_notReceived_40 : decode bm_Mo_notReceived 40 = .ok (.isub, 1) := by decide +kernel
theorem dd_Mo_notReceived_41 : decode bm_Mo_notReceived 41 = .ok (.imul, 1) := by decide +kernel
theorem dd_Mo_notReceived_42 : decode bm_Mo_notReceived 42 = .ok (.iload_n 2, 1) := by decide +kernel
theorem dd_Mo_notReceived_43 : decode bm_Mo_notReceived 43 = .ok (.iadd, 1) := by decide +kernel
theorem dd_Mo_notReceived_44 : decode bm_Mo_notReceived 44 = .ok (.iaload, 1) := by decide +kernel
theorem dd_Mo_notReceived_45 : decode bm_Mo_notReceived 45 = .ok (.istore 5, 2) := by decide +kernel
theorem dd_Mo_notReceived_47 : decode bm_Mo_notReceived 47 = .ok (.iload 5, 2) := by decide +kernel
theorem dd_Mo_notReceived_49 : decode bm_Mo_notReceived 49 = .ok (.iload_n 3, 1) := by decide +kernel
theorem dd_Mo_notReceived_50 : decode bm_Mo_notReceived 50 = .ok (.if_icmp .le 8, 3) := by decide +kernel
theorem dd_Mo_notReceived_53 : decode bm_Mo_notReceived 53 = .ok (.bipush (-5), 2) := by decide +kernel
theorem dd_Mo_notReceived_55 : decode bm_Mo_notReceived 55 = .ok (.goto 18, 3) := by decide +kernel
theorem dd_Mo_notReceived_58 : decode bm_Mo_notReceived 58 = .ok (.aload_n 0, 1) := by decide +kernel
theorem dd_Mo_notReceived_59 : decode bm_Mo_notReceived 59 = .ok (.iload_n 1, 1) := by decide +kernel
theorem dd_Mo_notReceived_60 : decode bm_Mo_notReceived 60 = .ok (.iload 4, 2) := by decide +kernel
theorem dd_Mo_notReceived_62 : decode bm_Mo_notReceived 62 = .ok (.sipush 8192, 3) := by decide +kernel
theorem dd_Mo_notReceived_65 : decode bm_Mo_notReceived 65 = .ok (.iload_n 2, 1) := by decide +kernel
theorem dd_Mo_notReceived_66 : decode bm_Mo_notReceived 66 = .ok (.iadd, 1) := by decide +kernel
theorem dd_Mo_notReceived_67 : decode bm_Mo_notReceived 67 = .ok (.iconst 0, 1) := by decide +kernel
theorem dd_Mo_notReceived_68 : decode bm_Mo_notReceived 68 = .ok (.iload 5, 2) := by decide +kernel
theorem dd_Mo_notReceived_70 : decode bm_Mo_notReceived 70 = .ok (.invokevirtual 128, 3) := by decide +kernel
theorem dd_Mo_notReceived_73 : decode bm_Mo_notReceived 73 = .ok (.ireturn, 1) := by decide +kernel
theorem dd_Mo_timeout_0 : decode bm_Mo_timeout 0 = .ok (.iload_n 1, 1) := by decide +kernel
theorem dd_Mo_timeout_1 : decode bm_Mo_timeout 1 = .ok (.iload_n 2, 1) := by decide +kernel
theorem dd_Mo_timeout_2 : decode bm_Mo_timeout 2 = .ok (.invokestatic 121, 3) := by decide +kernel
theorem dd_Mo_timeout_5 : decode bm_Mo_timeout 5 = .ok (.ifCond .eq 21, 3) := by decide +kernel
theorem dd_Mo_timeout_8 : decode bm_Mo_timeout 8 = .ok (.iload_n 3, 1) := by decide +kernel
theorem dd_Mo_timeout_9 : decode bm_Mo_timeout 9 = .ok (.iconst 1, 1) := by decide +kernel
theorem dd_Mo_timeout_10 : decode bm_Mo_timeout 10 = .ok (.aload_n 0, 1) := by decide +kernel
theorem dd_Mo_timeout_11 : decode bm_Mo_timeout 11 = .ok (.getfield 35, 3) := by decide +kernel
theorem dd_Mo_timeout_14 : decode bm_Mo_timeout 14 = .ok (.iconst 3, 1) := by decide +kernel
theorem dd_Mo_timeout_15 : decode bm_Mo_timeout 15 = .ok (.iload_n 1, 1) := by decide +kernel
theorem dd_Mo_timeout_16 : decode bm_Mo_timeout 16 = .ok (.imul, 1) := by decide +kernel
theorem dd_Mo_timeout_17 : decode bm_Mo_timeout 17 = .ok (.iload_n 2, 1) := by decide +kernel
theorem dd_Mo_timeout_18 : decode bm_Mo_timeout 18 = .ok (.iadd, 1) := by decide +kernel
theorem dd_Mo_timeout_19 : decode bm_Mo_timeout 19 = .ok (.iaload, 1) := by decide +kernel
theorem dd_Mo_timeout_20 : decode bm_Mo_timeout 20 = .ok (.invokestatic 91, 3) := by decide +kernel
theorem dd_Mo_timeout_23 : decode bm_Mo_timeout 23 = .ok (.ifCond .eq 5, 3) := by decide +kernel
theorem dd_Mo_timeout_26 : decode bm_Mo_timeout 26 = .ok (.iconst (-1), 1) := by decide +kernel
theorem dd_Mo_timeout_27 : decode bm_Mo_timeout 27 = .ok (.ireturn, 1) := by decide +kernel
theorem dd_Mo_timeout_28 : decode bm_Mo_timeout 28 = .ok (.iconst 3, 1) := by decide +kernel
theorem dd_Mo_timeout_29 : decode bm_Mo_timeout 29 = .ok (.iload_n 1, 1) := by decide +kernel
theorem dd_Mo_timeout_30 : decode bm_Mo_timeout 30 = .ok (.imul, 1) := by decide +kernel
theorem dd_Mo_timeout_31 : decode bm_Mo_timeout 31 = .ok (.iload_n 2, 1) := by decide +kernel
theorem dd_Mo_timeout_32 : decode bm_Mo_timeout 32 = .ok (.iadd, 1) := by decide +kernel
theorem dd_Mo_timeout_33 : decode bm_Mo_timeout 33 = .ok (.istore 6, 2) := by decide +kernel
theorem dd_Mo_timeout_35 : decode bm_Mo_timeout 35 = .ok (.bipush 13, 2) := by decide +kernel
theorem dd_Mo_timeout_37 : decode bm_Mo_timeout 37 = .ok (.iload 6, 2) := by decide +kernel
theorem dd_Mo_timeout_39 : decode bm_Mo_timeout 39 = .ok (.imul, 1) := by decide +kernel
theorem dd_Mo_timeout_40 : decode bm_Mo_timeout 40 = .ok (.iload_n 3, 1) := by decide +kernel
theorem dd_Mo_timeout_41 : decode bm_Mo_timeout 41 = .ok (.iadd, 1) := by decide +kernel
theorem dd_Mo_timeout_42 : decode bm_Mo_timeout 42 = .ok (.istore 7, 2) := by decide +kernel
theorem dd_Mo_timeout_44 : decode bm_Mo_timeout 44 = .ok (.aload_n 0, 1) := by decide +kernel
theorem dd_Mo_timeout_45 : decode bm_Mo_timeout 45 = .ok (.getfield 59, 3) := by decide +kernel
theorem dd_Mo_timeout_48 : decode bm_Mo_timeout 48 = .ok (.iload 7, 2) := by decide +kernel
theorem dd_Mo_timeout_50 : decode bm_Mo_timeout 50 = .ok (.iaload, 1) := by decide +kernel
theorem dd_Mo_timeout_51 : decode bm_Mo_timeout 51 = .ok (.ifCond .eq 6, 3) := by decide +kernel
theorem dd_Mo_timeout_54 : decode bm_Mo_timeout 54 = .ok (.bipush (-8), 2) := by decide +kernel
theorem dd_Mo_timeout_56 : decode bm_Mo_timeout 56 = .ok (.ireturn, 1) := by decide +kernel
theorem dd_Mo_timeout_57 : decode bm_Mo_timeout 57 = .ok (.iload 5, 2) := by decide +kernel
theorem dd_Mo_timeout_59 : decode bm_Mo_timeout 59 = .ok (.ifCond .ne 18, 3) := by decide +kernel
theorem dd_Mo_timeout_62 : decode bm_Mo_timeout 62 = .ok (.iload 4, 2) := by decide +kernel
theorem dd_Mo_timeout_64 : decode bm_Mo_timeout 64 = .ok (.aload_n 0, 1) := by decide +kernel
theorem dd_Mo_timeout_65 : decode bm_Mo_timeout 65 = .ok (.getfield 53, 3) := by decide +kernel
theorem dd_Mo_timeout_68 : decode bm_Mo_timeout 68 = .ok (.iload 7, 2) := by decide +kernel
theorem dd_Mo_timeout_70 : decode bm_Mo_timeout 70 = .ok (.iaload, 1) := by decide +kernel
theorem dd_Mo_timeout_71 : decode bm_Mo_timeout 71 = .ok (.if_icmp .ge 6, 3) := by decide +kernel
theorem dd_Mo_timeout_74 : decode bm_Mo_timeout 74 = .ok (.bipush (-9), 2) := by decide +kernel
theorem dd_Mo_timeout_76 : decode bm_Mo_timeout 76 = .ok (.ireturn, 1) := by decide +kernel
theorem dd_Mo_timeout_77 : decode bm_Mo_timeout 77 = .ok (.iload 5, 2) := by decide +kernel
theorem dd_Mo_timeout_79 : decode bm_Mo_timeout 79 = .ok (.ifCond .eq 32, 3) := by decide +kernel
theorem dd_Mo_timeout_82 : decode bm_Mo_timeout 82 = .ok (.aload_n 0, 1) := by decide +kernel
theorem dd_Mo_timeout_83 : decode bm_Mo_timeout 83 = .ok (.iload_n 1, 1) := by decide +kernel
theorem dd_Mo_timeout_84 : decode bm_Mo_timeout 84 = .ok (.iload 4, 2) := by decide +kernel
theorem dd_Mo_timeout_86 : decode bm_Mo_timeout 86 = .ok (.sipush 4096, 3) := by decide +kernel
theorem dd_Mo_timeout_89 : decode bm_Mo_timeout 89 = .ok (.iload_n 2, 1) := by decide +kernel
theorem dd_Mo_timeout_90 : decode bm_Mo_timeout 90 = .ok (.iadd, 1) := by decide +kernel
theorem dd_Mo_timeout_91 : decode bm_Mo_timeout 91 = .ok (.iconst 0, 1) := by decide +kernel
theorem dd_Mo_timeout_92 : decode bm_Mo_timeout 92 = .ok (.bipush 8, 2) := by decide +kernel
theorem dd_Mo_timeout_94 : decode bm_Mo_timeout 94 = .ok (.aload_n 0, 1) := by decide +kernel
theorem dd_Mo_timeout_95 : decode bm_Mo_timeout 95 = .ok (.getfield 32, 3) := by decide +kernel
theorem dd_Mo_timeout_98 : decode bm_Mo_timeout 98 = .ok (.iload 6, 2) := by decide +kernel
theorem dd_Mo_timeout_100 : decode bm_Mo_timeout 100 = .ok (.baload, 1) := by decide +kernel
theorem dd_Mo_timeout_101 : decode bm_Mo_timeout 101 = .ok (.invokestatic 124, 3) := by decide +kernel
theorem dd_Mo_timeout_104 : decode bm_Mo_timeout 104 = .ok (.iadd, 1) := by decide +kernel
theorem dd_Mo_timeout_105 : decode bm_Mo_timeout 105 = .ok (.invokevirtual 128, 3) := by decide +kernel
theorem dd_Mo_timeout_108 : decode bm_Mo_timeout 108 = .ok (.goto 4, 3) := by decide +kernel
theorem dd_Mo_timeout_111 : decode bm_Mo_timeout 111 = .ok (.iconst 0, 1) := by decide +kernel
theorem dd_Mo_timeout_112 : decode bm_Mo_timeout 112 = .ok (.istore 8, 2) := by decide +kernel
theorem dd_Mo_timeout_114 : decode bm_Mo_timeout 114 = .ok (.iload 8, 2) := by decide +kernel
theorem dd_Mo_timeout_116 : decode bm_Mo_timeout 116 = .ok (.ifCond .ne 15, 3) := by decide +kernel
theorem dd_Mo_timeout_119 : decode bm_Mo_timeout 119 = .ok (.aload_n 0, 1) := by decide +kernel
theorem dd_Mo_timeout_120 : decode bm_Mo_timeout 120 = .ok (.iload_n 1, 1) := by decide +kernel
theorem dd_Mo_timeout_121 : decode bm_Mo_timeout 121 = .ok (.iload_n 2, 1) := by decide +kernel
theorem dd_Mo_timeout_122 : decode bm_Mo_timeout 122 = .ok (.iload_n 3, 1) := by decide +kernel
theorem dd_Mo_timeout_123 : decode bm_Mo_timeout 123 = .ok (.iload 4, 2) := by decide +kernel
theorem dd_Mo_timeout_125 : decode bm_Mo_timeout 125 = .ok (.invokevirtual 143, 3) := by decide +kernel
theorem dd_Mo_timeout_128 : decode bm_Mo_timeout 128 = .ok (.goto 5, 3) := by decide +kernel
theorem dd_Mo_timeout_131 : decode bm_Mo_timeout 131 = .ok (.iload 8, 2) := by decide +kernel
theorem dd_Mo_timeout_133 : decode bm_Mo_timeout 133 = .ok (.istore 8, 2) := by decide +kernel
theorem dd_Mo_timeout_135 : decode bm_Mo_timeout 135 = .ok (.iload 8, 2) := by decide +kernel
theorem dd_Mo_timeout_137 : decode bm_Mo_timeout 137 = .ok (.ifCond .eq 6, 3) := by decide +kernel
theorem dd_Mo_timeout_140 : decode bm_Mo_timeout 140 = .ok (.iload 8, 2) := by decide +kernel
theorem dd_Mo_timeout_142 : decode bm_Mo_timeout 142 = .ok (.ireturn, 1) := by decide +kernel
theorem dd_Mo_timeout_143 : decode bm_Mo_timeout 143 = .ok (.aload_n 0, 1) := by decide +kernel
theorem dd_Mo_timeout_144 : decode bm_Mo_timeout 144 = .ok (.getfield 59, 3) := by decide +kernel
theorem dd_Mo_timeout_147 : decode bm_Mo_timeout 147 = .ok (.iload 7, 2) := by decide +kernel
theorem dd_Mo_timeout_149 : decode bm_Mo_timeout 149 = .ok (.iconst 3, 1) := by decide +kernel
theorem dd_Mo_timeout_150 : decode bm_Mo_timeout 150 = .ok (.iastore, 1) := by decide +kernel
theorem dd_Mo_timeout_151 : decode bm_Mo_timeout 151 = .ok (.aload_n 0, 1) := by decide +kernel
theorem dd_Mo_timeout_152 : decode bm_Mo_timeout 152 = .ok (.iload_n 1, 1) := by decide +kernel
theorem dd_Mo_timeout_153 : decode bm_Mo_timeout 153 = .ok (.iload_n 2, 1) := by decide +kernel
theorem dd_Mo_timeout_154 : decode bm_Mo_timeout 154 = .ok (.iload 7, 2) := by decide +kernel
theorem dd_Mo_timeout_156 : decode bm_Mo_timeout 156 = .ok (.invokevirtual 140, 3) := by decide +kernel
theorem dd_Mo_timeout_159 : decode bm_Mo_timeout 159 = .ok (.aload_n 0, 1) := by decide +kernel
theorem dd_Mo_timeout_160 : decode bm_Mo_timeout 160 = .ok (.getfield 32, 3) := by decide +kernel
theorem dd_Mo_timeout_163 : decode bm_Mo_timeout 163 = .ok (.iload 6, 2) := by decide +kernel
theorem dd_Mo_timeout_165 : decode bm_Mo_timeout 165 = .ok (.baload, 1) := by decide +kernel
theorem dd_Mo_timeout_166 : decode bm_Mo_timeout 166 = .ok (.ifCond .eq 11, 3) := by decide +kernel
theorem dd_Mo_timeout_169 : decode bm_Mo_timeout 169 = .ok (.aload_n 0, 1) := by decide +kernel
theorem dd_Mo_timeout_170 : decode bm_Mo_timeout 170 = .ok (.getfield 29, 3) := by decide +kernel
theorem dd_Mo_timeout_173 : decode bm_Mo_timeout 173 = .ok (.iload 6, 2) := by decide +kernel
theorem dd_Mo_timeout_175 : decode bm_Mo_timeout 175 = .ok (.iconst 4, 1) := by decide +kernel
theorem dd_Mo_timeout_176 : decode bm_Mo_timeout 176 = .ok (.iastore, 1) := by decide +kernel
theorem dd_Mo_timeout_177 : decode bm_Mo_timeout 177 = .ok (.iconst 0, 1) := by decide +kernel
theorem dd_Mo_timeout_178 : decode bm_Mo_timeout 178 = .ok (.ireturn, 1) := by decide +kernel
theorem dd_Mo_relay_0 : decode bm_Mo_relay 0 = .ok (.iconst 0, 1) := by decide +kernel
theorem dd_Mo_relay_1 : decode bm_Mo_relay 1 = .ok (.istore 4, 2) := by decide +kernel
theorem dd_Mo_relay_3 : decode bm_Mo_relay 3 = .ok (.iconst 0, 1) := by decide +kernel
theorem dd_Mo_relay_4 : decode bm_Mo_relay 4 = .ok (.istore 5, 2) := by decide +kernel
theorem dd_Mo_relay_6 : decode bm_Mo_relay 6 = .ok (.iload 5, 2) := by decide +kernel
theorem dd_Mo_relay_8 : decode bm_Mo_relay 8 = .ok (.iconst 3, 1) := by decide +kernel
theorem dd_Mo_relay_9 : decode bm_Mo_relay 9 = .ok (.if_icmp .ge 113, 3) := by decide +kernel
theorem dd_Mo_relay_12 : decode bm_Mo_relay 12 = .ok (.aload_n 0, 1) := by decide +kernel
theorem dd_Mo_relay_13 : decode bm_Mo_relay 13 = .ok (.getfield 35, 3) := by decide +kernel
theorem dd_Mo_relay_16 : decode bm_Mo_relay 16 = .ok (.iconst 3, 1) := by decide +kernel
theorem dd_Mo_relay_17 : decode bm_Mo_relay 17 = .ok (.iload_n 3, 1) := by decide +kernel
theorem dd_Mo_relay_18 : decode bm_Mo_relay 18 = .ok (.ifCond .ne 9, 3) := by decide +kernel
theorem dd_Mo_relay_21 : decode bm_Mo_relay 21 = .ok (.iconst 1, 1) := by decide +kernel
theorem dd_Mo_relay_22 : decode bm_Mo_relay 22 = .ok (.iload_n 1, 1) := by decide +kernel
theorem dd_Mo_relay_23 : decode bm_Mo_relay 23 = .ok (.isub, 1) := by decide +kernel
theorem dd_Mo_relay_24 : decode bm_Mo_relay 24 = .ok (.goto 4, 3) := by decide +kernel
theorem dd_Mo_relay_27 : decode bm_Mo_relay 27 = .ok (.iload_n 1, 1) := by decide +kernel
theorem dd_Mo_relay_28 : decode bm_Mo_relay 28 = .ok (.imul, 1) := by decide +kernel
theorem dd_Mo_relay_29 : decode bm_Mo_relay 29 = .ok (.iload 5, 2) := by decide +kernel
theorem dd_Mo_relay_31 : decode bm_Mo_relay 31 = .ok (.iadd, 1) := by decide +kernel
theorem dd_Mo_relay_32 : decode bm_Mo_relay 32 = .ok (.iaload, 1) := by decide +kernel
theorem dd_Mo_relay_33 : decode bm_Mo_relay 33 = .ok (.istore 6, 2) := by decide +kernel
theorem dd_Mo_relay_35 : decode bm_Mo_relay 35 = .ok (.iconst 1, 1) := by decide +kernel
theorem dd_Mo_relay_36 : decode bm_Mo_relay 36 = .ok (.istore 7, 2) := by decide +kernel
theorem dd_Mo_relay_38 : decode bm_Mo_relay 38 = .ok (.iload 7, 2) := by decide +kernel
theorem dd_Mo_relay_40 : decode bm_Mo_relay 40 = .ok (.iload 6, 2) := by decide +kernel
theorem dd_Mo_relay_42 : decode bm_Mo_relay 42 = .ok (.if_icmp .gt 74, 3) := by decide +kernel
theorem dd_Mo_relay_45 : decode bm_Mo_relay 45 = .ok (.iload_n 3, 1) := by decide +kernel
theorem dd_Mo_relay_46 : decode bm_Mo_relay 46 = .ok (.ifCond .ne 17, 3) := by decide +kernel
theorem dd_Mo_relay_49 : decode bm_Mo_relay 49 = .ok (.aload_n 0, 1) := by decide +kernel
theorem dd_Mo_relay_50 : decode bm_Mo_relay 50 = .ok (.iload_n 1, 1) := by decide +kernel
theorem dd_Mo_relay_51 : decode bm_Mo_relay 51 = .ok (.iload 5, 2) := by decide +kernel
theorem dd_Mo_relay_53 : decode bm_Mo_relay 53 = .ok (.iload 7, 2) := by decide +kernel
theorem dd_Mo_relay_55 : decode bm_Mo_relay 55 = .ok (.iload_n 2, 1) := by decide +kernel
theorem dd_Mo_relay_56 : decode bm_Mo_relay 56 = .ok (.iconst 0, 1) := by decide +kernel
theorem dd_Mo_relay_57 : decode bm_Mo_relay 57 = .ok (.invokevirtual 147, 3) := by decide +kernel
theorem dd_Mo_relay_60 : decode bm_Mo_relay 60 = .ok (.goto 32, 3) := by decide +kernel
theorem dd_Mo_relay_63 : decode bm_Mo_relay 63 = .ok (.iload_n 3, 1) := by decide +kernel
theorem dd_Mo_relay_64 : decode bm_Mo_relay 64 = .ok (.iconst 1, 1) := by decide +kernel
theorem dd_Mo_relay_65 : decode bm_Mo_relay 65 = .ok (.if_icmp .ne 16, 3) := by decide +kernel
theorem dd_Mo_relay_68 : decode bm_Mo_relay 68 = .ok (.aload_n 0, 1) := by decide +kernel
theorem dd_Mo_relay_69 : decode bm_Mo_relay 69 = .ok (.iload_n 1, 1) := by decide +kernel
theorem dd_Mo_relay_70 : decode bm_Mo_relay 70 = .ok (.iload 5, 2) := by decide +kernel
theorem dd_Mo_relay_72 : decode bm_Mo_relay 72 = .ok (.iload 7, 2) := by decide +kernel
theorem dd_Mo_relay_74 : decode bm_Mo_relay 74 = .ok (.iload_n 2, 1) := by decide +kernel
theorem dd_Mo_relay_75 : decode bm_Mo_relay 75 = .ok (.invokevirtual 151, 3) := by decide +kernel
theorem dd_Mo_relay_78 : decode bm_Mo_relay 78 = .ok (.goto 14, 3) := by decide +kernel
theorem dd_Mo_relay_81 : decode bm_Mo_relay 81 = .ok (.aload_n 0, 1) := by decide +kernel
theorem dd_Mo_relay_82 : decode bm_Mo_relay 82 = .ok (.iload_n 1, 1) := by decide +kernel
theorem dd_Mo_relay_83 : decode bm_Mo_relay 83 = .ok (.iload 5, 2) := by decide +kernel
theorem dd_Mo_relay_85 : decode bm_Mo_relay 85 = .ok (.iload 7, 2) := by decide +kernel
theorem dd_Mo_relay_87 : decode bm_Mo_relay 87 = .ok (.iload_n 2, 1) := by decide +kernel
theorem dd_Mo_relay_88 : decode bm_Mo_relay 88 = .ok (.iconst 0, 1) := by decide +kernel
theorem dd_Mo_relay_89 : decode bm_Mo_relay 89 = .ok (.invokevirtual 154, 3) := by decide +kernel
theorem dd_Mo_relay_92 : decode bm_Mo_relay 92 = .ok (.istore 8, 2) := by decide +kernel
theorem dd_Mo_relay_94 : decode bm_Mo_relay 94 = .ok (.iload 8, 2) := by decide +kernel
theorem dd_Mo_relay_96 : decode bm_Mo_relay 96 = .ok (.ifCond .lt 10, 3) := by decide +kernel
theorem dd_Mo_relay_99 : decode bm_Mo_relay 99 = .ok (.iload 4, 2) := by decide +kernel
theorem dd_Mo_relay_101 : decode bm_Mo_relay 101 = .ok (.iconst 1, 1) := by decide +kernel
theorem dd_Mo_relay_102 : decode bm_Mo_relay 102 = .ok (.iadd, 1) := by decide +kernel
theorem dd_Mo_relay_103 : decode bm_Mo_relay 103 = .ok (.goto 5, 3) := by decide +kernel
theorem dd_Mo_relay_106 : decode bm_Mo_relay 106 = .ok (.iload 4, 2) := by decide +kernel
theorem dd_Mo_relay_108 : decode bm_Mo_relay 108 = .ok (.istore 4, 2) := by decide +kernel
theorem dd_Mo_relay_110 : decode bm_Mo_relay 110 = .ok (.iinc 7 1, 3) := by decide +kernel
theorem dd_Mo_relay_113 : decode bm_Mo_relay 113 = .ok (.goto (-75), 3) := by decide +kernel
theorem dd_Mo_relay_116 : decode bm_Mo_relay 116 = .ok (.iinc 5 1, 3) := by decide +kernel
theorem dd_Mo_relay_119 : decode bm_Mo_relay 119 = .ok (.goto (-113), 3) := by decide +kernel
theorem dd_Mo_relay_122 : decode bm_Mo_relay 122 = .ok (.iload 4, 2) := by decide +kernel
theorem dd_Mo_relay_124 : decode bm_Mo_relay 124 = .ok (.ireturn, 1) := by decide +kernel
theorem dd_Mo_round_0 : decode bm_Mo_round 0 = .ok (.aload_n 0, 1) := by decide +kernel
theorem dd_Mo_round_1 : decode bm_Mo_round 1 = .ok (.iconst 0, 1) := by decide +kernel
theorem dd_Mo_round_2 : decode bm_Mo_round 2 = .ok (.invokevirtual 157, 3) := by decide +kernel
theorem dd_Mo_round_5 : decode bm_Mo_round 5 = .ok (.istore_n 1, 1) := by decide +kernel
theorem dd_Mo_round_6 : decode bm_Mo_round 6 = .ok (.aload_n 0, 1) := by decide +kernel
theorem dd_Mo_round_7 : decode bm_Mo_round 7 = .ok (.iconst 1, 1) := by decide +kernel
theorem dd_Mo_round_8 : decode bm_Mo_round 8 = .ok (.invokevirtual 157, 3) := by decide +kernel
theorem dd_Mo_round_11 : decode bm_Mo_round 11 = .ok (.istore_n 2, 1) := by decide +kernel
theorem dd_Mo_round_12 : decode bm_Mo_round 12 = .ok (.aload_n 0, 1) := by decide +kernel
theorem dd_Mo_round_13 : decode bm_Mo_round 13 = .ok (.iconst 0, 1) := by decide +kernel
theorem dd_Mo_round_14 : decode bm_Mo_round 14 = .ok (.iload_n 2, 1) := by decide +kernel
theorem dd_Mo_round_15 : decode bm_Mo_round 15 = .ok (.bipush 15, 2) := by decide +kernel
theorem dd_Mo_round_17 : decode bm_Mo_round 17 = .ok (.iconst 0, 1) := by decide +kernel
theorem dd_Mo_round_18 : decode bm_Mo_round 18 = .ok (.invokevirtual 160, 3) := by decide +kernel
theorem dd_Mo_round_21 : decode bm_Mo_round 21 = .ok (.aload_n 0, 1) := by decide +kernel
theorem dd_Mo_round_22 : decode bm_Mo_round 22 = .ok (.iconst 1, 1) := by decide +kernel
theorem dd_Mo_round_23 : decode bm_Mo_round 23 = .ok (.iload_n 1, 1) := by decide +kernel
theorem dd_Mo_round_24 : decode bm_Mo_round 24 = .ok (.bipush 15, 2) := by decide +kernel
theorem dd_Mo_round_26 : decode bm_Mo_round 26 = .ok (.iconst 0, 1) := by decide +kernel
theorem dd_Mo_round_27 : decode bm_Mo_round 27 = .ok (.invokevirtual 160, 3) := by decide +kernel
theorem dd_Mo_round_30 : decode bm_Mo_round 30 = .ok (.iadd, 1) := by decide +kernel
theorem dd_Mo_round_31 : decode bm_Mo_round 31 = .ok (.istore_n 3, 1) := by decide +kernel
theorem dd_Mo_round_32 : decode bm_Mo_round 32 = .ok (.iload_n 3, 1) := by decide +kernel
theorem dd_Mo_round_33 : decode bm_Mo_round 33 = .ok (.istore 4, 2) := by decide +kernel
theorem dd_Mo_round_35 : decode bm_Mo_round 35 = .ok (.iconst 0, 1) := by decide +kernel
theorem dd_Mo_round_36 : decode bm_Mo_round 36 = .ok (.istore 5, 2) := by decide +kernel
theorem dd_Mo_round_38 : decode bm_Mo_round 38 = .ok (.iload 5, 2) := by decide +kernel
theorem dd_Mo_round_40 : decode bm_Mo_round 40 = .ok (.iconst 2, 1) := by decide +kernel
theorem dd_Mo_round_41 : decode bm_Mo_round 41 = .ok (.if_icmp .ge 47, 3) := by decide +kernel
theorem dd_Mo_round_44 : decode bm_Mo_round 44 = .ok (.iconst 0, 1) := by decide +kernel
theorem dd_Mo_round_45 : decode bm_Mo_round 45 = .ok (.istore 6, 2) := by decide +kernel
theorem dd_Mo_round_47 : decode bm_Mo_round 47 = .ok (.iload 6, 2) := by decide +kernel
theorem dd_Mo_round_49 : decode bm_Mo_round 49 = .ok (.iconst 3, 1) := by decide +kernel
theorem dd_Mo_round_50 : decode bm_Mo_round 50 = .ok (.if_icmp .ge 32, 3) := by decide +kernel
theorem dd_Mo_round_53 : decode bm_Mo_round 53 = .ok (.iload 4, 2) := by decide +kernel
theorem dd_Mo_round_55 : decode bm_Mo_round 55 = .ok (.aload_n 0, 1) := by decide +kernel
theorem dd_Mo_round_56 : decode bm_Mo_round 56 = .ok (.iload 5, 2) := by decide +kernel
theorem dd_Mo_round_58 : decode bm_Mo_round 58 = .ok (.iload 5, 2) := by decide +kernel
theorem dd_Mo_round_60 : decode bm_Mo_round 60 = .ok (.ifCond .ne 7, 3) := by decide +kernel
theorem dd_Mo_round_63 : decode bm_Mo_round 63 = .ok (.iload_n 2, 1) := by decide +kernel
theorem dd_Mo_round_64 : decode bm_Mo_round 64 = .ok (.goto 4, 3) := by decide +kernel
theorem dd_Mo_round_67 : decode bm_Mo_round 67 = .ok (.iload_n 1, 1) := by decide +kernel
theorem dd_Mo_round_68 : decode bm_Mo_round 68 = .ok (.iload 6, 2) := by decide +kernel
theorem dd_Mo_round_70 : decode bm_Mo_round 70 = .ok (.invokevirtual 164, 3) := by decide +kernel
theorem dd_Mo_round_73 : decode bm_Mo_round 73 = .ok (.iadd, 1) := by decide +kernel
theorem dd_Mo_round_74 : decode bm_Mo_round 74 = .ok (.istore 4, 2) := by decide +kernel
theorem dd_Mo_round_76 : decode bm_Mo_round 76 = .ok (.iinc 6 1, 3) := by decide +kernel
theorem dd_Mo_round_79 : decode bm_Mo_round 79 = .ok (.goto (-32), 3) := by decide +kernel
theorem dd_Mo_round_82 : decode bm_Mo_round 82 = .ok (.iinc 5 1, 3) := by decide +kernel
theorem dd_Mo_round_85 : decode bm_Mo_round 85 = .ok (.goto (-47), 3) := by decide +kernel
theorem dd_Mo_round_88 : decode bm_Mo_round 88 = .ok (.iload 4, 2) := by decide +kernel
theorem dd_Mo_round_90 : decode bm_Mo_round 90 = .ok (.ireturn, 1) := by decide +kernel
theorem dd_Mo_height_0 : decode bm_Mo_height 0 = .ok (.iload_n 1, 1) := by decide +kernel
theorem dd_Mo_height_1 : decode bm_Mo_height 1 = .ok (.iconst 0, 1) := by decide +kernel
theorem dd_Mo_height_2 : decode bm_Mo_height 2 = .ok (.iconst 1, 1) := by decide +kernel
theorem dd_Mo_height_3 : decode bm_Mo_height 3 = .ok (.invokestatic 91, 3) := by decide +kernel
theorem dd_Mo_height_6 : decode bm_Mo_height 6 = .ok (.ifCond .eq 7, 3) := by decide +kernel
theorem dd_Mo_height_9 : decode bm_Mo_height 9 = .ok (.iconst (-1), 1) := by decide +kernel
theorem dd_Mo_height_10 : decode bm_Mo_height 10 = .ok (.goto 9, 3) := by decide +kernel
theorem dd_Mo_height_13 : decode bm_Mo_height 13 = .ok (.aload_n 0, 1) := by decide +kernel
theorem dd_Mo_height_14 : decode bm_Mo_height 14 = .ok (.getfield 7, 3) := by decide +kernel
theorem dd_Mo_height_17 : decode bm_Mo_height 17 = .ok (.iload_n 1, 1) := by decide +kernel
theorem dd_Mo_height_18 : decode bm_Mo_height 18 = .ok (.iaload, 1) := by decide +kernel
theorem dd_Mo_height_19 : decode bm_Mo_height 19 = .ok (.ireturn, 1) := by decide +kernel
theorem dd_Mo_end_0 : decode bm_Mo_end 0 = .ok (.iload_n 1, 1) := by decide +kernel
theorem dd_Mo_end_1 : decode bm_Mo_end 1 = .ok (.iload_n 2, 1) := by decide +kernel
theorem dd_Mo_end_2 : decode bm_Mo_end 2 = .ok (.invokestatic 121, 3) := by decide +kernel
theorem dd_Mo_end_5 : decode bm_Mo_end 5 = .ok (.ifCond .eq 12, 3) := by decide +kernel
theorem dd_Mo_end_8 : decode bm_Mo_end 8 = .ok (.iload_n 3, 1) := by decide +kernel
theorem dd_Mo_end_9 : decode bm_Mo_end 9 = .ok (.iconst 0, 1) := by decide +kernel
theorem dd_Mo_end_10 : decode bm_Mo_end 10 = .ok (.iconst 4, 1) := by decide +kernel
theorem dd_Mo_end_11 : decode bm_Mo_end 11 = .ok (.invokestatic 91, 3) := by decide +kernel
theorem dd_Mo_end_14 : decode bm_Mo_end 14 = .ok (.ifCond .eq 5, 3) := by decide +kernel
theorem dd_Mo_end_17 : decode bm_Mo_end 17 = .ok (.iconst (-1), 1) := by decide +kernel
theorem dd_Mo_end_18 : decode bm_Mo_end 18 = .ok (.ireturn, 1) := by decide +kernel
theorem dd_Mo_end_19 : decode bm_Mo_end 19 = .ok (.iconst 3, 1) := by decide +kernel
theorem dd_Mo_end_20 : decode bm_Mo_end 20 = .ok (.iload_n 1, 1) := by decide +kernel
theorem dd_Mo_end_21 : decode bm_Mo_end 21 = .ok (.imul, 1) := by decide +kernel
theorem dd_Mo_end_22 : decode bm_Mo_end 22 = .ok (.iload_n 2, 1) := by decide +kernel
theorem dd_Mo_end_23 : decode bm_Mo_end 23 = .ok (.iadd, 1) := by decide +kernel
theorem dd_Mo_end_24 : decode bm_Mo_end 24 = .ok (.istore 4, 2) := by decide +kernel
theorem dd_Mo_end_26 : decode bm_Mo_end 26 = .ok (.iload_n 3, 1) := by decide +kernel
theorem dd_Mo_end_27 : decode bm_Mo_end 27 = .ok (.ifCond .ne 13, 3) := by decide +kernel
theorem dd_Mo_end_30 : decode bm_Mo_end 30 = .ok (.aload_n 0, 1) := by decide +kernel
theorem dd_Mo_end_31 : decode bm_Mo_end 31 = .ok (.getfield 29, 3) := by decide +kernel
theorem dd_Mo_end_34 : decode bm_Mo_end 34 = .ok (.iload 4, 2) := by decide +kernel
theorem dd_Mo_end_36 : decode bm_Mo_end 36 = .ok (.iaload, 1) := by decide +kernel
theorem dd_Mo_end_37 : decode bm_Mo_end 37 = .ok (.goto 58, 3) := by decide +kernel
theorem dd_Mo_end_40 : decode bm_Mo_end 40 = .ok (.iload_n 3, 1) := by decide +kernel
theorem dd_Mo_end_41 : decode bm_Mo_end 41 = .ok (.iconst 1, 1) := by decide +kernel
theorem dd_Mo_end_42 : decode bm_Mo_end 42 = .ok (.if_icmp .ne 16, 3) := by decide +kernel
theorem dd_Mo_end_45 : decode bm_Mo_end 45 = .ok (.aload_n 0, 1) := by decide +kernel
theorem dd_Mo_end_46 : decode bm_Mo_end 46 = .ok (.getfield 32, 3) := by decide +kernel
theorem dd_Mo_end_49 : decode bm_Mo_end 49 = .ok (.iload 4, 2) := by decide +kernel
theorem dd_Mo_end_51 : decode bm_Mo_end 51 = .ok (.baload, 1) := by decide +kernel
theorem dd_Mo_end_52 : decode bm_Mo_end 52 = .ok (.invokestatic 124, 3) := by decide +kernel
theorem dd_Mo_end_55 : decode bm_Mo_end 55 = .ok (.goto 40, 3) := by decide +kernel
theorem dd_Mo_end_58 : decode bm_Mo_end 58 = .ok (.iload_n 3, 1) := by decide +kernel
theorem dd_Mo_end_59 : decode bm_Mo_end 59 = .ok (.iconst 2, 1) := by decide +kernel
theorem dd_Mo_end_60 : decode bm_Mo_end 60 = .ok (.if_icmp .ne 13, 3) := by decide +kernel
theorem dd_Mo_end_63 : decode bm_Mo_end 63 = .ok (.aload_n 0, 1) := by decide +kernel
theorem dd_Mo_end_64 : decode bm_Mo_end 64 = .ok (.getfield 35, 3) := by decide +kernel
theorem dd_Mo_end_67 : decode bm_Mo_end 67 = .ok (.iload 4, 2) := by decide +kernel
theorem dd_Mo_end_69 : decode bm_Mo_end 69 = .ok (.iaload, 1) := by decide +kernel
theorem dd_Mo_end_70 : decode bm_Mo_end 70 = .ok (.goto 25, 3) := by decide +kernel
theorem dd_Mo_end_73 : decode bm_Mo_end 73 = .ok (.iload_n 3, 1) := by decide +kernel
theorem dd_Mo_end_74 : decode bm_Mo_end 74 = .ok (.iconst 3, 1) := by decide +kernel
theorem dd_Mo_end_75 : decode bm_Mo_end 75 = .ok (.if_icmp .ne 13, 3) := by decide +kernel
theorem dd_Mo_end_78 : decode bm_Mo_end 78 = .ok (.aload_n 0, 1) := by decide +kernel
theorem dd_Mo_end_79 : decode bm_Mo_end 79 = .ok (.getfield 38, 3) := by decide +kernel
theorem dd_Mo_end_82 : decode bm_Mo_end 82 = .ok (.iload 4, 2) := by decide +kernel
theorem dd_Mo_end_84 : decode bm_Mo_end 84 = .ok (.iaload, 1) := by decide +kernel
theorem dd_Mo_end_85 : decode bm_Mo_end 85 = .ok (.goto 10, 3) := by decide +kernel
theorem dd_Mo_end_88 : decode bm_Mo_end 88 = .ok (.aload_n 0, 1) := by decide +kernel
theorem dd_Mo_end_89 : decode bm_Mo_end 89 = .ok (.getfield 41, 3) := by decide +kernel
theorem dd_Mo_end_92 : decode bm_Mo_end 92 = .ok (.iload 4, 2) := by decide +kernel
theorem dd_Mo_end_94 : decode bm_Mo_end 94 = .ok (.iaload, 1) := by decide +kernel
theorem dd_Mo_end_95 : decode bm_Mo_end 95 = .ok (.ireturn, 1) := by decide +kernel
theorem dd_Mo_isPacket_0 : decode bm_Mo_isPacket 0 = .ok (.iload_n 1, 1) := by decide +kernel
theorem dd_Mo_isPacket_1 : decode bm_Mo_isPacket 1 = .ok (.iload_n 2, 1) := by decide +kernel
theorem dd_Mo_isPacket_2 : decode bm_Mo_isPacket 2 = .ok (.invokestatic 121, 3) := by decide +kernel
theorem dd_Mo_isPacket_5 : decode bm_Mo_isPacket 5 = .ok (.ifCond .eq 25, 3) := by decide +kernel
theorem dd_Mo_isPacket_8 : decode bm_Mo_isPacket 8 = .ok (.iload_n 3, 1) := by decide +kernel
theorem dd_Mo_isPacket_9 : decode bm_Mo_isPacket 9 = .ok (.iconst 1, 1) := by decide +kernel
theorem dd_Mo_isPacket_10 : decode bm_Mo_isPacket 10 = .ok (.aload_n 0, 1) := by decide +kernel
theorem dd_Mo_isPacket_11 : decode bm_Mo_isPacket 11 = .ok (.getfield 35, 3) := by decide +kernel
theorem dd_Mo_isPacket_14 : decode bm_Mo_isPacket 14 = .ok (.iconst 3, 1) := by decide +kernel
theorem dd_Mo_isPacket_15 : decode bm_Mo_isPacket 15 = .ok (.iload_n 1, 1) := by decide +kernel
theorem dd_Mo_isPacket_16 : decode bm_Mo_isPacket 16 = .ok (.imul, 1) := by decide +kernel
theorem dd_Mo_isPacket_17 : decode bm_Mo_isPacket 17 = .ok (.iload_n 2, 1) := by decide +kernel
theorem dd_Mo_isPacket_18 : decode bm_Mo_isPacket 18 = .ok (.iadd, 1) := by decide +kernel
theorem dd_Mo_isPacket_19 : decode bm_Mo_isPacket 19 = .ok (.iaload, 1) := by decide +kernel
theorem dd_Mo_isPacket_20 : decode bm_Mo_isPacket 20 = .ok (.invokestatic 91, 3) := by decide +kernel
theorem dd_Mo_isPacket_23 : decode bm_Mo_isPacket 23 = .ok (.ifCond .ne 7, 3) := by decide +kernel
theorem dd_Mo_isPacket_26 : decode bm_Mo_isPacket 26 = .ok (.iconst 1, 1) := by decide +kernel
theorem dd_Mo_isPacket_27 : decode bm_Mo_isPacket 27 = .ok (.goto 4, 3) := by decide +kernel
theorem dd_Mo_isPacket_30 : decode bm_Mo_isPacket 30 = .ok (.iconst 0, 1) := by decide +kernel
theorem dd_Mo_isPacket_31 : decode bm_Mo_isPacket 31 = .ok (.ireturn, 1) := by decide +kernel
theorem dd_Mo_packet_0 : decode bm_Mo_packet 0 = .ok (.aload_n 0, 1) := by decide +kernel
theorem dd_Mo_packet_1 : decode bm_Mo_packet 1 = .ok (.iload_n 1, 1) := by decide +kernel
theorem dd_Mo_packet_2 : decode bm_Mo_packet 2 = .ok (.iload_n 2, 1) := by decide +kernel
theorem dd_Mo_packet_3 : decode bm_Mo_packet 3 = .ok (.iload_n 3, 1) := by decide +kernel
theorem dd_Mo_packet_4 : decode bm_Mo_packet 4 = .ok (.invokevirtual 167, 3) := by decide +kernel
theorem dd_Mo_packet_7 : decode bm_Mo_packet 7 = .ok (.ifCond .eq 21, 3) := by decide +kernel
theorem dd_Mo_packet_10 : decode bm_Mo_packet 10 = .ok (.aload_n 0, 1) := by decide +kernel
theorem dd_Mo_packet_11 : decode bm_Mo_packet 11 = .ok (.getfield 59, 3) := by decide +kernel
theorem dd_Mo_packet_14 : decode bm_Mo_packet 14 = .ok (.bipush 13, 2) := by decide +kernel
theorem dd_Mo_packet_16 : decode bm_Mo_packet 16 = .ok (.iconst 3, 1) := by decide +kernel
theorem dd_Mo_packet_17 : decode bm_Mo_packet 17 = .ok (.iload_n 1, 1) := by decide +kernel
theorem dd_Mo_packet_18 : decode bm_Mo_packet 18 = .ok (.imul, 1) := by decide +kernel
theorem dd_Mo_packet_19 : decode bm_Mo_packet 19 = .ok (.iload_n 2, 1) := by decide +kernel
theorem dd_Mo_packet_20 : decode bm_Mo_packet 20 = .ok (.iadd, 1) := by decide +kernel
theorem dd_Mo_packet_21 : decode bm_Mo_packet 21 = .ok (.imul, 1) := by decide +kernel
theorem dd_Mo_packet_22 : decode bm_Mo_packet 22 = .ok (.iload_n 3, 1) := by decide +kernel
theorem dd_Mo_packet_23 : decode bm_Mo_packet 23 = .ok (.iadd, 1) := by decide +kernel
theorem dd_Mo_packet_24 : decode bm_Mo_packet 24 = .ok (.iaload, 1) := by decide +kernel
theorem dd_Mo_packet_25 : decode bm_Mo_packet 25 = .ok (.goto 4, 3) := by decide +kernel
theorem dd_Mo_packet_28 : decode bm_Mo_packet 28 = .ok (.iconst (-1), 1) := by decide +kernel
theorem dd_Mo_packet_29 : decode bm_Mo_packet 29 = .ok (.ireturn, 1) := by decide +kernel
theorem dd_Mo_limit_0 : decode bm_Mo_limit 0 = .ok (.aload_n 0, 1) := by decide +kernel
theorem dd_Mo_limit_1 : decode bm_Mo_limit 1 = .ok (.iload_n 1, 1) := by decide +kernel
theorem dd_Mo_limit_2 : decode bm_Mo_limit 2 = .ok (.iload_n 2, 1) := by decide +kernel
theorem dd_Mo_limit_3 : decode bm_Mo_limit 3 = .ok (.iload_n 3, 1) := by decide +kernel
theorem dd_Mo_limit_4 : decode bm_Mo_limit 4 = .ok (.invokevirtual 167, 3) := by decide +kernel
theorem dd_Mo_limit_7 : decode bm_Mo_limit 7 = .ok (.ifCond .eq 21, 3) := by decide +kernel
theorem dd_Mo_limit_10 : decode bm_Mo_limit 10 = .ok (.aload_n 0, 1) := by decide +kernel
theorem dd_Mo_limit_11 : decode bm_Mo_limit 11 = .ok (.getfield 53, 3) := by decide +kernel
theorem dd_Mo_limit_14 : decode bm_Mo_limit 14 = .ok (.bipush 13, 2) := by decide +kernel
theorem dd_Mo_limit_16 : decode bm_Mo_limit 16 = .ok (.iconst 3, 1) := by decide +kernel
theorem dd_Mo_limit_17 : decode bm_Mo_limit 17 = .ok (.iload_n 1, 1) := by decide +kernel
theorem dd_Mo_limit_18 : decode bm_Mo_limit 18 = .ok (.imul, 1) := by decide +kernel
theorem dd_Mo_limit_19 : decode bm_Mo_limit 19 = .ok (.iload_n 2, 1) := by decide +kernel
theorem dd_Mo_limit_20 : decode bm_Mo_limit 20 = .ok (.iadd, 1) := by decide +kernel
theorem dd_Mo_limit_21 : decode bm_Mo_limit 21 = .ok (.imul, 1) := by decide +kernel
theorem dd_Mo_limit_22 : decode bm_Mo_limit 22 = .ok (.iload_n 3, 1) := by decide +kernel
theorem dd_Mo_limit_23 : decode bm_Mo_limit 23 = .ok (.iadd, 1) := by decide +kernel
theorem dd_Mo_limit_24 : decode bm_Mo_limit 24 = .ok (.iaload, 1) := by decide +kernel
theorem dd_Mo_limit_25 : decode bm_Mo_limit 25 = .ok (.goto 4, 3) := by decide +kernel
theorem dd_Mo_limit_28 : decode bm_Mo_limit 28 = .ok (.iconst (-1), 1) := by decide +kernel
theorem dd_Mo_limit_29 : decode bm_Mo_limit 29 = .ok (.ireturn, 1) := by decide +kernel
theorem dd_Mo_balance_0 : decode bm_Mo_balance 0 = .ok (.iload_n 1, 1) := by decide +kernel
theorem dd_Mo_balance_1 : decode bm_Mo_balance 1 = .ok (.iconst 0, 1) := by decide +kernel
theorem dd_Mo_balance_2 : decode bm_Mo_balance 2 = .ok (.iconst 1, 1) := by decide +kernel
theorem dd_Mo_balance_3 : decode bm_Mo_balance 3 = .ok (.invokestatic 91, 3) := by decide +kernel
theorem dd_Mo_balance_6 : decode bm_Mo_balance 6 = .ok (.ifCond .ne 21, 3) := by decide +kernel
theorem dd_Mo_balance_9 : decode bm_Mo_balance 9 = .ok (.iload_n 2, 1) := by decide +kernel
theorem dd_Mo_balance_10 : decode bm_Mo_balance 10 = .ok (.iconst 0, 1) := by decide +kernel
theorem dd_Mo_balance_11 : decode bm_Mo_balance 11 = .ok (.iconst 3, 1) := by decide +kernel
theorem dd_Mo_balance_12 : decode bm_Mo_balance 12 = .ok (.invokestatic 91, 3) := by decide +kernel
theorem dd_Mo_balance_15 : decode bm_Mo_balance 15 = .ok (.ifCond .ne 12, 3) := by decide +kernel
theorem dd_Mo_balance_18 : decode bm_Mo_balance 18 = .ok (.iload_n 3, 1) := by decide +kernel
theorem dd_Mo_balance_19 : decode bm_Mo_balance 19 = .ok (.iconst 0, 1) := by decide +kernel
theorem dd_Mo_balance_20 : decode bm_Mo_balance 20 = .ok (.iconst 5, 1) := by decide +kernel
theorem dd_Mo_balance_21 : decode bm_Mo_balance 21 = .ok (.invokestatic 91, 3) := by decide +kernel
theorem dd_Mo_balance_24 : decode bm_Mo_balance 24 = .ok (.ifCond .eq 7, 3) := by decide +kernel
theorem dd_Mo_balance_27 : decode bm_Mo_balance 27 = .ok (.iconst 0, 1) := by decide +kernel
theorem dd_Mo_balance_28 : decode bm_Mo_balance 28 = .ok (.goto 19, 3) := by decide +kernel
theorem dd_Mo_balance_31 : decode bm_Mo_balance 31 = .ok (.aload_n 0, 1) := by decide +kernel
theorem dd_Mo_balance_32 : decode bm_Mo_balance 32 = .ok (.getfield 65, 3) := by decide +kernel
theorem dd_Mo_balance_35 : decode bm_Mo_balance 35 = .ok (.bipush 24, 2) := by decide +kernel
theorem dd_Mo_balance_37 : decode bm_Mo_balance 37 = .ok (.iload_n 1, 1) := by decide +kernel
theorem dd_Mo_balance_38 : decode bm_Mo_balance 38 = .ok (.imul, 1) := by decide +kernel
theorem dd_Mo_balance_39 : decode bm_Mo_balance 39 = .ok (.bipush 6, 2) := by decide +kernel
theorem dd_Mo_balance_41 : decode bm_Mo_balance 41 = .ok (.iload_n 2, 1) := by decide +kernel
theorem dd_Mo_balance_42 : decode bm_Mo_balance 42 = .ok (.imul, 1) := by decide +kernel
theorem dd_Mo_balance_43 : decode bm_Mo_balance 43 = .ok (.iadd, 1) := by decide +kernel
theorem dd_Mo_balance_44 : decode bm_Mo_balance 44 = .ok (.iload_n 3, 1) := by decide +kernel
theorem dd_Mo_balance_45 : decode bm_Mo_balance 45 = .ok (.iadd, 1) := by decide +kernel
theorem dd_Mo_balance_46 : decode bm_Mo_balance 46 = .ok (.iaload, 1) := by decide +kernel
theorem dd_Mo_balance_47 : decode bm_Mo_balance 47 = .ok (.ireturn, 1) := by decide +kernel
theorem dd_Mo_escrow_0 : decode bm_Mo_escrow 0 = .ok (.iload_n 1, 1) := by decide +kernel
theorem dd_Mo_escrow_1 : decode bm_Mo_escrow 1 = .ok (.iload_n 2, 1) := by decide +kernel
theorem dd_Mo_escrow_2 : decode bm_Mo_escrow 2 = .ok (.invokestatic 121, 3) := by decide +kernel
theorem dd_Mo_escrow_5 : decode bm_Mo_escrow 5 = .ok (.ifCond .eq 12, 3) := by decide +kernel
theorem dd_Mo_escrow_8 : decode bm_Mo_escrow 8 = .ok (.iload_n 3, 1) := by decide +kernel
theorem dd_Mo_escrow_9 : decode bm_Mo_escrow 9 = .ok (.iconst 0, 1) := by decide +kernel
theorem dd_Mo_escrow_10 : decode bm_Mo_escrow 10 = .ok (.iconst 5, 1) := by decide +kernel
theorem dd_Mo_escrow_11 : decode bm_Mo_escrow 11 = .ok (.invokestatic 91, 3) := by decide +kernel
theorem dd_Mo_escrow_14 : decode bm_Mo_escrow 14 = .ok (.ifCond .eq 7, 3) := by decide +kernel
theorem dd_Mo_escrow_17 : decode bm_Mo_escrow 17 = .ok (.iconst 0, 1) := by decide +kernel
theorem dd_Mo_escrow_18 : decode bm_Mo_escrow 18 = .ok (.goto 19, 3) := by decide +kernel
theorem dd_Mo_escrow_21 : decode bm_Mo_escrow 21 = .ok (.aload_n 0, 1) := by decide +kernel
theorem dd_Mo_escrow_22 : decode bm_Mo_escrow 22 = .ok (.getfield 68, 3) := by decide +kernel
theorem dd_Mo_escrow_25 : decode bm_Mo_escrow 25 = .ok (.bipush 18, 2) := by decide +kernel
theorem dd_Mo_escrow_27 : decode bm_Mo_escrow 27 = .ok (.iload_n 1, 1) := by decide +kernel
theorem dd_Mo_escrow_28 : decode bm_Mo_escrow 28 = .ok (.imul, 1) := by decide +kernel
theorem dd_Mo_escrow_29 : decode bm_Mo_escrow 29 = .ok (.bipush 6, 2) := by decide +kernel
theorem dd_Mo_escrow_31 : decode bm_Mo_escrow 31 = .ok (.iload_n 2, 1) := by decide +kernel
theorem dd_Mo_escrow_32 : decode bm_Mo_escrow 32 = .ok (.imul, 1) := by decide +kernel
theorem dd_Mo_escrow_33 : decode bm_Mo_escrow 33 = .ok (.iadd, 1) := by decide +kernel
theorem dd_Mo_escrow_34 : decode bm_Mo_escrow 34 = .ok (.iload_n 3, 1) := by decide +kernel
theorem dd_Mo_escrow_35 : decode bm_Mo_escrow 35 = .ok (.iadd, 1) := by decide +kernel
theorem dd_Mo_escrow_36 : decode bm_Mo_escrow 36 = .ok (.iaload, 1) := by decide +kernel
theorem dd_Mo_escrow_37 : decode bm_Mo_escrow 37 = .ok (.ireturn, 1) := by decide +kernel
theorem dd_Mo_voucher_0 : decode bm_Mo_voucher 0 = .ok (.iload_n 1, 1) := by decide +kernel
theorem dd_Mo_voucher_1 : decode bm_Mo_voucher 1 = .ok (.iconst 0, 1) := by decide +kernel
theorem dd_Mo_voucher_2 : decode bm_Mo_voucher 2 = .ok (.iconst 1, 1) := by decide +kernel
theorem dd_Mo_voucher_3 : decode bm_Mo_voucher 3 = .ok (.invokestatic 91, 3) := by decide +kernel
theorem dd_Mo_voucher_6 : decode bm_Mo_voucher 6 = .ok (.ifCond .ne 17, 3) := by decide +kernel
theorem dd_Mo_voucher_9 : decode bm_Mo_voucher 9 = .ok (.iload_n 2, 1) := by decide +kernel
theorem dd_Mo_voucher_10 : decode bm_Mo_voucher 10 = .ok (.iconst 1, 1) := by decide +kernel
theorem dd_Mo_voucher_11 : decode bm_Mo_voucher 11 = .ok (.aload_n 0, 1) := by decide +kernel
theorem dd_Mo_voucher_12 : decode bm_Mo_voucher 12 = .ok (.getfield 71, 3) := by decide +kernel
theorem dd_Mo_voucher_15 : decode bm_Mo_voucher 15 = .ok (.iload_n 1, 1) := by decide +kernel
theorem dd_Mo_voucher_16 : decode bm_Mo_voucher 16 = .ok (.iaload, 1) := by decide +kernel
theorem dd_Mo_voucher_17 : decode bm_Mo_voucher 17 = .ok (.invokestatic 91, 3) := by decide +kernel
theorem dd_Mo_voucher_20 : decode bm_Mo_voucher 20 = .ok (.ifCond .eq 7, 3) := by decide +kernel
theorem dd_Mo_voucher_23 : decode bm_Mo_voucher 23 = .ok (.iconst (-1), 1) := by decide +kernel
theorem dd_Mo_voucher_24 : decode bm_Mo_voucher 24 = .ok (.goto 28, 3) := by decide +kernel
theorem dd_Mo_voucher_27 : decode bm_Mo_voucher 27 = .ok (.iconst 4, 1) := by decide +kernel
theorem dd_Mo_voucher_28 : decode bm_Mo_voucher 28 = .ok (.aload_n 0, 1) := by decide +kernel
theorem dd_Mo_voucher_29 : decode bm_Mo_voucher 29 = .ok (.getfield 74, 3) := by decide +kernel
theorem dd_Mo_voucher_32 : decode bm_Mo_voucher 32 = .ok (.bipush 6, 2) := by decide +kernel
theorem dd_Mo_voucher_34 : decode bm_Mo_voucher 34 = .ok (.iload_n 1, 1) := by decide +kernel
theorem dd_Mo_voucher_35 : decode bm_Mo_voucher 35 = .ok (.imul, 1) := by decide +kernel
theorem dd_Mo_voucher_36 : decode bm_Mo_voucher 36 = .ok (.iload_n 2, 1) := by decide +kernel
theorem dd_Mo_voucher_37 : decode bm_Mo_voucher 37 = .ok (.iadd, 1) := by decide +kernel
theorem dd_Mo_voucher_38 : decode bm_Mo_voucher 38 = .ok (.iaload, 1) := by decide +kernel
theorem dd_Mo_voucher_39 : decode bm_Mo_voucher 39 = .ok (.imul, 1) := by decide +kernel
theorem dd_Mo_voucher_40 : decode bm_Mo_voucher 40 = .ok (.aload_n 0, 1) := by decide +kernel
theorem dd_Mo_voucher_41 : decode bm_Mo_voucher 41 = .ok (.getfield 77, 3) := by decide +kernel
theorem dd_Mo_voucher_44 : decode bm_Mo_voucher 44 = .ok (.bipush 6, 2) := by decide +kernel
theorem dd_Mo_voucher_46 : decode bm_Mo_voucher 46 = .ok (.iload_n 1, 1) := by decide +kernel
theorem dd_Mo_voucher_47 : decode bm_Mo_voucher 47 = .ok (.imul, 1) := by decide +kernel
theorem dd_Mo_voucher_48 : decode bm_Mo_voucher 48 = .ok (.iload_n 2, 1) := by decide +kernel
theorem dd_Mo_voucher_49 : decode bm_Mo_voucher 49 = .ok (.iadd, 1) := by decide +kernel
theorem dd_Mo_voucher_50 : decode bm_Mo_voucher 50 = .ok (.iaload, 1) := by decide +kernel
theorem dd_Mo_voucher_51 : decode bm_Mo_voucher 51 = .ok (.iadd, 1) := by decide +kernel
theorem dd_Mo_voucher_52 : decode bm_Mo_voucher 52 = .ok (.ireturn, 1) := by decide +kernel
theorem dd_Integer_bitCount_0 : decode bm_Integer_bitCount 0 = .ok (.iload_n 0, 1) := by decide +kernel
theorem dd_Integer_bitCount_1 : decode bm_Integer_bitCount 1 = .ok (.iload_n 0, 1) := by decide +kernel
theorem dd_Integer_bitCount_2 : decode bm_Integer_bitCount 2 = .ok (.iconst 1, 1) := by decide +kernel
theorem dd_Integer_bitCount_3 : decode bm_Integer_bitCount 3 = .ok (.iushr, 1) := by decide +kernel
theorem dd_Integer_bitCount_4 : decode bm_Integer_bitCount 4 = .ok (.ldc_w 265, 3) := by decide +kernel
theorem dd_Integer_bitCount_7 : decode bm_Integer_bitCount 7 = .ok (.iand, 1) := by decide +kernel
theorem dd_Integer_bitCount_8 : decode bm_Integer_bitCount 8 = .ok (.isub, 1) := by decide +kernel
theorem dd_Integer_bitCount_9 : decode bm_Integer_bitCount 9 = .ok (.istore_n 0, 1) := by decide +kernel
theorem dd_Integer_bitCount_10 : decode bm_Integer_bitCount 10 = .ok (.iload_n 0, 1) := by decide +kernel
theorem dd_Integer_bitCount_11 : decode bm_Integer_bitCount 11 = .ok (.ldc_w 266, 3) := by decide +kernel
theorem dd_Integer_bitCount_14 : decode bm_Integer_bitCount 14 = .ok (.iand, 1) := by decide +kernel
theorem dd_Integer_bitCount_15 : decode bm_Integer_bitCount 15 = .ok (.iload_n 0, 1) := by decide +kernel
theorem dd_Integer_bitCount_16 : decode bm_Integer_bitCount 16 = .ok (.iconst 2, 1) := by decide +kernel
theorem dd_Integer_bitCount_17 : decode bm_Integer_bitCount 17 = .ok (.iushr, 1) := by decide +kernel
theorem dd_Integer_bitCount_18 : decode bm_Integer_bitCount 18 = .ok (.ldc_w 266, 3) := by decide +kernel
theorem dd_Integer_bitCount_21 : decode bm_Integer_bitCount 21 = .ok (.iand, 1) := by decide +kernel
theorem dd_Integer_bitCount_22 : decode bm_Integer_bitCount 22 = .ok (.iadd, 1) := by decide +kernel
theorem dd_Integer_bitCount_23 : decode bm_Integer_bitCount 23 = .ok (.istore_n 0, 1) := by decide +kernel
theorem dd_Integer_bitCount_24 : decode bm_Integer_bitCount 24 = .ok (.iload_n 0, 1) := by decide +kernel
theorem dd_Integer_bitCount_25 : decode bm_Integer_bitCount 25 = .ok (.iload_n 0, 1) := by decide +kernel
theorem dd_Integer_bitCount_26 : decode bm_Integer_bitCount 26 = .ok (.iconst 4, 1) := by decide +kernel
theorem dd_Integer_bitCount_27 : decode bm_Integer_bitCount 27 = .ok (.iushr, 1) := by decide +kernel
theorem dd_Integer_bitCount_28 : decode bm_Integer_bitCount 28 = .ok (.iadd, 1) := by decide +kernel
theorem dd_Integer_bitCount_29 : decode bm_Integer_bitCount 29 = .ok (.ldc_w 267, 3) := by decide +kernel
theorem dd_Integer_bitCount_32 : decode bm_Integer_bitCount 32 = .ok (.iand, 1) := by decide +kernel
theorem dd_Integer_bitCount_33 : decode bm_Integer_bitCount 33 = .ok (.istore_n 0, 1) := by decide +kernel
theorem dd_Integer_bitCount_34 : decode bm_Integer_bitCount 34 = .ok (.iload_n 0, 1) := by decide +kernel
theorem dd_Integer_bitCount_35 : decode bm_Integer_bitCount 35 = .ok (.iload_n 0, 1) := by decide +kernel
theorem dd_Integer_bitCount_36 : decode bm_Integer_bitCount 36 = .ok (.bipush 8, 2) := by decide +kernel
theorem dd_Integer_bitCount_38 : decode bm_Integer_bitCount 38 = .ok (.iushr, 1) := by decide +kernel
theorem dd_Integer_bitCount_39 : decode bm_Integer_bitCount 39 = .ok (.iadd, 1) := by decide +kernel
theorem dd_Integer_bitCount_40 : decode bm_Integer_bitCount 40 = .ok (.istore_n 0, 1) := by decide +kernel
theorem dd_Integer_bitCount_41 : decode bm_Integer_bitCount 41 = .ok (.iload_n 0, 1) := by decide +kernel
theorem dd_Integer_bitCount_42 : decode bm_Integer_bitCount 42 = .ok (.iload_n 0, 1) := by decide +kernel
theorem dd_Integer_bitCount_43 : decode bm_Integer_bitCount 43 = .ok (.bipush 16, 2) := by decide +kernel
theorem dd_Integer_bitCount_45 : decode bm_Integer_bitCount 45 = .ok (.iushr, 1) := by decide +kernel
theorem dd_Integer_bitCount_46 : decode bm_Integer_bitCount 46 = .ok (.iadd, 1) := by decide +kernel
theorem dd_Integer_bitCount_47 : decode bm_Integer_bitCount 47 = .ok (.istore_n 0, 1) := by decide +kernel
theorem dd_Integer_bitCount_48 : decode bm_Integer_bitCount 48 = .ok (.iload_n 0, 1) := by decide +kernel
theorem dd_Integer_bitCount_49 : decode bm_Integer_bitCount 49 = .ok (.bipush 63, 2) := by decide +kernel
theorem dd_Integer_bitCount_51 : decode bm_Integer_bitCount 51 = .ok (.iand, 1) := by decide +kernel
theorem dd_Integer_bitCount_52 : decode bm_Integer_bitCount 52 = .ok (.ireturn, 1) := by decide +kernel
