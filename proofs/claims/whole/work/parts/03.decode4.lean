theorem dd_Mo_attempt_0 : decode bm_Mo_attempt 0 = .ok (.iload_n 1, 1) := by decide +kernel
theorem dd_Mo_attempt_1 : decode bm_Mo_attempt 1 = .ok (.iload_n 2, 1) := by decide +kernel
theorem dd_Mo_attempt_2 : decode bm_Mo_attempt 2 = .ok (.invokestatic 121, 3) := by decide +kernel
theorem dd_Mo_attempt_5 : decode bm_Mo_attempt 5 = .ok (.ifCond .ne 5, 3) := by decide +kernel
theorem dd_Mo_attempt_8 : decode bm_Mo_attempt 8 = .ok (.iconst (-1), 1) := by decide +kernel
theorem dd_Mo_attempt_9 : decode bm_Mo_attempt 9 = .ok (.ireturn, 1) := by decide +kernel
theorem dd_Mo_attempt_10 : decode bm_Mo_attempt 10 = .ok (.iconst 3, 1) := by decide +kernel
theorem dd_Mo_attempt_11 : decode bm_Mo_attempt 11 = .ok (.iload_n 1, 1) := by decide +kernel
theorem dd_Mo_attempt_12 : decode bm_Mo_attempt 12 = .ok (.imul, 1) := by decide +kernel
theorem dd_Mo_attempt_13 : decode bm_Mo_attempt 13 = .ok (.iload_n 2, 1) := by decide +kernel
theorem dd_Mo_attempt_14 : decode bm_Mo_attempt 14 = .ok (.iadd, 1) := by decide +kernel
theorem dd_Mo_attempt_15 : decode bm_Mo_attempt 15 = .ok (.istore 5, 2) := by decide +kernel
theorem dd_Mo_attempt_17 : decode bm_Mo_attempt 17 = .ok (.aload_n 0, 1) := by decide +kernel
theorem dd_Mo_attempt_18 : decode bm_Mo_attempt 18 = .ok (.getfield 29, 3) := by decide +kernel
theorem dd_Mo_attempt_21 : decode bm_Mo_attempt 21 = .ok (.iload 5, 2) := by decide +kernel
theorem dd_Mo_attempt_23 : decode bm_Mo_attempt 23 = .ok (.iaload, 1) := by decide +kernel
theorem dd_Mo_attempt_24 : decode bm_Mo_attempt 24 = .ok (.iconst 1, 1) := by decide +kernel
theorem dd_Mo_attempt_25 : decode bm_Mo_attempt 25 = .ok (.if_icmp .gt 25, 3) := by decide +kernel
theorem dd_Mo_attempt_28 : decode bm_Mo_attempt 28 = .ok (.aload_n 0, 1) := by decide +kernel
theorem dd_Mo_attempt_29 : decode bm_Mo_attempt 29 = .ok (.getfield 29, 3) := by decide +kernel
theorem dd_Mo_attempt_32 : decode bm_Mo_attempt 32 = .ok (.iload 5, 2) := by decide +kernel
theorem dd_Mo_attempt_34 : decode bm_Mo_attempt 34 = .ok (.iaload, 1) := by decide +kernel
theorem dd_Mo_attempt_35 : decode bm_Mo_attempt 35 = .ok (.iconst 1, 1) := by decide +kernel
theorem dd_Mo_attempt_36 : decode bm_Mo_attempt 36 = .ok (.if_icmp .ne 17, 3) := by decide +kernel
theorem dd_Mo_attempt_39 : decode bm_Mo_attempt 39 = .ok (.aload_n 0, 1) := by decide +kernel
theorem dd_Mo_attempt_40 : decode bm_Mo_attempt 40 = .ok (.getfield 32, 3) := by decide +kernel
theorem dd_Mo_attempt_43 : decode bm_Mo_attempt 43 = .ok (.iload 5, 2) := by decide +kernel
theorem dd_Mo_attempt_45 : decode bm_Mo_attempt 45 = .ok (.baload, 1) := by decide +kernel
theorem dd_Mo_attempt_46 : decode bm_Mo_attempt 46 = .ok (.iload_n 3, 1) := by decide +kernel
theorem dd_Mo_attempt_47 : decode bm_Mo_attempt 47 = .ok (.if_icmp .eq 6, 3) := by decide +kernel
theorem dd_Mo_attempt_50 : decode bm_Mo_attempt 50 = .ok (.bipush (-2), 2) := by decide +kernel
theorem dd_Mo_attempt_52 : decode bm_Mo_attempt 52 = .ok (.ireturn, 1) := by decide +kernel
theorem dd_Mo_attempt_53 : decode bm_Mo_attempt 53 = .ok (.aload_n 0, 1) := by decide +kernel
theorem dd_Mo_attempt_54 : decode bm_Mo_attempt 54 = .ok (.iload_n 1, 1) := by decide +kernel
theorem dd_Mo_attempt_55 : decode bm_Mo_attempt 55 = .ok (.iload 4, 2) := by decide +kernel
theorem dd_Mo_attempt_57 : decode bm_Mo_attempt 57 = .ok (.sipush 4096, 3) := by decide +kernel
theorem dd_Mo_attempt_60 : decode bm_Mo_attempt 60 = .ok (.iload_n 2, 1) := by decide +kernel
theorem dd_Mo_attempt_61 : decode bm_Mo_attempt 61 = .ok (.iadd, 1) := by decide +kernel
theorem dd_Mo_attempt_62 : decode bm_Mo_attempt 62 = .ok (.iconst 0, 1) := by decide +kernel
theorem dd_Mo_attempt_63 : decode bm_Mo_attempt 63 = .ok (.iconst 2, 1) := by decide +kernel
theorem dd_Mo_attempt_64 : decode bm_Mo_attempt 64 = .ok (.iload_n 3, 1) := by decide +kernel
theorem dd_Mo_attempt_65 : decode bm_Mo_attempt 65 = .ok (.invokestatic 124, 3) := by decide +kernel
theorem dd_Mo_attempt_68 : decode bm_Mo_attempt 68 = .ok (.iadd, 1) := by decide +kernel
theorem dd_Mo_attempt_69 : decode bm_Mo_attempt 69 = .ok (.invokevirtual 128, 3) := by decide +kernel
theorem dd_Mo_attempt_72 : decode bm_Mo_attempt 72 = .ok (.istore 6, 2) := by decide +kernel
theorem dd_Mo_attempt_74 : decode bm_Mo_attempt 74 = .ok (.iload 6, 2) := by decide +kernel
theorem dd_Mo_attempt_76 : decode bm_Mo_attempt 76 = .ok (.ifCond .eq 6, 3) := by decide +kernel
theorem dd_Mo_attempt_79 : decode bm_Mo_attempt 79 = .ok (.iload 6, 2) := by decide +kernel
theorem dd_Mo_attempt_81 : decode bm_Mo_attempt 81 = .ok (.ireturn, 1) := by decide +kernel
theorem dd_Mo_attempt_82 : decode bm_Mo_attempt 82 = .ok (.aload_n 0, 1) := by decide +kernel
theorem dd_Mo_attempt_83 : decode bm_Mo_attempt 83 = .ok (.getfield 29, 3) := by decide +kernel
theorem dd_Mo_attempt_86 : decode bm_Mo_attempt 86 = .ok (.iload 5, 2) := by decide +kernel
theorem dd_Mo_attempt_88 : decode bm_Mo_attempt 88 = .ok (.iconst 2, 1) := by decide +kernel
theorem dd_Mo_attempt_89 : decode bm_Mo_attempt 89 = .ok (.iastore, 1) := by decide +kernel
theorem dd_Mo_attempt_90 : decode bm_Mo_attempt 90 = .ok (.aload_n 0, 1) := by decide +kernel
theorem dd_Mo_attempt_91 : decode bm_Mo_attempt 91 = .ok (.getfield 32, 3) := by decide +kernel
theorem dd_Mo_attempt_94 : decode bm_Mo_attempt 94 = .ok (.iload 5, 2) := by decide +kernel
theorem dd_Mo_attempt_96 : decode bm_Mo_attempt 96 = .ok (.iload_n 3, 1) := by decide +kernel
theorem dd_Mo_attempt_97 : decode bm_Mo_attempt 97 = .ok (.bastore, 1) := by decide +kernel
theorem dd_Mo_attempt_98 : decode bm_Mo_attempt 98 = .ok (.iconst 0, 1) := by decide +kernel
theorem dd_Mo_attempt_99 : decode bm_Mo_attempt 99 = .ok (.ireturn, 1) := by decide +kernel
theorem dd_Mo_open_0 : decode bm_Mo_open 0 = .ok (.iload_n 1, 1) := by decide +kernel
theorem dd_Mo_open_1 : decode bm_Mo_open 1 = .ok (.iload_n 2, 1) := by decide +kernel
theorem dd_Mo_open_2 : decode bm_Mo_open 2 = .ok (.invokestatic 121, 3) := by decide +kernel
theorem dd_Mo_open_5 : decode bm_Mo_open 5 = .ok (.ifCond .eq 12, 3) := by decide +kernel
theorem dd_Mo_open_8 : decode bm_Mo_open 8 = .ok (.iload_n 3, 1) := by decide +kernel
theorem dd_Mo_open_9 : decode bm_Mo_open 9 = .ok (.iconst 0, 1) := by decide +kernel
theorem dd_Mo_open_10 : decode bm_Mo_open 10 = .ok (.iconst 2, 1) := by decide +kernel
theorem dd_Mo_open_11 : decode bm_Mo_open 11 = .ok (.invokestatic 91, 3) := by decide +kernel
theorem dd_Mo_open_14 : decode bm_Mo_open 14 = .ok (.ifCond .eq 5, 3) := by decide +kernel
theorem dd_Mo_open_17 : decode bm_Mo_open 17 = .ok (.iconst (-1), 1) := by decide +kernel
theorem dd_Mo_open_18 : decode bm_Mo_open 18 = .ok (.ireturn, 1) := by decide +kernel
theorem dd_Mo_open_19 : decode bm_Mo_open 19 = .ok (.iconst 3, 1) := by decide +kernel
theorem dd_Mo_open_20 : decode bm_Mo_open 20 = .ok (.iload_n 1, 1) := by decide +kernel
theorem dd_Mo_open_21 : decode bm_Mo_open 21 = .ok (.imul, 1) := by decide +kernel
theorem dd_Mo_open_22 : decode bm_Mo_open 22 = .ok (.iload_n 2, 1) := by decide +kernel
theorem dd_Mo_open_23 : decode bm_Mo_open 23 = .ok (.iadd, 1) := by decide +kernel
theorem dd_Mo_open_24 : decode bm_Mo_open 24 = .ok (.istore 5, 2) := by decide +kernel
theorem dd_Mo_open_26 : decode bm_Mo_open 26 = .ok (.aload_n 0, 1) := by decide +kernel
theorem dd_Mo_open_27 : decode bm_Mo_open 27 = .ok (.getfield 29, 3) := by decide +kernel
theorem dd_Mo_open_30 : decode bm_Mo_open 30 = .ok (.iload 5, 2) := by decide +kernel
theorem dd_Mo_open_32 : decode bm_Mo_open 32 = .ok (.iaload, 1) := by decide +kernel
theorem dd_Mo_open_33 : decode bm_Mo_open 33 = .ok (.iload_n 3, 1) := by decide +kernel
theorem dd_Mo_open_34 : decode bm_Mo_open 34 = .ok (.iconst 1, 1) := by decide +kernel
theorem dd_Mo_open_35 : decode bm_Mo_open 35 = .ok (.iadd, 1) := by decide +kernel
theorem dd_Mo_open_36 : decode bm_Mo_open 36 = .ok (.if_icmp .eq 6, 3) := by decide +kernel
theorem dd_Mo_open_39 : decode bm_Mo_open 39 = .ok (.bipush (-2), 2) := by decide +kernel
theorem dd_Mo_open_41 : decode bm_Mo_open 41 = .ok (.ireturn, 1) := by decide +kernel
theorem dd_Mo_open_42 : decode bm_Mo_open 42 = .ok (.aload_n 0, 1) := by decide +kernel
theorem dd_Mo_open_43 : decode bm_Mo_open 43 = .ok (.iload_n 1, 1) := by decide +kernel
theorem dd_Mo_open_44 : decode bm_Mo_open 44 = .ok (.iload 4, 2) := by decide +kernel
theorem dd_Mo_open_46 : decode bm_Mo_open 46 = .ok (.sipush 4096, 3) := by decide +kernel
theorem dd_Mo_open_49 : decode bm_Mo_open 49 = .ok (.iload_n 2, 1) := by decide +kernel
theorem dd_Mo_open_50 : decode bm_Mo_open 50 = .ok (.iadd, 1) := by decide +kernel
theorem dd_Mo_open_51 : decode bm_Mo_open 51 = .ok (.iconst 0, 1) := by decide +kernel
theorem dd_Mo_open_52 : decode bm_Mo_open 52 = .ok (.iconst 2, 1) := by decide +kernel
theorem dd_Mo_open_53 : decode bm_Mo_open 53 = .ok (.iload_n 3, 1) := by decide +kernel
theorem dd_Mo_open_54 : decode bm_Mo_open 54 = .ok (.iconst 2, 1) := by decide +kernel
theorem dd_Mo_open_55 : decode bm_Mo_open 55 = .ok (.iadd, 1) := by decide +kernel
theorem dd_Mo_open_56 : decode bm_Mo_open 56 = .ok (.imul, 1) := by decide +kernel
theorem dd_Mo_open_57 : decode bm_Mo_open 57 = .ok (.aload_n 0, 1) := by decide +kernel
theorem dd_Mo_open_58 : decode bm_Mo_open 58 = .ok (.getfield 32, 3) := by decide +kernel
theorem dd_Mo_open_61 : decode bm_Mo_open 61 = .ok (.iload 5, 2) := by decide +kernel
theorem dd_Mo_open_63 : decode bm_Mo_open 63 = .ok (.baload, 1) := by decide +kernel
theorem dd_Mo_open_64 : decode bm_Mo_open 64 = .ok (.invokestatic 124, 3) := by decide +kernel
theorem dd_Mo_open_67 : decode bm_Mo_open 67 = .ok (.iadd, 1) := by decide +kernel
theorem dd_Mo_open_68 : decode bm_Mo_open 68 = .ok (.invokevirtual 128, 3) := by decide +kernel
theorem dd_Mo_open_71 : decode bm_Mo_open 71 = .ok (.istore 6, 2) := by decide +kernel
theorem dd_Mo_open_73 : decode bm_Mo_open 73 = .ok (.iload 6, 2) := by decide +kernel
theorem dd_Mo_open_75 : decode bm_Mo_open 75 = .ok (.ifCond .eq 6, 3) := by decide +kernel
theorem dd_Mo_open_78 : decode bm_Mo_open 78 = .ok (.iload 6, 2) := by decide +kernel
theorem dd_Mo_open_80 : decode bm_Mo_open 80 = .ok (.ireturn, 1) := by decide +kernel
theorem dd_Mo_open_81 : decode bm_Mo_open 81 = .ok (.aload_n 0, 1) := by decide +kernel
theorem dd_Mo_open_82 : decode bm_Mo_open 82 = .ok (.getfield 29, 3) := by decide +kernel
theorem dd_Mo_open_85 : decode bm_Mo_open 85 = .ok (.iload 5, 2) := by decide +kernel
theorem dd_Mo_open_87 : decode bm_Mo_open 87 = .ok (.iload_n 3, 1) := by decide +kernel
theorem dd_Mo_open_88 : decode bm_Mo_open 88 = .ok (.iconst 2, 1) := by decide +kernel
theorem dd_Mo_open_89 : decode bm_Mo_open 89 = .ok (.if_icmp .ne 7, 3) := by decide +kernel
theorem dd_Mo_open_92 : decode bm_Mo_open 92 = .ok (.iconst 4, 1) := by decide +kernel
theorem dd_Mo_open_93 : decode bm_Mo_open 93 = .ok (.goto 4, 3) := by decide +kernel
theorem dd_Mo_open_96 : decode bm_Mo_open 96 = .ok (.iconst 3, 1) := by decide +kernel
theorem dd_Mo_open_97 : decode bm_Mo_open 97 = .ok (.iastore, 1) := by decide +kernel
theorem dd_Mo_open_98 : decode bm_Mo_open 98 = .ok (.iconst 0, 1) := by decide +kernel
theorem dd_Mo_open_99 : decode bm_Mo_open 99 = .ok (.ireturn, 1) := by decide +kernel
theorem dd_Mo_close_0 : decode bm_Mo_close 0 = .ok (.iload_n 1, 1) := by decide +kernel
theorem dd_Mo_close_1 : decode bm_Mo_close 1 = .ok (.iload_n 2, 1) := by decide +kernel
theorem dd_Mo_close_2 : decode bm_Mo_close 2 = .ok (.invokestatic 121, 3) := by decide +kernel
theorem dd_Mo_close_5 : decode bm_Mo_close 5 = .ok (.ifCond .ne 5, 3) := by decide +kernel
theorem dd_Mo_close_8 : decode bm_Mo_close 8 = .ok (.iconst (-1), 1) := by decide +kernel
theorem dd_Mo_close_9 : decode bm_Mo_close 9 = .ok (.ireturn, 1) := by decide +kernel
theorem dd_Mo_close_10 : decode bm_Mo_close 10 = .ok (.aload_n 0, 1) := by decide +kernel
theorem dd_Mo_close_11 : decode bm_Mo_close 11 = .ok (.getfield 29, 3) := by decide +kernel
theorem dd_Mo_close_14 : decode bm_Mo_close 14 = .ok (.iconst 3, 1) := by decide +kernel
theorem dd_Mo_close_15 : decode bm_Mo_close 15 = .ok (.iload_n 1, 1) := by decide +kernel
theorem dd_Mo_close_16 : decode bm_Mo_close 16 = .ok (.imul, 1) := by decide +kernel
theorem dd_Mo_close_17 : decode bm_Mo_close 17 = .ok (.iload_n 2, 1) := by decide +kernel
theorem dd_Mo_close_18 : decode bm_Mo_close 18 = .ok (.iadd, 1) := by decide +kernel
theorem dd_Mo_close_19 : decode bm_Mo_close 19 = .ok (.iaload, 1) := by decide +kernel
theorem dd_Mo_close_20 : decode bm_Mo_close 20 = .ok (.iconst 3, 1) := by decide +kernel
theorem dd_Mo_close_21 : decode bm_Mo_close 21 = .ok (.if_icmp .eq 6, 3) := by decide +kernel
theorem dd_Mo_close_24 : decode bm_Mo_close 24 = .ok (.bipush (-2), 2) := by decide +kernel
theorem dd_Mo_close_26 : decode bm_Mo_close 26 = .ok (.ireturn, 1) := by decide +kernel
theorem dd_Mo_close_27 : decode bm_Mo_close 27 = .ok (.aload_n 0, 1) := by decide +kernel
theorem dd_Mo_close_28 : decode bm_Mo_close 28 = .ok (.getfield 29, 3) := by decide +kernel
theorem dd_Mo_close_31 : decode bm_Mo_close 31 = .ok (.iconst 3, 1) := by decide +kernel
theorem dd_Mo_close_32 : decode bm_Mo_close 32 = .ok (.iload_n 1, 1) := by decide +kernel
theorem dd_Mo_close_33 : decode bm_Mo_close 33 = .ok (.imul, 1) := by decide +kernel
theorem dd_Mo_close_34 : decode bm_Mo_close 34 = .ok (.iload_n 2, 1) := by decide +kernel
theorem dd_Mo_close_35 : decode bm_Mo_close 35 = .ok (.iadd, 1) := by decide +kernel
theorem dd_Mo_close_36 : decode bm_Mo_close 36 = .ok (.iconst 4, 1) := by decide +kernel
theorem dd_Mo_close_37 : decode bm_Mo_close 37 = .ok (.iastore, 1) := by decide +kernel
theorem dd_Mo_close_38 : decode bm_Mo_close 38 = .ok (.iconst 0, 1) := by decide +kernel
theorem dd_Mo_close_39 : decode bm_Mo_close 39 = .ok (.ireturn, 1) := by decide +kernel
theorem dd_Mo_send_0 : decode bm_Mo_send 0 = .ok (.iload_n 1, 1) := by decide +kernel
theorem dd_Mo_send_1 : decode bm_Mo_send 1 = .ok (.iload_n 2, 1) := by decide +kernel
theorem dd_Mo_send_2 : decode bm_Mo_send 2 = .ok (.invokestatic 121, 3) := by decide +kernel
theorem dd_Mo_send_5 : decode bm_Mo_send 5 = .ok (.ifCond .eq 40, 3) := by decide +kernel
theorem dd_Mo_send_8 : decode bm_Mo_send 8 = .ok (.iload_n 3, 1) := by decide +kernel
theorem dd_Mo_send_9 : decode bm_Mo_send 9 = .ok (.iconst 0, 1) := by decide +kernel
theorem dd_Mo_send_10 : decode bm_Mo_send 10 = .ok (.bipush 15, 2) := by decide +kernel
theorem dd_Mo_send_12 : decode bm_Mo_send 12 = .ok (.invokestatic 91, 3) := by decide +kernel
theorem dd_Mo_send_15 : decode bm_Mo_send 15 = .ok (.ifCond .ne 30, 3) := by decide +kernel
theorem dd_Mo_send_18 : decode bm_Mo_send 18 = .ok (.iload 4, 2) := by decide +kernel
theorem dd_Mo_send_20 : decode bm_Mo_send 20 = .ok (.iconst 0, 1) := by decide +kernel
theorem dd_Mo_send_21 : decode bm_Mo_send 21 = .ok (.aload_n 0, 1) := by decide +kernel
theorem dd_Mo_send_22 : decode bm_Mo_send 22 = .ok (.getfield 71, 3) := by decide +kernel
theorem dd_Mo_send_25 : decode bm_Mo_send 25 = .ok (.iload_n 1, 1) := by decide +kernel
theorem dd_Mo_send_26 : decode bm_Mo_send 26 = .ok (.iaload, 1) := by decide +kernel
theorem dd_Mo_send_27 : decode bm_Mo_send 27 = .ok (.invokestatic 91, 3) := by decide +kernel
theorem dd_Mo_send_30 : decode bm_Mo_send 30 = .ok (.ifCond .ne 15, 3) := by decide +kernel
theorem dd_Mo_send_33 : decode bm_Mo_send 33 = .ok (.iload 5, 2) := by decide +kernel
theorem dd_Mo_send_35 : decode bm_Mo_send 35 = .ok (.iconst 1, 1) := by decide +kernel
theorem dd_Mo_send_36 : decode bm_Mo_send 36 = .ok (.sipush 1000, 3) := by decide +kernel
theorem dd_Mo_send_39 : decode bm_Mo_send 39 = .ok (.invokestatic 91, 3) := by decide +kernel
theorem dd_Mo_send_42 : decode bm_Mo_send 42 = .ok (.ifCond .eq 5, 3) := by decide +kernel
theorem dd_Mo_send_45 : decode bm_Mo_send 45 = .ok (.iconst (-1), 1) := by decide +kernel
theorem dd_Mo_send_46 : decode bm_Mo_send 46 = .ok (.ireturn, 1) := by decide +kernel
theorem dd_Mo_send_47 : decode bm_Mo_send 47 = .ok (.iconst 3, 1) := by decide +kernel
theorem dd_Mo_send_48 : decode bm_Mo_send 48 = .ok (.iload_n 1, 1) := by decide +kernel
theorem dd_Mo_send_49 : decode bm_Mo_send 49 = .ok (.imul, 1) := by decide +kernel
theorem dd_Mo_send_50 : decode bm_Mo_send 50 = .ok (.iload_n 2, 1) := by decide +kernel
theorem dd_Mo_send_51 : decode bm_Mo_send 51 = .ok (.iadd, 1) := by decide +kernel
theorem dd_Mo_send_52 : decode bm_Mo_send 52 = .ok (.istore 6, 2) := by decide +kernel
theorem dd_Mo_send_54 : decode bm_Mo_send 54 = .ok (.aload_n 0, 1) := by decide +kernel
theorem dd_Mo_send_55 : decode bm_Mo_send 55 = .ok (.getfield 29, 3) := by decide +kernel
theorem dd_Mo_send_58 : decode bm_Mo_send 58 = .ok (.iload 6, 2) := by decide +kernel
theorem dd_Mo_send_60 : decode bm_Mo_send 60 = .ok (.iaload, 1) := by decide +kernel
theorem dd_Mo_send_61 : decode bm_Mo_send 61 = .ok (.iconst 3, 1) := by decide +kernel
theorem dd_Mo_send_62 : decode bm_Mo_send 62 = .ok (.if_icmp .eq 6, 3) := by decide +kernel
theorem dd_Mo_send_65 : decode bm_Mo_send 65 = .ok (.bipush (-2), 2) := by decide +kernel
theorem dd_Mo_send_67 : decode bm_Mo_send 67 = .ok (.ireturn, 1) := by decide +kernel
theorem dd_Mo_send_68 : decode bm_Mo_send 68 = .ok (.bipush 24, 2) := by decide +kernel
theorem dd_Mo_send_70 : decode bm_Mo_send 70 = .ok (.iload_n 1, 1) := by decide +kernel
theorem dd_Mo_send_71 : decode bm_Mo_send 71 = .ok (.imul, 1) := by decide +kernel
theorem dd_Mo_send_72 : decode bm_Mo_send 72 = .ok (.bipush 6, 2) := by decide +kernel
theorem dd_Mo_send_74 : decode bm_Mo_send 74 = .ok (.iload_n 3, 1) := by decide +kernel
theorem dd_Mo_send_75 : decode bm_Mo_send 75 = .ok (.iconst 4, 1) := by decide +kernel
theorem dd_Mo_send_76 : decode bm_Mo_send 76 = .ok (.idiv, 1) := by decide +kernel
theorem dd_Mo_send_77 : decode bm_Mo_send 77 = .ok (.imul, 1) := by decide +kernel
theorem dd_Mo_send_78 : decode bm_Mo_send 78 = .ok (.iadd, 1) := by decide +kernel
theorem dd_Mo_send_79 : decode bm_Mo_send 79 = .ok (.iload 4, 2) := by decide +kernel
theorem dd_Mo_send_81 : decode bm_Mo_send 81 = .ok (.iadd, 1) := by decide +kernel
theorem dd_Mo_send_82 : decode bm_Mo_send 82 = .ok (.istore 7, 2) := by decide +kernel
theorem dd_Mo_send_84 : decode bm_Mo_send 84 = .ok (.aload_n 0, 1) := by decide +kernel
theorem dd_Mo_send_85 : decode bm_Mo_send 85 = .ok (.getfield 65, 3) := by decide +kernel
theorem dd_Mo_send_88 : decode bm_Mo_send 88 = .ok (.iload 7, 2) := by decide +kernel
theorem dd_Mo_send_90 : decode bm_Mo_send 90 = .ok (.iaload, 1) := by decide +kernel
theorem dd_Mo_send_91 : decode bm_Mo_send 91 = .ok (.iload 5, 2) := by decide +kernel
theorem dd_Mo_send_93 : decode bm_Mo_send 93 = .ok (.if_icmp .lt 15, 3) := by decide +kernel
theorem dd_Mo_send_96 : decode bm_Mo_send 96 = .ok (.aload_n 0, 1) := by decide +kernel
theorem dd_Mo_send_97 : decode bm_Mo_send 97 = .ok (.getfield 35, 3) := by decide +kernel
theorem dd_Mo_send_100 : decode bm_Mo_send 100 = .ok (.iload 6, 2) := by decide +kernel
theorem dd_Mo_send_102 : decode bm_Mo_send 102 = .ok (.iaload, 1) := by decide +kernel
theorem dd_Mo_send_103 : decode bm_Mo_send 103 = .ok (.bipush 12, 2) := by decide +kernel
theorem dd_Mo_send_105 : decode bm_Mo_send 105 = .ok (.if_icmp .ne 6, 3) := by decide +kernel
theorem dd_Mo_send_108 : decode bm_Mo_send 108 = .ok (.bipush (-7), 2) := by decide +kernel
theorem dd_Mo_send_110 : decode bm_Mo_send 110 = .ok (.ireturn, 1) := by decide +kernel
theorem dd_Mo_send_111 : decode bm_Mo_send 111 = .ok (.iload 4, 2) := by decide +kernel
theorem dd_Mo_send_113 : decode bm_Mo_send 113 = .ok (.ifCond .le 23, 3) := by decide +kernel
theorem dd_Mo_send_116 : decode bm_Mo_send 116 = .ok (.aload_n 0, 1) := by decide +kernel
theorem dd_Mo_send_117 : decode bm_Mo_send 117 = .ok (.getfield 77, 3) := by decide +kernel
theorem dd_Mo_send_120 : decode bm_Mo_send 120 = .ok (.bipush 6, 2) := by decide +kernel
theorem dd_Mo_send_122 : decode bm_Mo_send 122 = .ok (.iload_n 1, 1) := by decide +kernel
theorem dd_Mo_send_123 : decode bm_Mo_send 123 = .ok (.imul, 1) := by decide +kernel
theorem dd_Mo_send_124 : decode bm_Mo_send 124 = .ok (.iload 4, 2) := by decide +kernel
theorem dd_Mo_send_126 : decode bm_Mo_send 126 = .ok (.iadd, 1) := by decide +kernel
theorem dd_Mo_send_127 : decode bm_Mo_send 127 = .ok (.iaload, 1) := by decide +kernel
theorem dd_Mo_send_128 : decode bm_Mo_send 128 = .ok (.iload_n 2, 1) := by decide +kernel
theorem dd_Mo_send_129 : decode bm_Mo_send 129 = .ok (.if_icmp .ne 7, 3) := by decide +kernel
theorem dd_Mo_send_132 : decode bm_Mo_send 132 = .ok (.iconst 1, 1) := by decide +kernel
theorem dd_Mo_send_133 : decode bm_Mo_send 133 = .ok (.goto 4, 3) := by decide +kernel
theorem dd_Mo_send_136 : decode bm_Mo_send 136 = .ok (.iconst 0, 1) := by decide +kernel
theorem dd_Mo_send_137 : decode bm_Mo_send 137 = .ok (.istore 8, 2) := by decide +kernel
theorem dd_Mo_send_139 : decode bm_Mo_send 139 = .ok (.aload_n 0, 1) := by decide +kernel
theorem dd_Mo_send_140 : decode bm_Mo_send 140 = .ok (.getfield 65, 3) := by decide +kernel
theorem dd_Mo_send_143 : decode bm_Mo_send 143 = .ok (.iload 7, 2) := by decide +kernel
theorem dd_Mo_send_145 : decode bm_Mo_send 145 = .ok (.dup2, 1) := by decide +kernel
theorem dd_Mo_send_146 : decode bm_Mo_send 146 = .ok (.iaload, 1) := by decide +kernel
theorem dd_Mo_send_147 : decode bm_Mo_send 147 = .ok (.iload 5, 2) := by decide +kernel
theorem dd_Mo_send_149 : decode bm_Mo_send 149 = .ok (.isub, 1) := by decide +kernel
theorem dd_Mo_send_150 : decode bm_Mo_send 150 = .ok (.iastore, 1) := by decide +kernel
theorem dd_Mo_send_151 : decode bm_Mo_send 151 = .ok (.iload 8, 2) := by decide +kernel
theorem dd_Mo_send_153 : decode bm_Mo_send 153 = .ok (.ifCond .ne 25, 3) := by decide +kernel
theorem dd_Mo_send_156 : decode bm_Mo_send 156 = .ok (.aload_n 0, 1) := by decide +kernel
theorem dd_Mo_send_157 : decode bm_Mo_send 157 = .ok (.getfield 68, 3) := by decide +kernel
theorem dd_Mo_send_160 : decode bm_Mo_send 160 = .ok (.bipush 18, 2) := by decide +kernel
theorem dd_Mo_send_162 : decode bm_Mo_send 162 = .ok (.iload_n 1, 1) := by decide +kernel
theorem dd_Mo_send_163 : decode bm_Mo_send 163 = .ok (.imul, 1) := by decide +kernel
theorem dd_Mo_send_164 : decode bm_Mo_send 164 = .ok (.bipush 6, 2) := by decide +kernel
theorem dd_Mo_send_166 : decode bm_Mo_send 166 = .ok (.iload_n 2, 1) := by decide +kernel
theorem dd_Mo_send_167 : decode bm_Mo_send 167 = .ok (.imul, 1) := by decide +kernel
theorem dd_Mo_send_168 : decode bm_Mo_send 168 = .ok (.iadd, 1) := by decide +kernel
theorem dd_Mo_send_169 : decode bm_Mo_send 169 = .ok (.iload 4, 2) := by decide +kernel
theorem dd_Mo_send_171 : decode bm_Mo_send 171 = .ok (.iadd, 1) := by decide +kernel
theorem dd_Mo_send_172 : decode bm_Mo_send 172 = .ok (.dup2, 1) := by decide +kernel
theorem dd_Mo_send_173 : decode bm_Mo_send 173 = .ok (.iaload, 1) := by decide +kernel
theorem dd_Mo_send_174 : decode bm_Mo_send 174 = .ok (.iload 5, 2) := by decide +kernel
theorem dd_Mo_send_176 : decode bm_Mo_send 176 = .ok (.iadd, 1) := by decide +kernel
theorem dd_Mo_send_177 : decode bm_Mo_send 177 = .ok (.iastore, 1) := by decide +kernel
theorem dd_Mo_send_178 : decode bm_Mo_send 178 = .ok (.aload_n 0, 1) := by decide +kernel
theorem dd_Mo_send_179 : decode bm_Mo_send 179 = .ok (.getfield 35, 3) := by decide +kernel
theorem dd_Mo_send_182 : decode bm_Mo_send 182 = .ok (.iload 6, 2) := by decide +kernel
theorem dd_Mo_send_184 : decode bm_Mo_send 184 = .ok (.dup2, 1) := by decide +kernel
theorem dd_Mo_send_185 : decode bm_Mo_send 185 = .ok (.iaload, 1) := by decide +kernel
theorem dd_Mo_send_186 : decode bm_Mo_send 186 = .ok (.iconst 1, 1) := by decide +kernel
theorem dd_Mo_send_187 : decode bm_Mo_send 187 = .ok (.iadd, 1) := by decide +kernel
theorem dd_Mo_send_188 : decode bm_Mo_send 188 = .ok (.iastore, 1) := by decide +kernel
theorem dd_Mo_send_189 : decode bm_Mo_send 189 = .ok (.bipush 13, 2) := by decide +kernel
theorem dd_Mo_send_191 : decode bm_Mo_send 191 = .ok (.iload 6, 2) := by decide +kernel
theorem dd_Mo_send_193 : decode bm_Mo_send 193 = .ok (.imul, 1) := by decide +kernel
theorem dd_Mo_send_194 : decode bm_Mo_send 194 = .ok (.aload_n 0, 1) := by decide +kernel
theorem dd_Mo_send_195 : decode bm_Mo_send 195 = .ok (.getfield 35, 3) := by decide +kernel
theorem dd_Mo_send_198 : decode bm_Mo_send 198 = .ok (.iload 6, 2) := by decide +kernel
theorem dd_Mo_send_200 : decode bm_Mo_send 200 = .ok (.iaload, 1) := by decide +kernel
theorem dd_Mo_send_201 : decode bm_Mo_send 201 = .ok (.iadd, 1) := by decide +kernel
theorem dd_Mo_send_202 : decode bm_Mo_send 202 = .ok (.istore 9, 2) := by decide +kernel
theorem dd_Mo_send_204 : decode bm_Mo_send 204 = .ok (.aload_n 0, 1) := by decide +kernel
theorem dd_Mo_send_205 : decode bm_Mo_send 205 = .ok (.getfield 44, 3) := by decide +kernel
theorem dd_Mo_send_208 : decode bm_Mo_send 208 = .ok (.iload 9, 2) := by decide +kernel
theorem dd_Mo_send_210 : decode bm_Mo_send 210 = .ok (.iload 4, 2) := by decide +kernel
theorem dd_Mo_send_212 : decode bm_Mo_send 212 = .ok (.iastore, 1) := by decide +kernel
theorem dd_Mo_send_213 : decode bm_Mo_send 213 = .ok (.aload_n 0, 1) := by decide +kernel
theorem dd_Mo_send_214 : decode bm_Mo_send 214 = .ok (.getfield 47, 3) := by decide +kernel
theorem dd_Mo_send_217 : decode bm_Mo_send 217 = .ok (.iload 9, 2) := by decide +kernel
theorem dd_Mo_send_219 : decode bm_Mo_send 219 = .ok (.iload 5, 2) := by decide +kernel
theorem dd_Mo_send_221 : decode bm_Mo_send 221 = .ok (.iastore, 1) := by decide +kernel
theorem dd_Mo_send_222 : decode bm_Mo_send 222 = .ok (.aload_n 0, 1) := by decide +kernel
theorem dd_Mo_send_223 : decode bm_Mo_send 223 = .ok (.getfield 50, 3) := by decide +kernel
theorem dd_Mo_send_226 : decode bm_Mo_send 226 = .ok (.iload 9, 2) := by decide +kernel
theorem dd_Mo_send_228 : decode bm_Mo_send 228 = .ok (.iload_n 3, 1) := by decide +kernel
theorem dd_Mo_send_229 : decode bm_Mo_send 229 = .ok (.iastore, 1) := by decide +kernel
theorem dd_Mo_send_230 : decode bm_Mo_send 230 = .ok (.aload_n 0, 1) := by decide +kernel
theorem dd_Mo_send_231 : decode bm_Mo_send 231 = .ok (.getfield 53, 3) := by decide +kernel
theorem dd_Mo_send_234 : decode bm_Mo_send 234 = .ok (.iload 9, 2) := by decide +kernel
theorem dd_Mo_send_236 : decode bm_Mo_send 236 = .ok (.aload_n 0, 1) := by decide +kernel
theorem dd_Mo_send_237 : decode bm_Mo_send 237 = .ok (.getfield 17, 3) := by decide +kernel
theorem dd_Mo_send_240 : decode bm_Mo_send 240 = .ok (.iload_n 1, 1) := by decide +kernel
theorem dd_Mo_send_241 : decode bm_Mo_send 241 = .ok (.iaload, 1) := by decide +kernel
theorem dd_Mo_send_242 : decode bm_Mo_send 242 = .ok (.aload_n 0, 1) := by decide +kernel
theorem dd_Mo_send_243 : decode bm_Mo_send 243 = .ok (.getfield 86, 3) := by decide +kernel
theorem dd_Mo_send_246 : decode bm_Mo_send 246 = .ok (.iadd, 1) := by decide +kernel
theorem dd_Mo_send_247 : decode bm_Mo_send 247 = .ok (.iastore, 1) := by decide +kernel
theorem dd_Mo_send_248 : decode bm_Mo_send 248 = .ok (.aload_n 0, 1) := by decide +kernel
theorem dd_Mo_send_249 : decode bm_Mo_send 249 = .ok (.getfield 56, 3) := by decide +kernel
theorem dd_Mo_send_252 : decode bm_Mo_send 252 = .ok (.iload 9, 2) := by decide +kernel
theorem dd_Mo_send_254 : decode bm_Mo_send 254 = .ok (.iload 8, 2) := by decide +kernel
theorem dd_Mo_send_256 : decode bm_Mo_send 256 = .ok (.ifCond .eq 20, 3) := by decide +kernel
theorem dd_Mo_send_259 : decode bm_Mo_send 259 = .ok (.iconst 1, 1) := by decide +kernel
theorem dd_Mo_send_260 : decode bm_Mo_send 260 = .ok (.aload_n 0, 1) := by decide +kernel
theorem dd_Mo_send_261 : decode bm_Mo_send 261 = .ok (.getfield 74, 3) := by decide +kernel
theorem dd_Mo_send_264 : decode bm_Mo_send 264 = .ok (.bipush 6, 2) := by decide +kernel
theorem dd_Mo_send_266 : decode bm_Mo_send 266 = .ok (.iload_n 1, 1) := by decide +kernel
theorem dd_Mo_send_267 : decode bm_Mo_send 267 = .ok (.imul, 1) := by decide +kernel
theorem dd_Mo_send_268 : decode bm_Mo_send 268 = .ok (.iload 4, 2) := by decide +kernel
theorem dd_Mo_send_270 : decode bm_Mo_send 270 = .ok (.iadd, 1) := by decide +kernel
theorem dd_Mo_send_271 : decode bm_Mo_send 271 = .ok (.iaload, 1) := by decide +kernel
theorem dd_Mo_send_272 : decode bm_Mo_send 272 = .ok (.iadd, 1) := by decide +kernel
theorem dd_Mo_send_273 : decode bm_Mo_send 273 = .ok (.goto 4, 3) := by decide +kernel
theorem dd_Mo_send_276 : decode bm_Mo_send 276 = .ok (.iconst 0, 1) := by decide +kernel
theorem dd_Mo_send_277 : decode bm_Mo_send 277 = .ok (.iastore, 1) := by decide +kernel
theorem dd_Mo_send_278 : decode bm_Mo_send 278 = .ok (.aload_n 0, 1) := by decide +kernel
theorem dd_Mo_send_279 : decode bm_Mo_send 279 = .ok (.getfield 35, 3) := by decide +kernel
theorem dd_Mo_send_282 : decode bm_Mo_send 282 = .ok (.iload 6, 2) := by decide +kernel
theorem dd_Mo_send_284 : decode bm_Mo_send 284 = .ok (.iaload, 1) := by decide +kernel
theorem dd_Mo_send_285 : decode bm_Mo_send 285 = .ok (.ireturn, 1) := by decide +kernel
theorem dd_Mo_voucherFor_0 : decode bm_Mo_voucherFor 0 = .ok (.iconst 1, 1) := by decide +kernel
theorem dd_Mo_voucherFor_1 : decode bm_Mo_voucherFor 1 = .ok (.istore 4, 2) := by decide +kernel
theorem dd_Mo_voucherFor_3 : decode bm_Mo_voucherFor 3 = .ok (.iload 4, 2) := by decide +kernel
theorem dd_Mo_voucherFor_5 : decode bm_Mo_voucherFor 5 = .ok (.aload_n 0, 1) := by decide +kernel
theorem dd_Mo_voucherFor_6 : decode bm_Mo_voucherFor 6 = .ok (.getfield 71, 3) := by decide +kernel
theorem dd_Mo_voucherFor_9 : decode bm_Mo_voucherFor 9 = .ok (.iload_n 1, 1) := by decide +kernel
theorem dd_Mo_voucherFor_10 : decode bm_Mo_voucherFor 10 = .ok (.iaload, 1) := by decide +kernel
theorem dd_Mo_voucherFor_11 : decode bm_Mo_voucherFor 11 = .ok (.if_icmp .gt 44, 3) := by decide +kernel
theorem dd_Mo_voucherFor_14 : decode bm_Mo_voucherFor 14 = .ok (.aload_n 0, 1) := by decide +kernel
theorem dd_Mo_voucherFor_15 : decode bm_Mo_voucherFor 15 = .ok (.getfield 74, 3) := by decide +kernel
theorem dd_Mo_voucherFor_18 : decode bm_Mo_voucherFor 18 = .ok (.bipush 6, 2) := by decide +kernel
theorem dd_Mo_voucherFor_20 : decode bm_Mo_voucherFor 20 = .ok (.iload_n 1, 1) := by decide +kernel
theorem dd_Mo_voucherFor_21 : decode bm_Mo_voucherFor 21 = .ok (.imul, 1) := by decide +kernel
theorem dd_Mo_voucherFor_22 : decode bm_Mo_voucherFor 22 = .ok (.iload 4, 2) := by decide +kernel
theorem dd_Mo_voucherFor_24 : decode bm_Mo_voucherFor 24 = .ok (.iadd, 1) := by decide +kernel
theorem dd_Mo_voucherFor_25 : decode bm_Mo_voucherFor 25 = .ok (.iaload, 1) := by decide +kernel
theorem dd_Mo_voucherFor_26 : decode bm_Mo_voucherFor 26 = .ok (.iload_n 2, 1) := by decide +kernel
theorem dd_Mo_voucherFor_27 : decode bm_Mo_voucherFor 27 = .ok (.if_icmp .ne 22, 3) := by decide +kernel
theorem dd_Mo_voucherFor_30 : decode bm_Mo_voucherFor 30 = .ok (.aload_n 0, 1) := by decide +kernel
theorem dd_Mo_voucherFor_31 : decode bm_Mo_voucherFor 31 = .ok (.getfield 77, 3) := by decide +kernel
theorem dd_Mo_voucherFor_34 : decode bm_Mo_voucherFor 34 = .ok (.bipush 6, 2) := by decide +kernel
theorem dd_Mo_voucherFor_36 : decode bm_Mo_voucherFor 36 = .ok (.iload_n 1, 1) := by decide +kernel
theorem dd_Mo_voucherFor_37 : decode bm_Mo_voucherFor 37 = .ok (.imul, 1) := by decide +kernel
theorem dd_Mo_voucherFor_38 : decode bm_Mo_voucherFor 38 = .ok (.iload 4, 2) := by decide +kernel
theorem dd_Mo_voucherFor_40 : decode bm_Mo_voucherFor 40 = .ok (.iadd, 1) := by decide +kernel
theorem dd_Mo_voucherFor_41 : decode bm_Mo_voucherFor 41 = .ok (.iaload, 1) := by decide +kernel
theorem dd_Mo_voucherFor_42 : decode bm_Mo_voucherFor 42 = .ok (.iload_n 3, 1) := by decide +kernel
theorem dd_Mo_voucherFor_43 : decode bm_Mo_voucherFor 43 = .ok (.if_icmp .ne 6, 3) := by decide +kernel
theorem dd_Mo_voucherFor_46 : decode bm_Mo_voucherFor 46 = .ok (.iload 4, 2) := by decide +kernel
theorem dd_Mo_voucherFor_48 : decode bm_Mo_voucherFor 48 = .ok (.ireturn, 1) := by decide +kernel
theorem dd_Mo_voucherFor_49 : decode bm_Mo_voucherFor 49 = .ok (.iinc 4 1, 3) := by decide +kernel
theorem dd_Mo_voucherFor_52 : decode bm_Mo_voucherFor 52 = .ok (.goto (-49), 3) := by decide +kernel
theorem dd_Mo_voucherFor_55 : decode bm_Mo_voucherFor 55 = .ok (.iconst 0, 1) := by decide +kernel
theorem dd_Mo_voucherFor_56 : decode bm_Mo_voucherFor 56 = .ok (.ireturn, 1) := by decide +kernel
theorem dd_Mo_takes_0 : decode bm_Mo_takes 0 = .ok (.aload_n 0, 1) := by decide +kernel
theorem dd_Mo_takes_1 : decode bm_Mo_takes 1 = .ok (.getfield 50, 3) := by decide +kernel
theorem dd_Mo_takes_4 : decode bm_Mo_takes 4 = .ok (.iload_n 3, 1) := by decide +kernel
theorem dd_Mo_takes_5 : decode bm_Mo_takes 5 = .ok (.iaload, 1) := by decide +kernel
theorem dd_Mo_takes_6 : decode bm_Mo_takes 6 = .ok (.iconst 4, 1) := by decide +kernel
theorem dd_Mo_takes_7 : decode bm_Mo_takes 7 = .ok (.irem, 1) := by decide +kernel
theorem dd_Mo_takes_8 : decode bm_Mo_takes 8 = .ok (.istore 5, 2) := by decide +kernel
theorem dd_Mo_takes_10 : decode bm_Mo_takes 10 = .ok (.iload 5, 2) := by decide +kernel
theorem dd_Mo_takes_12 : decode bm_Mo_takes 12 = .ok (.iconst 3, 1) := by decide +kernel
theorem dd_Mo_takes_13 : decode bm_Mo_takes 13 = .ok (.if_icmp .ne 5, 3) := by decide +kernel
theorem dd_Mo_takes_16 : decode bm_Mo_takes 16 = .ok (.iconst 0, 1) := by decide +kernel
theorem dd_Mo_takes_17 : decode bm_Mo_takes 17 = .ok (.ireturn, 1) := by decide +kernel
theorem dd_Mo_takes_18 : decode bm_Mo_takes 18 = .ok (.aload_n 0, 1) := by decide +kernel
theorem dd_Mo_takes_19 : decode bm_Mo_takes 19 = .ok (.getfield 56, 3) := by decide +kernel
theorem dd_Mo_takes_22 : decode bm_Mo_takes 22 = .ok (.iload_n 3, 1) := by decide +kernel
theorem dd_Mo_takes_23 : decode bm_Mo_takes 23 = .ok (.iaload, 1) := by decide +kernel
theorem dd_Mo_takes_24 : decode bm_Mo_takes 24 = .ok (.ifCond .le 78, 3) := by decide +kernel
theorem dd_Mo_takes_27 : decode bm_Mo_takes 27 = .ok (.aload_n 0, 1) := by decide +kernel
theorem dd_Mo_takes_28 : decode bm_Mo_takes 28 = .ok (.getfield 56, 3) := by decide +kernel
theorem dd_Mo_takes_31 : decode bm_Mo_takes 31 = .ok (.iload_n 3, 1) := by decide +kernel
theorem dd_Mo_takes_32 : decode bm_Mo_takes 32 = .ok (.iaload, 1) := by decide +kernel
theorem dd_Mo_takes_33 : decode bm_Mo_takes 33 = .ok (.iconst 1, 1) := by decide +kernel
theorem dd_Mo_takes_34 : decode bm_Mo_takes 34 = .ok (.isub, 1) := by decide +kernel
theorem dd_Mo_takes_35 : decode bm_Mo_takes 35 = .ok (.istore 6, 2) := by decide +kernel
theorem dd_Mo_takes_37 : decode bm_Mo_takes 37 = .ok (.bipush 18, 2) := by decide +kernel
theorem dd_Mo_takes_39 : decode bm_Mo_takes 39 = .ok (.iload_n 1, 1) := by decide +kernel
theorem dd_Mo_takes_40 : decode bm_Mo_takes 40 = .ok (.imul, 1) := by decide +kernel
theorem dd_Mo_takes_41 : decode bm_Mo_takes 41 = .ok (.bipush 6, 2) := by decide +kernel
theorem dd_Mo_takes_43 : decode bm_Mo_takes 43 = .ok (.iload_n 2, 1) := by decide +kernel
theorem dd_Mo_takes_44 : decode bm_Mo_takes 44 = .ok (.imul, 1) := by decide +kernel
theorem dd_Mo_takes_45 : decode bm_Mo_takes 45 = .ok (.iadd, 1) := by decide +kernel
theorem dd_Mo_takes_46 : decode bm_Mo_takes 46 = .ok (.iload 6, 2) := by decide +kernel
theorem dd_Mo_takes_48 : decode bm_Mo_takes 48 = .ok (.iadd, 1) := by decide +kernel
theorem dd_Mo_takes_49 : decode bm_Mo_takes 49 = .ok (.istore 7, 2) := by decide +kernel
theorem dd_Mo_takes_51 : decode bm_Mo_takes 51 = .ok (.aload_n 0, 1) := by decide +kernel
theorem dd_Mo_takes_52 : decode bm_Mo_takes 52 = .ok (.getfield 68, 3) := by decide +kernel
theorem dd_Mo_takes_55 : decode bm_Mo_takes 55 = .ok (.iload 7, 2) := by decide +kernel
theorem dd_Mo_takes_57 : decode bm_Mo_takes 57 = .ok (.iaload, 1) := by decide +kernel
theorem dd_Mo_takes_58 : decode bm_Mo_takes 58 = .ok (.iload 4, 2) := by decide +kernel
theorem dd_Mo_takes_60 : decode bm_Mo_takes 60 = .ok (.if_icmp .ge 5, 3) := by decide +kernel
theorem dd_Mo_takes_63 : decode bm_Mo_takes 63 = .ok (.iconst 0, 1) := by decide +kernel
theorem dd_Mo_takes_64 : decode bm_Mo_takes 64 = .ok (.ireturn, 1) := by decide +kernel
theorem dd_Mo_takes_65 : decode bm_Mo_takes 65 = .ok (.aload_n 0, 1) := by decide +kernel
theorem dd_Mo_takes_66 : decode bm_Mo_takes 66 = .ok (.getfield 68, 3) := by decide +kernel
theorem dd_Mo_takes_69 : decode bm_Mo_takes 69 = .ok (.iload 7, 2) := by decide +kernel
theorem dd_Mo_takes_71 : decode bm_Mo_takes 71 = .ok (.dup2, 1) := by decide +kernel
theorem dd_Mo_takes_72 : decode bm_Mo_takes 72 = .ok (.iaload, 1) := by decide +kernel
theorem dd_Mo_takes_73 : decode bm_Mo_takes 73 = .ok (.iload 4, 2) := by decide +kernel
theorem dd_Mo_takes_75 : decode bm_Mo_takes 75 = .ok (.isub, 1) := by decide +kernel
theorem dd_Mo_takes_76 : decode bm_Mo_takes 76 = .ok (.iastore, 1) := by decide +kernel
theorem dd_Mo_takes_77 : decode bm_Mo_takes 77 = .ok (.aload_n 0, 1) := by decide +kernel
theorem dd_Mo_takes_78 : decode bm_Mo_takes 78 = .ok (.getfield 65, 3) := by decide +kernel
theorem dd_Mo_takes_81 : decode bm_Mo_takes 81 = .ok (.bipush 24, 2) := by decide +kernel
theorem dd_Mo_takes_83 : decode bm_Mo_takes 83 = .ok (.iload_n 1, 1) := by decide +kernel
theorem dd_Mo_takes_84 : decode bm_Mo_takes 84 = .ok (.imul, 1) := by decide +kernel
theorem dd_Mo_takes_85 : decode bm_Mo_takes 85 = .ok (.bipush 6, 2) := by decide +kernel
theorem dd_Mo_takes_87 : decode bm_Mo_takes 87 = .ok (.iload 5, 2) := by decide +kernel
theorem dd_Mo_takes_89 : decode bm_Mo_takes 89 = .ok (.imul, 1) := by decide +kernel
theorem dd_Mo_takes_90 : decode bm_Mo_takes 90 = .ok (.iadd, 1) := by decide +kernel
theorem dd_Mo_takes_91 : decode bm_Mo_takes 91 = .ok (.iload 6, 2) := by decide +kernel
theorem dd_Mo_takes_93 : decode bm_Mo_takes 93 = .ok (.iadd, 1) := by decide +kernel
theorem dd_Mo_takes_94 : decode bm_Mo_takes 94 = .ok (.dup2, 1) := by decide +kernel
theorem dd_Mo_takes_95 : decode bm_Mo_takes 95 = .ok (.iaload, 1) := by decide +kernel
theorem dd_Mo_takes_96 : decode bm_Mo_takes 96 = .ok (.iload 4, 2) := by decide +kernel
theorem dd_Mo_takes_98 : decode bm_Mo_takes 98 = .ok (.iadd, 1) := by decide +kernel
theorem dd_Mo_takes_99 : decode bm_Mo_takes 99 = .ok (.iastore, 1) := by decide +kernel
theorem dd_Mo_takes_100 : decode bm_Mo_takes 100 = .ok (.iconst 1, 1) := by decide +kernel
theorem dd_Mo_takes_101 : decode bm_Mo_takes 101 = .ok (.ireturn, 1) := by decide +kernel
theorem dd_Mo_takes_102 : decode bm_Mo_takes 102 = .ok (.aload_n 0, 1) := by decide +kernel
theorem dd_Mo_takes_103 : decode bm_Mo_takes 103 = .ok (.iload_n 1, 1) := by decide +kernel
theorem dd_Mo_takes_104 : decode bm_Mo_takes 104 = .ok (.aload_n 0, 1) := by decide +kernel
theorem dd_Mo_takes_105 : decode bm_Mo_takes 105 = .ok (.getfield 44, 3) := by decide +kernel
theorem dd_Mo_takes_108 : decode bm_Mo_takes 108 = .ok (.iload_n 3, 1) := by decide +kernel
theorem dd_Mo_takes_109 : decode bm_Mo_takes 109 = .ok (.iaload, 1) := by decide +kernel
theorem dd_Mo_takes_110 : decode bm_Mo_takes 110 = .ok (.iload_n 2, 1) := by decide +kernel
theorem dd_Mo_takes_111 : decode bm_Mo_takes 111 = .ok (.invokevirtual 132, 3) := by decide +kernel
theorem dd_Mo_takes_114 : decode bm_Mo_takes 114 = .ok (.istore 6, 2) := by decide +kernel
theorem dd_Mo_takes_116 : decode bm_Mo_takes 116 = .ok (.iload 6, 2) := by decide +kernel
theorem dd_Mo_takes_118 : decode bm_Mo_takes 118 = .ok (.ifCond .ne 15, 3) := by decide +kernel
theorem dd_Mo_takes_121 : decode bm_Mo_takes 121 = .ok (.aload_n 0, 1) := by decide +kernel
theorem dd_Mo_takes_122 : decode bm_Mo_takes 122 = .ok (.getfield 71, 3) := by decide +kernel
theorem dd_Mo_takes_125 : decode bm_Mo_takes 125 = .ok (.iload_n 1, 1) := by decide +kernel
theorem dd_Mo_takes_126 : decode bm_Mo_takes 126 = .ok (.iaload, 1) := by decide +kernel
theorem dd_Mo_takes_127 : decode bm_Mo_takes 127 = .ok (.iconst 5, 1) := by decide +kernel
theorem dd_Mo_takes_128 : decode bm_Mo_takes 128 = .ok (.if_icmp .ne 5, 3) := by decide +kernel
theorem dd_Mo_takes_131 : decode bm_Mo_takes 131 = .ok (.iconst 0, 1) := by decide +kernel
theorem dd_Mo_takes_132 : decode bm_Mo_takes 132 = .ok (.ireturn, 1) := by decide +kernel
theorem dd_Mo_takes_133 : decode bm_Mo_takes 133 = .ok (.iload 6, 2) := by decide +kernel
theorem dd_Mo_takes_135 : decode bm_Mo_takes 135 = .ok (.ifCond .ne 52, 3) := by decide +kernel
theorem dd_Mo_takes_138 : decode bm_Mo_takes 138 = .ok (.aload_n 0, 1) := by decide +kernel
theorem dd_Mo_takes_139 : decode bm_Mo_takes 139 = .ok (.getfield 71, 3) := by decide +kernel
theorem dd_Mo_takes_142 : decode bm_Mo_takes 142 = .ok (.iload_n 1, 1) := by decide +kernel
theorem dd_Mo_takes_143 : decode bm_Mo_takes 143 = .ok (.dup2, 1) := by decide +kernel
theorem dd_Mo_takes_144 : decode bm_Mo_takes 144 = .ok (.iaload, 1) := by decide +kernel
theorem dd_Mo_takes_145 : decode bm_Mo_takes 145 = .ok (.iconst 1, 1) := by decide +kernel
theorem dd_Mo_takes_146 : decode bm_Mo_takes 146 = .ok (.iadd, 1) := by decide +kernel
theorem dd_Mo_takes_147 : decode bm_Mo_takes 147 = .ok (.iastore, 1) := by decide +kernel
theorem dd_Mo_takes_148 : decode bm_Mo_takes 148 = .ok (.aload_n 0, 1) := by decide +kernel
theorem dd_Mo_takes_149 : decode bm_Mo_takes 149 = .ok (.getfield 71, 3) := by decide +kernel
theorem dd_Mo_takes_152 : decode bm_Mo_takes 152 = .ok (.iload_n 1, 1) := by decide +kernel
theorem dd_Mo_takes_153 : decode bm_Mo_takes 153 = .ok (.iaload, 1) := by decide +kernel
theorem dd_Mo_takes_154 : decode bm_Mo_takes 154 = .ok (.istore 6, 2) := by decide +kernel
theorem dd_Mo_takes_156 : decode bm_Mo_takes 156 = .ok (.aload_n 0, 1) := by decide +kernel
theorem dd_Mo_takes_157 : decode bm_Mo_takes 157 = .ok (.getfield 74, 3) := by decide +kernel
theorem dd_Mo_takes_160 : decode bm_Mo_takes 160 = .ok (.bipush 6, 2) := by decide +kernel
theorem dd_Mo_takes_162 : decode bm_Mo_takes 162 = .ok (.iload_n 1, 1) := by decide +kernel
theorem dd_Mo_takes_163 : decode bm_Mo_takes 163 = .ok (.imul, 1) := by decide +kernel
theorem dd_Mo_takes_164 : decode bm_Mo_takes 164 = .ok (.iload 6, 2) := by decide +kernel
theorem dd_Mo_takes_166 : decode bm_Mo_takes 166 = .ok (.iadd, 1) := by decide +kernel
theorem dd_Mo_takes_167 : decode bm_Mo_takes 167 = .ok (.aload_n 0, 1) := by decide +kernel
theorem dd_Mo_takes_168 : decode bm_Mo_takes 168 = .ok (.getfield 44, 3) := by decide +kernel
theorem dd_Mo_takes_171 : decode bm_Mo_takes 171 = .ok (.iload_n 3, 1) := by decide +kernel
theorem dd_Mo_takes_172 : decode bm_Mo_takes 172 = .ok (.iaload, 1) := by decide +kernel
theorem dd_Mo_takes_173 : decode bm_Mo_takes 173 = .ok (.iastore, 1) := by decide +kernel
theorem dd_Mo_takes_174 : decode bm_Mo_takes 174 = .ok (.aload_n 0, 1) := by decide +kernel
theorem dd_Mo_takes_175 : decode bm_Mo_takes 175 = .ok (.getfield 77, 3) := by decide +kernel
theorem dd_Mo_takes_178 : decode bm_Mo_takes 178 = .ok (.bipush 6, 2) := by decide +kernel
theorem dd_Mo_takes_180 : decode bm_Mo_takes 180 = .ok (.iload_n 1, 1) := by decide +kernel
theorem dd_Mo_takes_181 : decode bm_Mo_takes 181 = .ok (.imul, 1) := by decide +kernel
theorem dd_Mo_takes_182 : decode bm_Mo_takes 182 = .ok (.iload 6, 2) := by decide +kernel
theorem dd_Mo_takes_184 : decode bm_Mo_takes 184 = .ok (.iadd, 1) := by decide +kernel
theorem dd_Mo_takes_185 : decode bm_Mo_takes 185 = .ok (.iload_n 2, 1) := by decide +kernel
theorem dd_Mo_takes_186 : decode bm_Mo_takes 186 = .ok (.iastore, 1) := by decide +kernel
theorem dd_Mo_takes_187 : decode bm_Mo_takes 187 = .ok (.aload_n 0, 1) := by decide +kernel
theorem dd_Mo_takes_188 : decode bm_Mo_takes 188 = .ok (.getfield 65, 3) := by decide +kernel
theorem dd_Mo_takes_191 : decode bm_Mo_takes 191 = .ok (.bipush 24, 2) := by decide +kernel
theorem dd_Mo_takes_193 : decode bm_Mo_takes 193 = .ok (.iload_n 1, 1) := by decide +kernel
theorem dd_Mo_takes_194 : decode bm_Mo_takes 194 = .ok (.imul, 1) := by decide +kernel
theorem dd_Mo_takes_195 : decode bm_Mo_takes 195 = .ok (.bipush 6, 2) := by decide +kernel
theorem dd_Mo_takes_197 : decode bm_Mo_takes 197 = .ok (.iload 5, 2) := by decide +kernel
theorem dd_Mo_takes_199 : decode bm_Mo_takes 199 = .ok (.imul, 1) := by decide +kernel
theorem dd_Mo_takes_200 : decode bm_Mo_takes 200 = .ok (.iadd, 1) := by decide +kernel
theorem dd_Mo_takes_201 : decode bm_Mo_takes 201 = .ok (.iload 6, 2) := by decide +kernel
theorem dd_Mo_takes_203 : decode bm_Mo_takes 203 = .ok (.iadd, 1) := by decide +kernel
theorem dd_Mo_takes_204 : decode bm_Mo_takes 204 = .ok (.dup2, 1) := by decide +kernel
theorem dd_Mo_takes_205 : decode bm_Mo_takes 205 = .ok (.iaload, 1) := by decide +kernel
theorem dd_Mo_takes_206 : decode bm_Mo_takes 206 = .ok (.iload 4, 2) := by decide +kernel
theorem dd_Mo_takes_208 : decode bm_Mo_takes 208 = .ok (.iadd, 1) := by decide +kernel
theorem dd_Mo_takes_209 : decode bm_Mo_takes 209 = .ok (.iastore, 1) := by decide +kernel
theorem dd_Mo_takes_210 : decode bm_Mo_takes 210 = .ok (.iconst 1, 1) := by decide +kernel
theorem dd_Mo_takes_211 : decode bm_Mo_takes 211 = .ok (.ireturn, 1) := by decide +kernel
theorem dd_Mo_receive_0 : decode bm_Mo_receive 0 = .ok (.iload_n 1, 1) := by decide +kernel
theorem dd_Mo_receive_1 : decode bm_Mo_receive 1 = .ok (.iload_n 2, 1) := by decide +kernel
theorem dd_Mo_receive_2 : decode bm_Mo_receive 2 = .ok (.invokestatic 121, 3) := by decide +kernel
theorem dd_Mo_receive_5 : decode bm_Mo_receive 5 = .ok (.ifCond .eq 23, 3) := by decide +kernel
theorem dd_Mo_receive_8 : decode bm_Mo_receive 8 = .ok (.iload_n 3, 1) := by decide +kernel
theorem dd_Mo_receive_9 : decode bm_Mo_receive 9 = .ok (.iconst 1, 1) := by decide +kernel
theorem dd_Mo_receive_10 : decode bm_Mo_receive 10 = .ok (.aload_n 0, 1) := by decide +kernel
theorem dd_Mo_receive_11 : decode bm_Mo_receive 11 = .ok (.getfield 35, 3) := by decide +kernel
theorem dd_Mo_receive_14 : decode bm_Mo_receive 14 = .ok (.iconst 3, 1) := by decide +kernel
theorem dd_Mo_receive_15 : decode bm_Mo_receive 15 = .ok (.iconst 1, 1) := by decide +kernel
theorem dd_Mo_receive_16 : decode bm_Mo_receive 16 = .ok (.iload_n 1, 1) := by decide +kernel
theorem dd_Mo_receive_17 : decode bm_Mo_receive 17 = .ok (.isub, 1) := by decide +kernel
theorem dd_Mo_receive_18 : decode bm_Mo_receive 18 = .ok (.imul, 1) := by decide +kernel
theorem dd_Mo_receive_19 : decode bm_Mo_receive 19 = .ok (.iload_n 2, 1) := by decide +kernel
theorem dd_Mo_receive_20 : decode bm_Mo_receive 20 = .ok (.iadd, 1) := by decide +kernel
theorem dd_Mo_receive_21 : decode bm_Mo_receive 21 = .ok (.iaload, 1) := by decide +kernel
theorem dd_Mo_receive_22 : decode bm_Mo_receive 22 = .ok (.invokestatic 91, 3) := by decide +kernel
theorem dd_Mo_receive_25 : decode bm_Mo_receive 25 = .ok (.ifCond .eq 5, 3) := by decide +kernel
theorem dd_Mo_receive_28 : decode bm_Mo_receive 28 = .ok (.iconst (-1), 1) := by decide +kernel
theorem dd_Mo_receive_29 : decode bm_Mo_receive 29 = .ok (.ireturn, 1) := by decide +kernel
theorem dd_Mo_receive_30 : decode bm_Mo_receive 30 = .ok (.iconst 3, 1) := by decide +kernel
theorem dd_Mo_receive_31 : decode bm_Mo_receive 31 = .ok (.iload_n 1, 1) := by decide +kernel
theorem dd_Mo_receive_32 : decode bm_Mo_receive 32 = .ok (.imul, 1) := by decide +kernel
theorem dd_Mo_receive_33 : decode bm_Mo_receive 33 = .ok (.iload_n 2, 1) := by decide +kernel
theorem dd_Mo_receive_34 : decode bm_Mo_receive 34 = .ok (.iadd, 1) := by decide +kernel
theorem dd_Mo_receive_35 : decode bm_Mo_receive 35 = .ok (.istore 6, 2) := by decide +kernel
theorem dd_Mo_receive_37 : decode bm_Mo_receive 37 = .ok (.bipush 13, 2) := by decide +kernel
theorem dd_Mo_receive_39 : decode bm_Mo_receive 39 = .ok (.iconst 3, 1) := by decide +kernel
theorem dd_Mo_receive_40 : decode bm_Mo_receive 40 = .ok (.iconst 1, 1) := by decide +kernel
theorem dd_Mo_receive_41 : decode bm_Mo_receive 41 = .ok (.iload_n 1, 1) := by decide +kernel
theorem dd_Mo_receive_42 : decode bm_Mo_receive 42 = .ok (.isub, 1) := by decide +kernel
theorem dd_Mo_receive_43 : decode bm_Mo_receive 43 = .ok (.imul, 1) := by decide +kernel
theorem dd_Mo_receive_44 : decode bm_Mo_receive 44 = .ok (.iload_n 2, 1) := by decide +kernel
theorem dd_Mo_receive_45 : decode bm_Mo_receive 45 = .ok (.iadd, 1) := by decide +kernel
theorem dd_Mo_receive_46 : decode bm_Mo_receive 46 = .ok (.imul, 1) := by decide +kernel
theorem dd_Mo_receive_47 : decode bm_Mo_receive 47 = .ok (.iload_n 3, 1) := by decide +kernel
theorem dd_Mo_receive_48 : decode bm_Mo_receive 48 = .ok (.iadd, 1) := by decide +kernel
theorem dd_Mo_receive_49 : decode bm_Mo_receive 49 = .ok (.istore 7, 2) := by decide +kernel
theorem dd_Mo_receive_51 : decode bm_Mo_receive 51 = .ok (.aload_n 0, 1) := by decide +kernel
theorem dd_Mo_receive_52 : decode bm_Mo_receive 52 = .ok (.getfield 29, 3) := by decide +kernel
theorem dd_Mo_receive_55 : decode bm_Mo_receive 55 = .ok (.iload 6, 2) := by decide +kernel
theorem dd_Mo_receive_57 : decode bm_Mo_receive 57 = .ok (.iaload, 1) := by decide +kernel
theorem dd_Mo_receive_58 : decode bm_Mo_receive 58 = .ok (.iconst 3, 1) := by decide +kernel
theorem dd_Mo_receive_59 : decode bm_Mo_receive 59 = .ok (.if_icmp .eq 6, 3) := by decide +kernel
theorem dd_Mo_receive_62 : decode bm_Mo_receive 62 = .ok (.bipush (-2), 2) := by decide +kernel
theorem dd_Mo_receive_64 : decode bm_Mo_receive 64 = .ok (.ireturn, 1) := by decide +kernel
theorem dd_Mo_receive_65 : decode bm_Mo_receive 65 = .ok (.aload_n 0, 1) := by decide +kernel
theorem dd_Mo_receive_66 : decode bm_Mo_receive 66 = .ok (.getfield 7, 3) := by decide +kernel
theorem dd_Mo_receive_69 : decode bm_Mo_receive 69 = .ok (.iload_n 1, 1) := by decide +kernel
theorem dd_Mo_receive_70 : decode bm_Mo_receive 70 = .ok (.iaload, 1) := by decide +kernel
theorem dd_Mo_receive_71 : decode bm_Mo_receive 71 = .ok (.aload_n 0, 1) := by decide +kernel
theorem dd_Mo_receive_72 : decode bm_Mo_receive 72 = .ok (.getfield 53, 3) := by decide +kernel
theorem dd_Mo_receive_75 : decode bm_Mo_receive 75 = .ok (.iload 7, 2) := by decide +kernel
theorem dd_Mo_receive_77 : decode bm_Mo_receive 77 = .ok (.iaload, 1) := by decide +kernel
theorem dd_Mo_receive_78 : decode bm_Mo_receive 78 = .ok (.if_icmp .lt 6, 3) := by decide +kernel
theorem dd_Mo_receive_81 : decode bm_Mo_receive 81 = .ok (.bipush (-9), 2) := by decide +kernel
theorem dd_Mo_receive_83 : decode bm_Mo_receive 83 = .ok (.ireturn, 1) := by decide +kernel
theorem dd_Mo_receive_84 : decode bm_Mo_receive 84 = .ok (.aload_n 0, 1) := by decide +kernel
theorem dd_Mo_receive_85 : decode bm_Mo_receive 85 = .ok (.getfield 32, 3) := by decide +kernel
theorem dd_Mo_receive_88 : decode bm_Mo_receive 88 = .ok (.iload 6, 2) := by decide +kernel
theorem dd_Mo_receive_90 : decode bm_Mo_receive 90 = .ok (.baload, 1) := by decide +kernel
theorem dd_Mo_receive_91 : decode bm_Mo_receive 91 = .ok (.ifCond .eq 17, 3) := by decide +kernel
theorem dd_Mo_receive_94 : decode bm_Mo_receive 94 = .ok (.iload_n 3, 1) := by decide +kernel
theorem dd_Mo_receive_95 : decode bm_Mo_receive 95 = .ok (.aload_n 0, 1) := by decide +kernel
theorem dd_Mo_receive_96 : decode bm_Mo_receive 96 = .ok (.getfield 38, 3) := by decide +kernel
theorem dd_Mo_receive_99 : decode bm_Mo_receive 99 = .ok (.iload 6, 2) := by decide +kernel
theorem dd_Mo_receive_101 : decode bm_Mo_receive 101 = .ok (.iaload, 1) := by decide +kernel
theorem dd_Mo_receive_102 : decode bm_Mo_receive 102 = .ok (.if_icmp .eq 19, 3) := by decide +kernel
theorem dd_Mo_receive_105 : decode bm_Mo_receive 105 = .ok (.goto 13, 3) := by decide +kernel
theorem dd_Mo_receive_108 : decode bm_Mo_receive 108 = .ok (.aload_n 0, 1) := by decide +kernel
theorem dd_Mo_receive_109 : decode bm_Mo_receive 109 = .ok (.getfield 62, 3) := by decide +kernel
theorem dd_Mo_receive_112 : decode bm_Mo_receive 112 = .ok (.iload 7, 2) := by decide +kernel
theorem dd_Mo_receive_114 : decode bm_Mo_receive 114 = .ok (.iaload, 1) := by decide +kernel
theorem dd_Mo_receive_115 : decode bm_Mo_receive 115 = .ok (.ifCond .le 6, 3) := by decide +kernel
theorem dd_Mo_receive_118 : decode bm_Mo_receive 118 = .ok (.bipush (-8), 2) := by decide +kernel
theorem dd_Mo_receive_120 : decode bm_Mo_receive 120 = .ok (.ireturn, 1) := by decide +kernel
theorem dd_Mo_receive_121 : decode bm_Mo_receive 121 = .ok (.aload_n 0, 1) := by decide +kernel
theorem dd_Mo_receive_122 : decode bm_Mo_receive 122 = .ok (.getfield 47, 3) := by decide +kernel
theorem dd_Mo_receive_125 : decode bm_Mo_receive 125 = .ok (.iload 7, 2) := by decide +kernel
theorem dd_Mo_receive_127 : decode bm_Mo_receive 127 = .ok (.iaload, 1) := by decide +kernel
theorem dd_Mo_receive_128 : decode bm_Mo_receive 128 = .ok (.iload 5, 2) := by decide +kernel
theorem dd_Mo_receive_130 : decode bm_Mo_receive 130 = .ok (.invokestatic 124, 3) := by decide +kernel
theorem dd_Mo_receive_133 : decode bm_Mo_receive 133 = .ok (.iadd, 1) := by decide +kernel
theorem dd_Mo_receive_134 : decode bm_Mo_receive 134 = .ok (.istore 8, 2) := by decide +kernel
theorem dd_Mo_receive_136 : decode bm_Mo_receive 136 = .ok (.aload_n 0, 1) := by decide +kernel
theorem dd_Mo_receive_137 : decode bm_Mo_receive 137 = .ok (.iload_n 1, 1) := by decide +kernel
theorem dd_Mo_receive_138 : decode bm_Mo_receive 138 = .ok (.iload 4, 2) := by decide +kernel
theorem dd_Mo_receive_140 : decode bm_Mo_receive 140 = .ok (.sipush 12288, 3) := by decide +kernel
theorem dd_Mo_receive_143 : decode bm_Mo_receive 143 = .ok (.bipush 64, 2) := by decide +kernel
theorem dd_Mo_receive_145 : decode bm_Mo_receive 145 = .ok (.iload_n 2, 1) := by decide +kernel
theorem dd_Mo_receive_146 : decode bm_Mo_receive 146 = .ok (.imul, 1) := by decide +kernel
theorem dd_Mo_receive_147 : decode bm_Mo_receive 147 = .ok (.iadd, 1) := by decide +kernel
theorem dd_Mo_receive_148 : decode bm_Mo_receive 148 = .ok (.iload_n 3, 1) := by decide +kernel
theorem dd_Mo_receive_149 : decode bm_Mo_receive 149 = .ok (.iadd, 1) := by decide +kernel
theorem dd_Mo_receive_150 : decode bm_Mo_receive 150 = .ok (.iconst 0, 1) := by decide +kernel
theorem dd_Mo_receive_151 : decode bm_Mo_receive 151 = .ok (.aload_n 0, 1) := by decide +kernel
theorem dd_Mo_receive_152 : decode bm_Mo_receive 152 = .ok (.iload 7, 2) := by decide +kernel
theorem dd_Mo_receive_154 : decode bm_Mo_receive 154 = .ok (.iload 8, 2) := by decide +kernel
theorem dd_Mo_receive_156 : decode bm_Mo_receive 156 = .ok (.invokevirtual 103, 3) := by decide +kernel
theorem dd_Mo_receive_159 : decode bm_Mo_receive 159 = .ok (.invokevirtual 128, 3) := by decide +kernel
theorem dd_Mo_receive_162 : decode bm_Mo_receive 162 = .ok (.istore 9, 2) := by decide +kernel
theorem dd_Mo_receive_164 : decode bm_Mo_receive 164 = .ok (.iload 9, 2) := by decide +kernel
theorem dd_Mo_receive_166 : decode bm_Mo_receive 166 = .ok (.ifCond .eq 6, 3) := by decide +kernel
theorem dd_Mo_receive_169 : decode bm_Mo_receive 169 = .ok (.iload 9, 2) := by decide +kernel
theorem dd_Mo_receive_171 : decode bm_Mo_receive 171 = .ok (.ireturn, 1) := by decide +kernel
theorem dd_Mo_receive_172 : decode bm_Mo_receive 172 = .ok (.aload_n 0, 1) := by decide +kernel
theorem dd_Mo_receive_173 : decode bm_Mo_receive 173 = .ok (.getfield 62, 3) := by decide +kernel
theorem dd_Mo_receive_176 : decode bm_Mo_receive 176 = .ok (.iload 7, 2) := by decide +kernel
theorem dd_Mo_receive_178 : decode bm_Mo_receive 178 = .ok (.aload_n 0, 1) := by decide +kernel
theorem dd_Mo_receive_179 : decode bm_Mo_receive 179 = .ok (.iload_n 1, 1) := by decide +kernel
theorem dd_Mo_receive_180 : decode bm_Mo_receive 180 = .ok (.iload_n 2, 1) := by decide +kernel
theorem dd_Mo_receive_181 : decode bm_Mo_receive 181 = .ok (.iload 7, 2) := by decide +kernel
theorem dd_Mo_receive_183 : decode bm_Mo_receive 183 = .ok (.iload 8, 2) := by decide +kernel
theorem dd_Mo_receive_185 : decode bm_Mo_receive 185 = .ok (.invokevirtual 136, 3) := by decide +kernel
theorem dd_Mo_receive_188 : decode bm_Mo_receive 188 = .ok (.ifCond .eq 7, 3) := by decide +kernel
theorem dd_Mo_receive_191 : decode bm_Mo_receive 191 = .ok (.iconst 1, 1) := by decide +kernel
theorem dd_Mo_receive_192 : decode bm_Mo_receive 192 = .ok (.goto 4, 3) := by decide +kernel
theorem dd_Mo_receive_195 : decode bm_Mo_receive 195 = .ok (.iconst 2, 1) := by decide +kernel
theorem dd_Mo_receive_196 : decode bm_Mo_receive 196 = .ok (.iastore, 1) := by decide +kernel
theorem dd_Mo_receive_197 : decode bm_Mo_receive 197 = .ok (.aload_n 0, 1) := by decide +kernel
theorem dd_Mo_receive_198 : decode bm_Mo_receive 198 = .ok (.getfield 32, 3) := by decide +kernel
theorem dd_Mo_receive_201 : decode bm_Mo_receive 201 = .ok (.iload 6, 2) := by decide +kernel
theorem dd_Mo_receive_203 : decode bm_Mo_receive 203 = .ok (.baload, 1) := by decide +kernel
theorem dd_Mo_receive_204 : decode bm_Mo_receive 204 = .ok (.ifCond .eq 13, 3) := by decide +kernel
theorem dd_Mo_receive_207 : decode bm_Mo_receive 207 = .ok (.aload_n 0, 1) := by decide +kernel
theorem dd_Mo_receive_208 : decode bm_Mo_receive 208 = .ok (.getfield 38, 3) := by decide +kernel
theorem dd_Mo_receive_211 : decode bm_Mo_receive 211 = .ok (.iload 6, 2) := by decide +kernel
theorem dd_Mo_receive_213 : decode bm_Mo_receive 213 = .ok (.iload_n 3, 1) := by decide +kernel
theorem dd_Mo_receive_214 : decode bm_Mo_receive 214 = .ok (.iconst 1, 1) := by decide +kernel
theorem dd_Mo_receive_215 : decode bm_Mo_receive 215 = .ok (.iadd, 1) := by decide +kernel
theorem dd_Mo_receive_216 : decode bm_Mo_receive 216 = .ok (.iastore, 1) := by decide +kernel
theorem dd_Mo_receive_217 : decode bm_Mo_receive 217 = .ok (.aload_n 0, 1) := by decide +kernel
theorem dd_Mo_receive_218 : decode bm_Mo_receive 218 = .ok (.getfield 62, 3) := by decide +kernel
theorem dd_Mo_receive_221 : decode bm_Mo_receive 221 = .ok (.iload 7, 2) := by decide +kernel
theorem dd_Mo_receive_223 : decode bm_Mo_receive 223 = .ok (.iaload, 1) := by decide +kernel
theorem dd_Mo_receive_224 : decode bm_Mo_receive 224 = .ok (.ireturn, 1) := by decide +kernel
theorem dd_Mo_refund_0 : decode bm_Mo_refund 0 = .ok (.aload_n 0, 1) := by decide +kernel
theorem dd_Mo_refund_1 : decode bm_Mo_refund 1 = .ok (.getfield 65, 3) := by decide +kernel
theorem dd_Mo_refund_4 : decode bm_Mo_refund 4 = .ok (.bipush 24, 2) := by decide +kernel
theorem dd_Mo_refund_6 : decode bm_Mo_refund 6 = .ok (.iload_n 1, 1) := by decide +kernel
theorem dd_Mo_refund_7 : decode bm_Mo_refund 7 = .ok (.imul, 1) := by decide +kernel
theorem dd_Mo_refund_8 : decode bm_Mo_refund 8 = .ok (.bipush 6, 2) := by decide +kernel
theorem dd_Mo_refund_10 : decode bm_Mo_refund 10 = .ok (.aload_n 0, 1) := by decide +kernel
theorem dd_Mo_refund_11 : decode bm_Mo_refund 11 = .ok (.getfield 50, 3) := by decide +kernel
theorem dd_Mo_refund_14 : decode bm_Mo_refund 14 = .ok (.iload_n 3, 1) := by decide +kernel
theorem dd_Mo_refund_15 : decode bm_Mo_refund 15 = .ok (.iaload, 1) := by decide +kernel
theorem dd_Mo_refund_16 : decode bm_Mo_refund 16 = .ok (.iconst 4, 1) := by decide +kernel
theorem dd_Mo_refund_17 : decode bm_Mo_refund 17 = .ok (.idiv, 1) := by decide +kernel
theorem dd_Mo_refund_18 : decode bm_Mo_refund 18 = .ok (.imul, 1) := by decide +kernel
theorem dd_Mo_refund_19 : decode bm_Mo_refund 19 = .ok (.iadd, 1) := by decide +kernel
theorem dd_Mo_refund_20 : decode bm_Mo_refund 20 = .ok (.aload_n 0, 1) := by decide +kernel
theorem dd_Mo_refund_21 : decode bm_Mo_refund 21 = .ok (.getfield 44, 3) := by decide +kernel
theorem dd_Mo_refund_24 : decode bm_Mo_refund 24 = .ok (.iload_n 3, 1) := by decide +kernel
theorem dd_Mo_refund_25 : decode bm_Mo_refund 25 = .ok (.iaload, 1) := by decide +kernel
theorem dd_Mo_refund_26 : decode bm_Mo_refund 26 = .ok (.iadd, 1) := by decide +kernel
theorem dd_Mo_refund_27 : decode bm_Mo_refund 27 = .ok (.dup2, 1) := by decide +kernel
theorem dd_Mo_refund_28 : decode bm_Mo_refund 28 = .ok (.iaload, 1) := by decide +kernel
theorem dd_Mo_refund_29 : decode bm_Mo_refund 29 = .ok (.aload_n 0, 1) := by decide +kernel
theorem dd_Mo_refund_30 : decode bm_Mo_refund 30 = .ok (.getfield 47, 3) := by decide +kernel
theorem dd_Mo_refund_33 : decode bm_Mo_refund 33 = .ok (.iload_n 3, 1) := by decide +kernel
theorem dd_Mo_refund_34 : decode bm_Mo_refund 34 = .ok (.iaload, 1) := by decide +kernel
theorem dd_Mo_refund_35 : decode bm_Mo_refund 35 = .ok (.iadd, 1) := by decide +kernel
theorem dd_Mo_refund_36 : decode bm_Mo_refund 36 = .ok (.iastore, 1) := by decide +kernel
theorem dd_Mo_refund_37 : decode bm_Mo_refund 37 = .ok (.aload_n 0, 1) := by decide +kernel
theorem dd_Mo_refund_38 : decode bm_Mo_refund 38 = .ok (.getfield 56, 3) := by decide +kernel
theorem dd_Mo_refund_41 : decode bm_Mo_refund 41 = .ok (.iload_n 3, 1) := by decide +kernel
theorem dd_Mo_refund_42 : decode bm_Mo_refund 42 = .ok (.iaload, 1) := by decide +kernel
theorem dd_Mo_refund_43 : decode bm_Mo_refund 43 = .ok (.ifCond .ne 33, 3) := by decide +kernel
theorem dd_Mo_refund_46 : decode bm_Mo_refund 46 = .ok (.aload_n 0, 1) := by decide +kernel
theorem dd_Mo_refund_47 : decode bm_Mo_refund 47 = .ok (.getfield 68, 3) := by decide +kernel
theorem dd_Mo_refund_50 : decode bm_Mo_refund 50 = .ok (.bipush 18, 2) := by decide +kernel
theorem dd_Mo_refund_52 : decode bm_Mo_refund 52 = .ok (.iload_n 1, 1) := by decide +kernel
theorem dd_Mo_refund_53 : decode bm_Mo_refund 53 = .ok (.imul, 1) := by decide +kernel
theorem dd_Mo_refund_54 : decode bm_Mo_refund 54 = .ok (.bipush 6, 2) := by decide +kernel
theorem dd_Mo_refund_56 : decode bm_Mo_refund 56 = .ok (.iload_n 2, 1) := by decide +kernel
theorem dd_Mo_refund_57 : decode bm_Mo_refund 57 = .ok (.imul, 1) := by decide +kernel
theorem dd_Mo_refund_58 : decode bm_Mo_refund 58 = .ok (.iadd, 1) := by decide +kernel
theorem dd_Mo_refund_59 : decode bm_Mo_refund 59 = .ok (.aload_n 0, 1) := by decide +kernel
theorem dd_Mo_refund_60 : decode bm_Mo_refund 60 = .ok (.getfield 44, 3) := by decide +kernel
theorem dd_Mo_refund_63 : decode bm_Mo_refund 63 = .ok (.iload_n 3, 1) := by decide +kernel
theorem dd_Mo_refund_64 : decode bm_Mo_refund 64 = .ok (.iaload, 1) := by decide +kernel
theorem dd_Mo_refund_65 : decode bm_Mo_refund 65 = .ok (.iadd, 1) := by decide +kernel
theorem dd_Mo_refund_66 : decode bm_Mo_refund 66 = .ok (.dup2, 1) := by decide +kernel
theorem dd_Mo_refund_67 : decode bm_Mo_refund 67 = .ok (.iaload, 1) := by decide +kernel
theorem dd_Mo_refund_68 : decode bm_Mo_refund 68 = .ok (.aload_n 0, 1) := by decide +kernel
theorem dd_Mo_refund_69 : decode bm_Mo_refund 69 = .ok (.getfield 47, 3) := by decide +kernel
theorem dd_Mo_refund_72 : decode bm_Mo_refund 72 = .ok (.iload_n 3, 1) := by decide +kernel
theorem dd_Mo_refund_73 : decode bm_Mo_refund 73 = .ok (.iaload, 1) := by decide +kernel
theorem dd_Mo_refund_74 : decode bm_Mo_refund 74 = .ok (.isub, 1) := by decide +kernel
theorem dd_Mo_refund_75 : decode bm_Mo_refund 75 = .ok (.iastore, 1) := by decide +kernel
theorem dd_Mo_refund_76 : decode bm_Mo_refund 76 = .ok (.return_, 1) := by decide +kernel
theorem dd_Mo_acknowledge_0 : decode bm_Mo_acknowledge 0 = .ok (.iload_n 1, 1) := by decide +kernel
theorem dd_Mo_acknowledge_1 : decode bm_Mo_acknowledge 1 = .ok (.iload_n 2, 1) := by decide +kernel
theorem dd_Mo_acknowledge_2 : decode bm_Mo_acknowledge 2 = .ok (.invokestatic 121, 3) := by decide +kernel
theorem dd_Mo_acknowledge_5 : decode bm_Mo_acknowledge 5 = .ok (.ifCond .eq 21, 3) := by decide +kernel
theorem dd_Mo_acknowledge_8 : decode bm_Mo_acknowledge 8 = .ok (.iload_n 3, 1) := by decide +kernel
theorem dd_Mo_acknowledge_9 : decode bm_Mo_acknowledge 9 = .ok (.iconst 1, 1) := by decide +kernel
theorem dd_Mo_acknowledge_10 : decode bm_Mo_acknowledge 10 = .ok (.aload_n 0, 1) := by decide +kernel
theorem dd_Mo_acknowledge_11 : decode bm_Mo_acknowledge 11 = .ok (.getfield 35, 3) := by decide +kernel
theorem dd_Mo_acknowledge_14 : decode bm_Mo_acknowledge 14 = .ok (.iconst 3, 1) := by decide +kernel
theorem dd_Mo_acknowledge_15 : decode bm_Mo_acknowledge 15 = .ok (.iload_n 1, 1) := by decide +kernel
theorem dd_Mo_acknowledge_16 : decode bm_Mo_acknowledge 16 = .ok (.imul, 1) := by decide +kernel
theorem dd_Mo_acknowledge_17 : decode bm_Mo_acknowledge 17 = .ok (.iload_n 2, 1) := by decide +kernel
theorem dd_Mo_acknowledge_18 : decode bm_Mo_acknowledge 18 = .ok (.iadd, 1) := by decide +kernel
theorem dd_Mo_acknowledge_19 : decode bm_Mo_acknowledge 19 = .ok (.iaload, 1) := by decide +kernel
theorem dd_Mo_acknowledge_20 : decode bm_Mo_acknowledge 20 = .ok (.invokestatic 91, 3) := by decide +kernel
theorem dd_Mo_acknowledge_23 : decode bm_Mo_acknowledge 23 = .ok (.ifCond .eq 5, 3) := by decide +kernel
theorem dd_Mo_acknowledge_26 : decode bm_Mo_acknowledge 26 = .ok (.iconst (-1), 1) := by decide +kernel
theorem dd_Mo_acknowledge_27 : decode bm_Mo_acknowledge 27 = .ok (.ireturn, 1) := by decide +kernel
theorem dd_Mo_acknowledge_28 : decode bm_Mo_acknowledge 28 = .ok (.iconst 3, 1) := by decide +kernel
theorem dd_Mo_acknowledge_29 : decode bm_Mo_acknowledge 29 = .ok (.iload_n 1, 1) := by decide +kernel
theorem dd_Mo_acknowledge_30 : decode bm_Mo_acknowledge 30 = .ok (.imul, 1) := by decide +kernel
theorem dd_Mo_acknowledge_31 : decode bm_Mo_acknowledge 31 = .ok (.iload_n 2, 1) := by decide +kernel
theorem dd_Mo_acknowledge_32 : decode bm_Mo_acknowledge 32 = .ok (.iadd, 1) := by decide +kernel
theorem dd_Mo_acknowledge_33 : decode bm_Mo_acknowledge 33 = .ok (.istore 5, 2) := by decide +kernel
theorem dd_Mo_acknowledge_35 : decode bm_Mo_acknowledge 35 = .ok (.bipush 13, 2) := by decide +kernel
theorem dd_Mo_acknowledge_37 : decode bm_Mo_acknowledge 37 = .ok (.iload 5, 2) := by decide +kernel
theorem dd_Mo_acknowledge_39 : decode bm_Mo_acknowledge 39 = .ok (.imul, 1) := by decide +kernel
theorem dd_Mo_acknowledge_40 : decode bm_Mo_acknowledge 40 = .ok (.iload_n 3, 1) := by decide +kernel
theorem dd_Mo_acknowledge_41 : decode bm_Mo_acknowledge 41 = .ok (.iadd, 1) := by decide +kernel
theorem dd_Mo_acknowledge_42 : decode bm_Mo_acknowledge 42 = .ok (.istore 6, 2) := by decide +kernel
theorem dd_Mo_acknowledge_44 : decode bm_Mo_acknowledge 44 = .ok (.aload_n 0, 1) := by decide +kernel
theorem dd_Mo_acknowledge_45 : decode bm_Mo_acknowledge 45 = .ok (.getfield 29, 3) := by decide +kernel
theorem dd_Mo_acknowledge_48 : decode bm_Mo_acknowledge 48 = .ok (.iload 5, 2) := by decide +kernel
theorem dd_Mo_acknowledge_50 : decode bm_Mo_acknowledge 50 = .ok (.iaload, 1) := by decide +kernel
theorem dd_Mo_acknowledge_51 : decode bm_Mo_acknowledge 51 = .ok (.iconst 3, 1) := by decide +kernel
theorem dd_Mo_acknowledge_52 : decode bm_Mo_acknowledge 52 = .ok (.if_icmp .eq 6, 3) := by decide +kernel
theorem dd_Mo_acknowledge_55 : decode bm_Mo_acknowledge 55 = .ok (.bipush (-2), 2) := by decide +kernel
theorem dd_Mo_acknowledge_57 : decode bm_Mo_acknowledge 57 = .ok (.ireturn, 1) := by decide +kernel
theorem dd_Mo_acknowledge_58 : decode bm_Mo_acknowledge 58 = .ok (.aload_n 0, 1) := by decide +kernel
theorem dd_Mo_acknowledge_59 : decode bm_Mo_acknowledge 59 = .ok (.getfield 59, 3) := by decide +kernel
theorem dd_Mo_acknowledge_62 : decode bm_Mo_acknowledge 62 = .ok (.iload 6, 2) := by decide +kernel
theorem dd_Mo_acknowledge_64 : decode bm_Mo_acknowledge 64 = .ok (.iaload, 1) := by decide +kernel
theorem dd_Mo_acknowledge_65 : decode bm_Mo_acknowledge 65 = .ok (.ifCond .ne 24, 3) := by decide +kernel
theorem dd_Mo_acknowledge_68 : decode bm_Mo_acknowledge 68 = .ok (.aload_n 0, 1) := by decide +kernel
theorem dd_Mo_acknowledge_69 : decode bm_Mo_acknowledge 69 = .ok (.getfield 32, 3) := by decide +kernel
theorem dd_Mo_acknowledge_72 : decode bm_Mo_acknowledge 72 = .ok (.iload 5, 2) := by decide +kernel
theorem dd_Mo_acknowledge_74 : decode bm_Mo_acknowledge 74 = .ok (.baload, 1) := by decide +kernel
theorem dd_Mo_acknowledge_75 : decode bm_Mo_acknowledge 75 = .ok (.ifCond .eq 17, 3) := by decide +kernel
theorem dd_Mo_acknowledge_78 : decode bm_Mo_acknowledge 78 = .ok (.iload_n 3, 1) := by decide +kernel
theorem dd_Mo_acknowledge_79 : decode bm_Mo_acknowledge 79 = .ok (.aload_n 0, 1) := by decide +kernel
theorem dd_Mo_acknowledge_80 : decode bm_Mo_acknowledge 80 = .ok (.getfield 41, 3) := by decide +kernel
theorem dd_Mo_acknowledge_83 : decode bm_Mo_acknowledge 83 = .ok (.iload 5, 2) := by decide +kernel
theorem dd_Mo_acknowledge_85 : decode bm_Mo_acknowledge 85 = .ok (.iaload, 1) := by decide +kernel
theorem dd_Mo_acknowledge_86 : decode bm_Mo_acknowledge 86 = .ok (.if_icmp .eq 6, 3) := by decide +kernel
theorem dd_Mo_acknowledge_89 : decode bm_Mo_acknowledge 89 = .ok (.bipush (-8), 2) := by decide +kernel
theorem dd_Mo_acknowledge_91 : decode bm_Mo_acknowledge 91 = .ok (.ireturn, 1) := by decide +kernel
theorem dd_Mo_acknowledge_92 : decode bm_Mo_acknowledge 92 = .ok (.aload_n 0, 1) := by decide +kernel
theorem dd_Mo_acknowledge_93 : decode bm_Mo_acknowledge 93 = .ok (.getfield 62, 3) := by decide +kernel
theorem dd_Mo_acknowledge_96 : decode bm_Mo_acknowledge 96 = .ok (.iload 6, 2) := by decide +kernel
theorem dd_Mo_acknowledge_98 : decode bm_Mo_acknowledge 98 = .ok (.iaload, 1) := by decide +kernel
theorem dd_Mo_acknowledge_99 : decode bm_Mo_acknowledge 99 = .ok (.ifCond .ne 6, 3) := by decide +kernel
theorem dd_Mo_acknowledge_102 : decode bm_Mo_acknowledge 102 = .ok (.bipush (-5), 2) := by decide +kernel
theorem dd_Mo_acknowledge_104 : decode bm_Mo_acknowledge 104 = .ok (.ireturn, 1) := by decide +kernel
theorem dd_Mo_acknowledge_105 : decode bm_Mo_acknowledge 105 = .ok (.aload_n 0, 1) := by decide +kernel
theorem dd_Mo_acknowledge_106 : decode bm_Mo_acknowledge 106 = .ok (.iload_n 1, 1) := by decide +kernel
theorem dd_Mo_acknowledge_107 : decode bm_Mo_acknowledge 107 = .ok (.iload 4, 2) := by decide +kernel
theorem dd_Mo_acknowledge_109 : decode bm_Mo_acknowledge 109 = .ok (.sipush 20480, 3) := by decide +kernel
theorem dd_Mo_acknowledge_112 : decode bm_Mo_acknowledge 112 = .ok (.bipush 64, 2) := by decide +kernel
theorem dd_Mo_acknowledge_114 : decode bm_Mo_acknowledge 114 = .ok (.iload_n 2, 1) := by decide +kernel
theorem dd_Mo_acknowledge_115 : decode bm_Mo_acknowledge 115 = .ok (.imul, 1) := by decide +kernel
theorem dd_Mo_acknowledge_116 : decode bm_Mo_acknowledge 116 = .ok (.iadd, 1) := by decide +kernel
theorem dd_Mo_acknowledge_117 : decode bm_Mo_acknowledge 117 = .ok (.iload_n 3, 1) := by decide +kernel
theorem dd_Mo_acknowledge_118 : decode bm_Mo_acknowledge 118 = .ok (.iadd, 1) := by decide +kernel
theorem dd_Mo_acknowledge_119 : decode bm_Mo_acknowledge 119 = .ok (.iconst 0, 1) := by decide +kernel
theorem dd_Mo_acknowledge_120 : decode bm_Mo_acknowledge 120 = .ok (.aload_n 0, 1) := by decide +kernel
theorem dd_Mo_acknowledge_121 : decode bm_Mo_acknowledge 121 = .ok (.getfield 62, 3) := by decide +kernel
theorem dd_Mo_acknowledge_124 : decode bm_Mo_acknowledge 124 = .ok (.iload 6, 2) := by decide +kernel
theorem dd_Mo_acknowledge_126 : decode bm_Mo_acknowledge 126 = .ok (.iaload, 1) := by decide +kernel
theorem dd_Mo_acknowledge_127 : decode bm_Mo_acknowledge 127 = .ok (.invokevirtual 128, 3) := by decide +kernel
theorem dd_Mo_acknowledge_130 : decode bm_Mo_acknowledge 130 = .ok (.istore 7, 2) := by decide +kernel
theorem dd_Mo_acknowledge_132 : decode bm_Mo_acknowledge 132 = .ok (.iload 7, 2) := by decide +kernel
theorem dd_Mo_acknowledge_134 : decode bm_Mo_acknowledge 134 = .ok (.ifCond .eq 6, 3) := by decide +kernel
theorem dd_Mo_acknowledge_137 : decode bm_Mo_acknowledge 137 = .ok (.iload 7, 2) := by decide +kernel
theorem dd_Mo_acknowledge_139 : decode bm_Mo_acknowledge 139 = .ok (.ireturn, 1) := by decide +kernel
theorem dd_Mo_acknowledge_140 : decode bm_Mo_acknowledge 140 = .ok (.aload_n 0, 1) := by decide +kernel
theorem dd_Mo_acknowledge_141 : decode bm_Mo_acknowledge 141 = .ok (.getfield 59, 3) := by decide +kernel
theorem dd_Mo_acknowledge_144 : decode bm_Mo_acknowledge 144 = .ok (.iload 6, 2) := by decide +kernel
theorem dd_Mo_acknowledge_146 : decode bm_Mo_acknowledge 146 = .ok (.aload_n 0, 1) := by decide +kernel
theorem dd_Mo_acknowledge_147 : decode bm_Mo_acknowledge 147 = .ok (.getfield 62, 3) := by decide +kernel
theorem dd_Mo_acknowledge_150 : decode bm_Mo_acknowledge 150 = .ok (.iload 6, 2) := by decide +kernel
theorem dd_Mo_acknowledge_152 : decode bm_Mo_acknowledge 152 = .ok (.iaload, 1) := by decide +kernel
theorem dd_Mo_acknowledge_153 : decode bm_Mo_acknowledge 153 = .ok (.iastore, 1) := by decide +kernel
theorem dd_Mo_acknowledge_154 : decode bm_Mo_acknowledge 154 = .ok (.aload_n 0, 1) := by decide +kernel
theorem dd_Mo_acknowledge_155 : decode bm_Mo_acknowledge 155 = .ok (.getfield 62, 3) := by decide +kernel
theorem dd_Mo_acknowledge_158 : decode bm_Mo_acknowledge 158 = .ok (.iload 6, 2) := by decide +kernel
theorem dd_Mo_acknowledge_160 : decode bm_Mo_acknowledge 160 = .ok (.iaload, 1) := by decide +kernel
theorem dd_Mo_acknowledge_161 : decode bm_Mo_acknowledge 161 = .ok (.iconst 2, 1) := by decide +kernel
theorem dd_Mo_acknowledge_162 : decode bm_Mo_acknowledge 162 = .ok (.if_icmp .ne 11, 3) := by decide +kernel
theorem dd_Mo_acknowledge_165 : decode bm_Mo_acknowledge 165 = .ok (.aload_n 0, 1) := by decide +kernel
theorem dd_Mo_acknowledge_166 : decode bm_Mo_acknowledge 166 = .ok (.iload_n 1, 1) := by decide +kernel
theorem dd_Mo_acknowledge_167 : decode bm_Mo_acknowledge 167 = .ok (.iload_n 2, 1) := by decide +kernel
theorem dd_Mo_acknowledge_168 : decode bm_Mo_acknowledge 168 = .ok (.iload 6, 2) := by decide +kernel
theorem dd_Mo_acknowledge_170 : decode bm_Mo_acknowledge 170 = .ok (.invokevirtual 140, 3) := by decide +kernel
theorem dd_Mo_acknowledge_173 : decode bm_Mo_acknowledge 173 = .ok (.aload_n 0, 1) := by decide +kernel
theorem dd_Mo_acknowledge_174 : decode bm_Mo_acknowledge 174 = .ok (.getfield 32, 3) := by decide +kernel
theorem dd_Mo_acknowledge_177 : decode bm_Mo_acknowledge 177 = .ok (.iload 5, 2) := by decide +kernel
theorem dd_Mo_acknowledge_179 : decode bm_Mo_acknowledge 179 = .ok (.baload, 1) := by decide +kernel
theorem dd_Mo_acknowledge_180 : decode bm_Mo_acknowledge 180 = .ok (.ifCond .eq 13, 3) := by decide +kernel
theorem dd_Mo_acknowledge_183 : decode bm_Mo_acknowledge 183 = .ok (.aload_n 0, 1) := by decide +kernel
theorem dd_Mo_acknowledge_184 : decode bm_Mo_acknowledge 184 = .ok (.getfield 41, 3) := by decide +kernel
theorem dd_Mo_acknowledge_187 : decode bm_Mo_acknowledge 187 = .ok (.iload 5, 2) := by decide +kernel
theorem dd_Mo_acknowledge_189 : decode bm_Mo_acknowledge 189 = .ok (.iload_n 3, 1) := by decide +kernel
theorem dd_Mo_acknowledge_190 : decode bm_Mo_acknowledge 190 = .ok (.iconst 1, 1) := by decide +kernel
theorem dd_Mo_acknowledge_191 : decode bm_Mo_acknowledge 191 = .ok (.iadd, 1) := by decide +kernel
theorem dd_Mo_acknowledge_192 : decode bm_Mo_acknowledge 192 = .ok (.iastore, 1) := by decide +kernel
theorem dd_Mo_acknowledge_193 : decode bm_Mo_acknowledge 193 = .ok (.aload_n 0, 1) := by decide +kernel
theorem dd_Mo_acknowledge_194 : decode bm_Mo_acknowledge 194 = .ok (.getfield 62, 3) := by decide +kernel
theorem dd_Mo_acknowledge_197 : decode bm_Mo_acknowledge 197 = .ok (.iload 6, 2) := by decide +kernel
theorem dd_Mo_acknowledge_199 : decode bm_Mo_acknowledge 199 = .ok (.iaload, 1) := by decide +kernel
theorem dd_Mo_acknowledge_200 : decode bm_Mo_acknowledge 200 = .ok (.ireturn, 1) := by decide +kernel
