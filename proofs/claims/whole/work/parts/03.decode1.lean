theorem dd_TL_mix_0 : decode bm_TL_mix 0 = .ok (.iload_n 0, 1) := by decide +kernel
theorem dd_TL_mix_1 : decode bm_TL_mix 1 = .ok (.iload_n 1, 1) := by decide +kernel
theorem dd_TL_mix_2 : decode bm_TL_mix 2 = .ok (.ixor, 1) := by decide +kernel
theorem dd_TL_mix_3 : decode bm_TL_mix 3 = .ok (.ldc 157, 2) := by decide +kernel
theorem dd_TL_mix_5 : decode bm_TL_mix 5 = .ok (.imul, 1) := by decide +kernel
theorem dd_TL_mix_6 : decode bm_TL_mix 6 = .ok (.istore_n 2, 1) := by decide +kernel
theorem dd_TL_mix_7 : decode bm_TL_mix 7 = .ok (.iload_n 2, 1) := by decide +kernel
theorem dd_TL_mix_8 : decode bm_TL_mix 8 = .ok (.iload_n 2, 1) := by decide +kernel
theorem dd_TL_mix_9 : decode bm_TL_mix 9 = .ok (.bipush 15, 2) := by decide +kernel
theorem dd_TL_mix_11 : decode bm_TL_mix 11 = .ok (.iushr, 1) := by decide +kernel
theorem dd_TL_mix_12 : decode bm_TL_mix 12 = .ok (.ixor, 1) := by decide +kernel
theorem dd_TL_mix_13 : decode bm_TL_mix 13 = .ok (.ireturn, 1) := by decide +kernel
theorem dd_Ledger_ctor_0 : decode bm_Ledger_ctor 0 = .ok (.aload_n 0, 1) := by decide +kernel
theorem dd_Ledger_ctor_1 : decode bm_Ledger_ctor 1 = .ok (.invokespecial 3, 3) := by decide +kernel
theorem dd_Ledger_ctor_4 : decode bm_Ledger_ctor 4 = .ok (.aload_n 0, 1) := by decide +kernel
theorem dd_Ledger_ctor_5 : decode bm_Ledger_ctor 5 = .ok (.new 9, 3) := by decide +kernel
theorem dd_Ledger_ctor_8 : decode bm_Ledger_ctor 8 = .ok (.dup, 1) := by decide +kernel
theorem dd_Ledger_ctor_9 : decode bm_Ledger_ctor 9 = .ok (.invokespecial 11, 3) := by decide +kernel
theorem dd_Ledger_ctor_12 : decode bm_Ledger_ctor 12 = .ok (.putfield 12, 3) := by decide +kernel
theorem dd_Ledger_ctor_15 : decode bm_Ledger_ctor 15 = .ok (.aload_n 0, 1) := by decide +kernel
theorem dd_Ledger_ctor_16 : decode bm_Ledger_ctor 16 = .ok (.bipush 8, 2) := by decide +kernel
theorem dd_Ledger_ctor_18 : decode bm_Ledger_ctor 18 = .ok (.anewarray 9, 3) := by decide +kernel
theorem dd_Ledger_ctor_21 : decode bm_Ledger_ctor 21 = .ok (.putfield 18, 3) := by decide +kernel
theorem dd_Ledger_ctor_24 : decode bm_Ledger_ctor 24 = .ok (.aload_n 0, 1) := by decide +kernel
theorem dd_Ledger_ctor_25 : decode bm_Ledger_ctor 25 = .ok (.bipush 114, 2) := by decide +kernel
theorem dd_Ledger_ctor_27 : decode bm_Ledger_ctor 27 = .ok (.newarray .int, 2) := by decide +kernel
theorem dd_Ledger_ctor_29 : decode bm_Ledger_ctor 29 = .ok (.putfield 22, 3) := by decide +kernel
theorem dd_Ledger_ctor_32 : decode bm_Ledger_ctor 32 = .ok (.aload_n 0, 1) := by decide +kernel
theorem dd_Ledger_ctor_33 : decode bm_Ledger_ctor 33 = .ok (.new 26, 3) := by decide +kernel
theorem dd_Ledger_ctor_36 : decode bm_Ledger_ctor 36 = .ok (.dup, 1) := by decide +kernel
theorem dd_Ledger_ctor_37 : decode bm_Ledger_ctor 37 = .ok (.invokespecial 28, 3) := by decide +kernel
theorem dd_Ledger_ctor_40 : decode bm_Ledger_ctor 40 = .ok (.putfield 29, 3) := by decide +kernel
theorem dd_Ledger_ctor_43 : decode bm_Ledger_ctor 43 = .ok (.aload_n 0, 1) := by decide +kernel
theorem dd_Ledger_ctor_44 : decode bm_Ledger_ctor 44 = .ok (.new 33, 3) := by decide +kernel
theorem dd_Ledger_ctor_47 : decode bm_Ledger_ctor 47 = .ok (.dup, 1) := by decide +kernel
theorem dd_Ledger_ctor_48 : decode bm_Ledger_ctor 48 = .ok (.invokespecial 35, 3) := by decide +kernel
theorem dd_Ledger_ctor_51 : decode bm_Ledger_ctor 51 = .ok (.putfield 36, 3) := by decide +kernel
theorem dd_Ledger_ctor_54 : decode bm_Ledger_ctor 54 = .ok (.aload_n 0, 1) := by decide +kernel
theorem dd_Ledger_ctor_55 : decode bm_Ledger_ctor 55 = .ok (.iconst 3, 1) := by decide +kernel
theorem dd_Ledger_ctor_56 : decode bm_Ledger_ctor 56 = .ok (.anewarray 40, 3) := by decide +kernel
theorem dd_Ledger_ctor_59 : decode bm_Ledger_ctor 59 = .ok (.putfield 42, 3) := by decide +kernel
theorem dd_Ledger_ctor_62 : decode bm_Ledger_ctor 62 = .ok (.iconst 0, 1) := by decide +kernel
theorem dd_Ledger_ctor_63 : decode bm_Ledger_ctor 63 = .ok (.istore_n 1, 1) := by decide +kernel
theorem dd_Ledger_ctor_64 : decode bm_Ledger_ctor 64 = .ok (.iload_n 1, 1) := by decide +kernel
theorem dd_Ledger_ctor_65 : decode bm_Ledger_ctor 65 = .ok (.bipush 8, 2) := by decide +kernel
theorem dd_Ledger_ctor_67 : decode bm_Ledger_ctor 67 = .ok (.if_icmp .ge 22, 3) := by decide +kernel
theorem dd_Ledger_ctor_70 : decode bm_Ledger_ctor 70 = .ok (.aload_n 0, 1) := by decide +kernel
theorem dd_Ledger_ctor_71 : decode bm_Ledger_ctor 71 = .ok (.getfield 18, 3) := by decide +kernel
theorem dd_Ledger_ctor_74 : decode bm_Ledger_ctor 74 = .ok (.iload_n 1, 1) := by decide +kernel
theorem dd_Ledger_ctor_75 : decode bm_Ledger_ctor 75 = .ok (.new 9, 3) := by decide +kernel
theorem dd_Ledger_ctor_78 : decode bm_Ledger_ctor 78 = .ok (.dup, 1) := by decide +kernel
theorem dd_Ledger_ctor_79 : decode bm_Ledger_ctor 79 = .ok (.invokespecial 11, 3) := by decide +kernel
theorem dd_Ledger_ctor_82 : decode bm_Ledger_ctor 82 = .ok (.aastore, 1) := by decide +kernel
theorem dd_Ledger_ctor_83 : decode bm_Ledger_ctor 83 = .ok (.iinc 1 1, 3) := by decide +kernel
theorem dd_Ledger_ctor_86 : decode bm_Ledger_ctor 86 = .ok (.goto (-22), 3) := by decide +kernel
theorem dd_Ledger_ctor_89 : decode bm_Ledger_ctor 89 = .ok (.iconst 0, 1) := by decide +kernel
theorem dd_Ledger_ctor_90 : decode bm_Ledger_ctor 90 = .ok (.istore_n 1, 1) := by decide +kernel
theorem dd_Ledger_ctor_91 : decode bm_Ledger_ctor 91 = .ok (.iload_n 1, 1) := by decide +kernel
theorem dd_Ledger_ctor_92 : decode bm_Ledger_ctor 92 = .ok (.iconst 3, 1) := by decide +kernel
theorem dd_Ledger_ctor_93 : decode bm_Ledger_ctor 93 = .ok (.if_icmp .ge 22, 3) := by decide +kernel
theorem dd_Ledger_ctor_96 : decode bm_Ledger_ctor 96 = .ok (.aload_n 0, 1) := by decide +kernel
theorem dd_Ledger_ctor_97 : decode bm_Ledger_ctor 97 = .ok (.getfield 42, 3) := by decide +kernel
theorem dd_Ledger_ctor_100 : decode bm_Ledger_ctor 100 = .ok (.iload_n 1, 1) := by decide +kernel
theorem dd_Ledger_ctor_101 : decode bm_Ledger_ctor 101 = .ok (.new 40, 3) := by decide +kernel
theorem dd_Ledger_ctor_104 : decode bm_Ledger_ctor 104 = .ok (.dup, 1) := by decide +kernel
theorem dd_Ledger_ctor_105 : decode bm_Ledger_ctor 105 = .ok (.invokespecial 46, 3) := by decide +kernel
theorem dd_Ledger_ctor_108 : decode bm_Ledger_ctor 108 = .ok (.aastore, 1) := by decide +kernel
theorem dd_Ledger_ctor_109 : decode bm_Ledger_ctor 109 = .ok (.iinc 1 1, 3) := by decide +kernel
theorem dd_Ledger_ctor_112 : decode bm_Ledger_ctor 112 = .ok (.goto (-21), 3) := by decide +kernel
theorem dd_Ledger_ctor_115 : decode bm_Ledger_ctor 115 = .ok (.return_, 1) := by decide +kernel
theorem dd_Ledger_makeBlock_0 : decode bm_Ledger_makeBlock 0 = .ok (.aload_n 0, 1) := by decide +kernel
theorem dd_Ledger_makeBlock_1 : decode bm_Ledger_makeBlock 1 = .ok (.getfield 47, 3) := by decide +kernel
theorem dd_Ledger_makeBlock_4 : decode bm_Ledger_makeBlock 4 = .ok (.sipush 512, 3) := by decide +kernel
theorem dd_Ledger_makeBlock_7 : decode bm_Ledger_makeBlock 7 = .ok (.if_icmp .ge 32, 3) := by decide +kernel
theorem dd_Ledger_makeBlock_10 : decode bm_Ledger_makeBlock 10 = .ok (.aload_n 0, 1) := by decide +kernel
theorem dd_Ledger_makeBlock_11 : decode bm_Ledger_makeBlock 11 = .ok (.dup, 1) := by decide +kernel
theorem dd_Ledger_makeBlock_12 : decode bm_Ledger_makeBlock 12 = .ok (.getfield 47, 3) := by decide +kernel
theorem dd_Ledger_makeBlock_15 : decode bm_Ledger_makeBlock 15 = .ok (.iconst 1, 1) := by decide +kernel
theorem dd_Ledger_makeBlock_16 : decode bm_Ledger_makeBlock 16 = .ok (.iadd, 1) := by decide +kernel
theorem dd_Ledger_makeBlock_17 : decode bm_Ledger_makeBlock 17 = .ok (.putfield 47, 3) := by decide +kernel
theorem dd_Ledger_makeBlock_20 : decode bm_Ledger_makeBlock 20 = .ok (.aload_n 0, 1) := by decide +kernel
theorem dd_Ledger_makeBlock_21 : decode bm_Ledger_makeBlock 21 = .ok (.getfield 18, 3) := by decide +kernel
theorem dd_Ledger_makeBlock_24 : decode bm_Ledger_makeBlock 24 = .ok (.aload_n 0, 1) := by decide +kernel
theorem dd_Ledger_makeBlock_25 : decode bm_Ledger_makeBlock 25 = .ok (.getfield 47, 3) := by decide +kernel
theorem dd_Ledger_makeBlock_28 : decode bm_Ledger_makeBlock 28 = .ok (.bipush 8, 2) := by decide +kernel
theorem dd_Ledger_makeBlock_30 : decode bm_Ledger_makeBlock 30 = .ok (.irem, 1) := by decide +kernel
theorem dd_Ledger_makeBlock_31 : decode bm_Ledger_makeBlock 31 = .ok (.aaload, 1) := by decide +kernel
theorem dd_Ledger_makeBlock_32 : decode bm_Ledger_makeBlock 32 = .ok (.aload_n 0, 1) := by decide +kernel
theorem dd_Ledger_makeBlock_33 : decode bm_Ledger_makeBlock 33 = .ok (.getfield 12, 3) := by decide +kernel
theorem dd_Ledger_makeBlock_36 : decode bm_Ledger_makeBlock 36 = .ok (.invokevirtual 51, 3) := by decide +kernel
theorem dd_Ledger_makeBlock_39 : decode bm_Ledger_makeBlock 39 = .ok (.aload_n 0, 1) := by decide +kernel
theorem dd_Ledger_makeBlock_40 : decode bm_Ledger_makeBlock 40 = .ok (.getfield 47, 3) := by decide +kernel
theorem dd_Ledger_makeBlock_43 : decode bm_Ledger_makeBlock 43 = .ok (.ireturn, 1) := by decide +kernel
theorem dd_Ledger_keeps_0 : decode bm_Ledger_keeps 0 = .ok (.iload_n 1, 1) := by decide +kernel
theorem dd_Ledger_keeps_1 : decode bm_Ledger_keeps 1 = .ok (.iconst 1, 1) := by decide +kernel
theorem dd_Ledger_keeps_2 : decode bm_Ledger_keeps 2 = .ok (.if_icmp .lt 26, 3) := by decide +kernel
theorem dd_Ledger_keeps_5 : decode bm_Ledger_keeps 5 = .ok (.iload_n 1, 1) := by decide +kernel
theorem dd_Ledger_keeps_6 : decode bm_Ledger_keeps 6 = .ok (.aload_n 0, 1) := by decide +kernel
theorem dd_Ledger_keeps_7 : decode bm_Ledger_keeps 7 = .ok (.getfield 47, 3) := by decide +kernel
theorem dd_Ledger_keeps_10 : decode bm_Ledger_keeps 10 = .ok (.if_icmp .gt 18, 3) := by decide +kernel
theorem dd_Ledger_keeps_13 : decode bm_Ledger_keeps 13 = .ok (.iload_n 1, 1) := by decide +kernel
theorem dd_Ledger_keeps_14 : decode bm_Ledger_keeps 14 = .ok (.aload_n 0, 1) := by decide +kernel
theorem dd_Ledger_keeps_15 : decode bm_Ledger_keeps 15 = .ok (.getfield 47, 3) := by decide +kernel
theorem dd_Ledger_keeps_18 : decode bm_Ledger_keeps 18 = .ok (.bipush 8, 2) := by decide +kernel
theorem dd_Ledger_keeps_20 : decode bm_Ledger_keeps 20 = .ok (.isub, 1) := by decide +kernel
theorem dd_Ledger_keeps_21 : decode bm_Ledger_keeps 21 = .ok (.if_icmp .le 7, 3) := by decide +kernel
theorem dd_Ledger_keeps_24 : decode bm_Ledger_keeps 24 = .ok (.iconst 1, 1) := by decide +kernel
theorem dd_Ledger_keeps_25 : decode bm_Ledger_keeps 25 = .ok (.goto 4, 3) := by decide +kernel
theorem dd_Ledger_keeps_28 : decode bm_Ledger_keeps 28 = .ok (.iconst 0, 1) := by decide +kernel
theorem dd_Ledger_keeps_29 : decode bm_Ledger_keeps 29 = .ok (.ireturn, 1) := by decide +kernel
theorem dd_Ledger_rootAt_0 : decode bm_Ledger_rootAt 0 = .ok (.aload_n 0, 1) := by decide +kernel
theorem dd_Ledger_rootAt_1 : decode bm_Ledger_rootAt 1 = .ok (.iload_n 1, 1) := by decide +kernel
theorem dd_Ledger_rootAt_2 : decode bm_Ledger_rootAt 2 = .ok (.invokevirtual 55, 3) := by decide +kernel
theorem dd_Ledger_rootAt_5 : decode bm_Ledger_rootAt 5 = .ok (.ifCond .eq 22, 3) := by decide +kernel
theorem dd_Ledger_rootAt_8 : decode bm_Ledger_rootAt 8 = .ok (.aload_n 0, 1) := by decide +kernel
theorem dd_Ledger_rootAt_9 : decode bm_Ledger_rootAt 9 = .ok (.getfield 18, 3) := by decide +kernel
theorem dd_Ledger_rootAt_12 : decode bm_Ledger_rootAt 12 = .ok (.iload_n 1, 1) := by decide +kernel
theorem dd_Ledger_rootAt_13 : decode bm_Ledger_rootAt 13 = .ok (.bipush 8, 2) := by decide +kernel
theorem dd_Ledger_rootAt_15 : decode bm_Ledger_rootAt 15 = .ok (.irem, 1) := by decide +kernel
theorem dd_Ledger_rootAt_16 : decode bm_Ledger_rootAt 16 = .ok (.aaload, 1) := by decide +kernel
theorem dd_Ledger_rootAt_17 : decode bm_Ledger_rootAt 17 = .ok (.aload_n 0, 1) := by decide +kernel
theorem dd_Ledger_rootAt_18 : decode bm_Ledger_rootAt 18 = .ok (.getfield 22, 3) := by decide +kernel
theorem dd_Ledger_rootAt_21 : decode bm_Ledger_rootAt 21 = .ok (.invokevirtual 59, 3) := by decide +kernel
theorem dd_Ledger_rootAt_24 : decode bm_Ledger_rootAt 24 = .ok (.goto 4, 3) := by decide +kernel
theorem dd_Ledger_rootAt_27 : decode bm_Ledger_rootAt 27 = .ok (.iconst 0, 1) := by decide +kernel
theorem dd_Ledger_rootAt_28 : decode bm_Ledger_rootAt 28 = .ok (.ireturn, 1) := by decide +kernel
theorem dd_Ledger_stateOf_0 : decode bm_Ledger_stateOf 0 = .ok (.aload_n 0, 1) := by decide +kernel
theorem dd_Ledger_stateOf_1 : decode bm_Ledger_stateOf 1 = .ok (.getfield 12, 3) := by decide +kernel
theorem dd_Ledger_stateOf_4 : decode bm_Ledger_stateOf 4 = .ok (.iload_n 1, 1) := by decide +kernel
theorem dd_Ledger_stateOf_5 : decode bm_Ledger_stateOf 5 = .ok (.invokestatic 63, 3) := by decide +kernel
theorem dd_Ledger_stateOf_8 : decode bm_Ledger_stateOf 8 = .ok (.invokevirtual 67, 3) := by decide +kernel
theorem dd_Ledger_stateOf_11 : decode bm_Ledger_stateOf 11 = .ok (.iconst 2, 1) := by decide +kernel
theorem dd_Ledger_stateOf_12 : decode bm_Ledger_stateOf 12 = .ok (.idiv, 1) := by decide +kernel
theorem dd_Ledger_stateOf_13 : decode bm_Ledger_stateOf 13 = .ok (.ireturn, 1) := by decide +kernel
theorem dd_Ledger_orderOf_0 : decode bm_Ledger_orderOf 0 = .ok (.aload_n 0, 1) := by decide +kernel
theorem dd_Ledger_orderOf_1 : decode bm_Ledger_orderOf 1 = .ok (.getfield 12, 3) := by decide +kernel
theorem dd_Ledger_orderOf_4 : decode bm_Ledger_orderOf 4 = .ok (.iload_n 1, 1) := by decide +kernel
theorem dd_Ledger_orderOf_5 : decode bm_Ledger_orderOf 5 = .ok (.invokestatic 63, 3) := by decide +kernel
theorem dd_Ledger_orderOf_8 : decode bm_Ledger_orderOf 8 = .ok (.invokevirtual 67, 3) := by decide +kernel
theorem dd_Ledger_orderOf_11 : decode bm_Ledger_orderOf 11 = .ok (.iconst 2, 1) := by decide +kernel
theorem dd_Ledger_orderOf_12 : decode bm_Ledger_orderOf 12 = .ok (.irem, 1) := by decide +kernel
theorem dd_Ledger_orderOf_13 : decode bm_Ledger_orderOf 13 = .ok (.ireturn, 1) := by decide +kernel
theorem dd_Ledger_isOrdered_0 : decode bm_Ledger_isOrdered 0 = .ok (.aload_n 0, 1) := by decide +kernel
theorem dd_Ledger_isOrdered_1 : decode bm_Ledger_isOrdered 1 = .ok (.iload_n 1, 1) := by decide +kernel
theorem dd_Ledger_isOrdered_2 : decode bm_Ledger_isOrdered 2 = .ok (.invokevirtual 70, 3) := by decide +kernel
theorem dd_Ledger_isOrdered_5 : decode bm_Ledger_isOrdered 5 = .ok (.iconst 1, 1) := by decide +kernel
theorem dd_Ledger_isOrdered_6 : decode bm_Ledger_isOrdered 6 = .ok (.if_icmp .ne 7, 3) := by decide +kernel
theorem dd_Ledger_isOrdered_9 : decode bm_Ledger_isOrdered 9 = .ok (.iconst 1, 1) := by decide +kernel
theorem dd_Ledger_isOrdered_10 : decode bm_Ledger_isOrdered 10 = .ok (.goto 4, 3) := by decide +kernel
theorem dd_Ledger_isOrdered_13 : decode bm_Ledger_isOrdered 13 = .ok (.iconst 0, 1) := by decide +kernel
theorem dd_Ledger_isOrdered_14 : decode bm_Ledger_isOrdered 14 = .ok (.ireturn, 1) := by decide +kernel
theorem dd_Ledger_nextToReceive_0 : decode bm_Ledger_nextToReceive 0 = .ok (.iconst 1, 1) := by decide +kernel
theorem dd_Ledger_nextToReceive_1 : decode bm_Ledger_nextToReceive 1 = .ok (.aload_n 0, 1) := by decide +kernel
theorem dd_Ledger_nextToReceive_2 : decode bm_Ledger_nextToReceive 2 = .ok (.getfield 12, 3) := by decide +kernel
theorem dd_Ledger_nextToReceive_5 : decode bm_Ledger_nextToReceive 5 = .ok (.iload_n 1, 1) := by decide +kernel
theorem dd_Ledger_nextToReceive_6 : decode bm_Ledger_nextToReceive 6 = .ok (.invokestatic 73, 3) := by decide +kernel
theorem dd_Ledger_nextToReceive_9 : decode bm_Ledger_nextToReceive 9 = .ok (.invokevirtual 67, 3) := by decide +kernel
theorem dd_Ledger_nextToReceive_12 : decode bm_Ledger_nextToReceive 12 = .ok (.invokestatic 76, 3) := by decide +kernel
theorem dd_Ledger_nextToReceive_15 : decode bm_Ledger_nextToReceive 15 = .ok (.ireturn, 1) := by decide +kernel
theorem dd_Ledger_reach_0 : decode bm_Ledger_reach 0 = .ok (.aload_n 0, 1) := by decide +kernel
theorem dd_Ledger_reach_1 : decode bm_Ledger_reach 1 = .ok (.getfield 29, 3) := by decide +kernel
theorem dd_Ledger_reach_4 : decode bm_Ledger_reach 4 = .ok (.iload_n 2, 1) := by decide +kernel
theorem dd_Ledger_reach_5 : decode bm_Ledger_reach 5 = .ok (.invokevirtual 82, 3) := by decide +kernel
theorem dd_Ledger_reach_8 : decode bm_Ledger_reach 8 = .ok (.ifCond .ne 6, 3) := by decide +kernel
theorem dd_Ledger_reach_11 : decode bm_Ledger_reach 11 = .ok (.bipush (-3), 2) := by decide +kernel
theorem dd_Ledger_reach_13 : decode bm_Ledger_reach 13 = .ok (.ireturn, 1) := by decide +kernel
theorem dd_Ledger_reach_14 : decode bm_Ledger_reach 14 = .ok (.aload_n 1, 1) := by decide +kernel
theorem dd_Ledger_reach_15 : decode bm_Ledger_reach 15 = .ok (.iload_n 2, 1) := by decide +kernel
theorem dd_Ledger_reach_16 : decode bm_Ledger_reach 16 = .ok (.invokevirtual 55, 3) := by decide +kernel
theorem dd_Ledger_reach_19 : decode bm_Ledger_reach 19 = .ok (.ifCond .eq 7, 3) := by decide +kernel
theorem dd_Ledger_reach_22 : decode bm_Ledger_reach 22 = .ok (.iconst 0, 1) := by decide +kernel
theorem dd_Ledger_reach_23 : decode bm_Ledger_reach 23 = .ok (.goto 5, 3) := by decide +kernel
theorem dd_Ledger_reach_26 : decode bm_Ledger_reach 26 = .ok (.bipush (-4), 2) := by decide +kernel
theorem dd_Ledger_reach_28 : decode bm_Ledger_reach 28 = .ok (.ireturn, 1) := by decide +kernel
theorem dd_Ledger_proveValue_0 : decode bm_Ledger_proveValue 0 = .ok (.aload_n 0, 1) := by decide +kernel
theorem dd_Ledger_proveValue_1 : decode bm_Ledger_proveValue 1 = .ok (.aload_n 1, 1) := by decide +kernel
theorem dd_Ledger_proveValue_2 : decode bm_Ledger_proveValue 2 = .ok (.iload_n 2, 1) := by decide +kernel
theorem dd_Ledger_proveValue_3 : decode bm_Ledger_proveValue 3 = .ok (.invokevirtual 85, 3) := by decide +kernel
theorem dd_Ledger_proveValue_6 : decode bm_Ledger_proveValue 6 = .ok (.istore 5, 2) := by decide +kernel
theorem dd_Ledger_proveValue_8 : decode bm_Ledger_proveValue 8 = .ok (.iload 5, 2) := by decide +kernel
theorem dd_Ledger_proveValue_10 : decode bm_Ledger_proveValue 10 = .ok (.ifCond .eq 6, 3) := by decide +kernel
theorem dd_Ledger_proveValue_13 : decode bm_Ledger_proveValue 13 = .ok (.iload 5, 2) := by decide +kernel
theorem dd_Ledger_proveValue_15 : decode bm_Ledger_proveValue 15 = .ok (.ireturn, 1) := by decide +kernel
theorem dd_Ledger_proveValue_16 : decode bm_Ledger_proveValue 16 = .ok (.aload_n 1, 1) := by decide +kernel
theorem dd_Ledger_proveValue_17 : decode bm_Ledger_proveValue 17 = .ok (.getfield 18, 3) := by decide +kernel
theorem dd_Ledger_proveValue_20 : decode bm_Ledger_proveValue 20 = .ok (.iload_n 2, 1) := by decide +kernel
theorem dd_Ledger_proveValue_21 : decode bm_Ledger_proveValue 21 = .ok (.bipush 8, 2) := by decide +kernel
theorem dd_Ledger_proveValue_23 : decode bm_Ledger_proveValue 23 = .ok (.irem, 1) := by decide +kernel
theorem dd_Ledger_proveValue_24 : decode bm_Ledger_proveValue 24 = .ok (.aaload, 1) := by decide +kernel
theorem dd_Ledger_proveValue_25 : decode bm_Ledger_proveValue 25 = .ok (.astore 6, 2) := by decide +kernel
theorem dd_Ledger_proveValue_27 : decode bm_Ledger_proveValue 27 = .ok (.aload 6, 2) := by decide +kernel
theorem dd_Ledger_proveValue_29 : decode bm_Ledger_proveValue 29 = .ok (.iload_n 3, 1) := by decide +kernel
theorem dd_Ledger_proveValue_30 : decode bm_Ledger_proveValue 30 = .ok (.invokevirtual 89, 3) := by decide +kernel
theorem dd_Ledger_proveValue_33 : decode bm_Ledger_proveValue 33 = .ok (.ifCond .eq 18, 3) := by decide +kernel
theorem dd_Ledger_proveValue_36 : decode bm_Ledger_proveValue 36 = .ok (.aload 6, 2) := by decide +kernel
theorem dd_Ledger_proveValue_38 : decode bm_Ledger_proveValue 38 = .ok (.iload_n 3, 1) := by decide +kernel
theorem dd_Ledger_proveValue_39 : decode bm_Ledger_proveValue 39 = .ok (.invokevirtual 67, 3) := by decide +kernel
theorem dd_Ledger_proveValue_42 : decode bm_Ledger_proveValue 42 = .ok (.iload 4, 2) := by decide +kernel
theorem dd_Ledger_proveValue_44 : decode bm_Ledger_proveValue 44 = .ok (.if_icmp .ne 7, 3) := by decide +kernel
theorem dd_Ledger_proveValue_47 : decode bm_Ledger_proveValue 47 = .ok (.iconst 0, 1) := by decide +kernel
theorem dd_Ledger_proveValue_48 : decode bm_Ledger_proveValue 48 = .ok (.goto 5, 3) := by decide +kernel
theorem dd_Ledger_proveValue_51 : decode bm_Ledger_proveValue 51 = .ok (.bipush (-5), 2) := by decide +kernel
theorem dd_Ledger_proveValue_53 : decode bm_Ledger_proveValue 53 = .ok (.ireturn, 1) := by decide +kernel
theorem dd_Ledger_proveAbsence_0 : decode bm_Ledger_proveAbsence 0 = .ok (.aload_n 0, 1) := by decide +kernel
theorem dd_Ledger_proveAbsence_1 : decode bm_Ledger_proveAbsence 1 = .ok (.aload_n 1, 1) := by decide +kernel
theorem dd_Ledger_proveAbsence_2 : decode bm_Ledger_proveAbsence 2 = .ok (.iload_n 2, 1) := by decide +kernel
theorem dd_Ledger_proveAbsence_3 : decode bm_Ledger_proveAbsence 3 = .ok (.invokevirtual 85, 3) := by decide +kernel
theorem dd_Ledger_proveAbsence_6 : decode bm_Ledger_proveAbsence 6 = .ok (.istore 4, 2) := by decide +kernel
theorem dd_Ledger_proveAbsence_8 : decode bm_Ledger_proveAbsence 8 = .ok (.iload 4, 2) := by decide +kernel
theorem dd_Ledger_proveAbsence_10 : decode bm_Ledger_proveAbsence 10 = .ok (.ifCond .eq 6, 3) := by decide +kernel
theorem dd_Ledger_proveAbsence_13 : decode bm_Ledger_proveAbsence 13 = .ok (.iload 4, 2) := by decide +kernel
theorem dd_Ledger_proveAbsence_15 : decode bm_Ledger_proveAbsence 15 = .ok (.ireturn, 1) := by decide +kernel
theorem dd_Ledger_proveAbsence_16 : decode bm_Ledger_proveAbsence 16 = .ok (.aload_n 1, 1) := by decide +kernel
theorem dd_Ledger_proveAbsence_17 : decode bm_Ledger_proveAbsence 17 = .ok (.getfield 18, 3) := by decide +kernel
theorem dd_Ledger_proveAbsence_20 : decode bm_Ledger_proveAbsence 20 = .ok (.iload_n 2, 1) := by decide +kernel
theorem dd_Ledger_proveAbsence_21 : decode bm_Ledger_proveAbsence 21 = .ok (.bipush 8, 2) := by decide +kernel
theorem dd_Ledger_proveAbsence_23 : decode bm_Ledger_proveAbsence 23 = .ok (.irem, 1) := by decide +kernel
theorem dd_Ledger_proveAbsence_24 : decode bm_Ledger_proveAbsence 24 = .ok (.aaload, 1) := by decide +kernel
theorem dd_Ledger_proveAbsence_25 : decode bm_Ledger_proveAbsence 25 = .ok (.iload_n 3, 1) := by decide +kernel
theorem dd_Ledger_proveAbsence_26 : decode bm_Ledger_proveAbsence 26 = .ok (.invokevirtual 89, 3) := by decide +kernel
theorem dd_Ledger_proveAbsence_29 : decode bm_Ledger_proveAbsence 29 = .ok (.ifCond .eq 8, 3) := by decide +kernel
theorem dd_Ledger_proveAbsence_32 : decode bm_Ledger_proveAbsence 32 = .ok (.bipush (-5), 2) := by decide +kernel
theorem dd_Ledger_proveAbsence_34 : decode bm_Ledger_proveAbsence 34 = .ok (.goto 4, 3) := by decide +kernel
theorem dd_Ledger_proveAbsence_37 : decode bm_Ledger_proveAbsence 37 = .ok (.iconst 0, 1) := by decide +kernel
theorem dd_Ledger_proveAbsence_38 : decode bm_Ledger_proveAbsence 38 = .ok (.ireturn, 1) := by decide +kernel
theorem dd_Ledger_proveEnd_0 : decode bm_Ledger_proveEnd 0 = .ok (.aload_n 0, 1) := by decide +kernel
theorem dd_Ledger_proveEnd_1 : decode bm_Ledger_proveEnd 1 = .ok (.aload_n 1, 1) := by decide +kernel
theorem dd_Ledger_proveEnd_2 : decode bm_Ledger_proveEnd 2 = .ok (.iload_n 2, 1) := by decide +kernel
theorem dd_Ledger_proveEnd_3 : decode bm_Ledger_proveEnd 3 = .ok (.iload_n 3, 1) := by decide +kernel
theorem dd_Ledger_proveEnd_4 : decode bm_Ledger_proveEnd 4 = .ok (.invokestatic 63, 3) := by decide +kernel
theorem dd_Ledger_proveEnd_7 : decode bm_Ledger_proveEnd 7 = .ok (.iconst 2, 1) := by decide +kernel
theorem dd_Ledger_proveEnd_8 : decode bm_Ledger_proveEnd 8 = .ok (.iload 4, 2) := by decide +kernel
theorem dd_Ledger_proveEnd_10 : decode bm_Ledger_proveEnd 10 = .ok (.imul, 1) := by decide +kernel
theorem dd_Ledger_proveEnd_11 : decode bm_Ledger_proveEnd 11 = .ok (.iload 5, 2) := by decide +kernel
theorem dd_Ledger_proveEnd_13 : decode bm_Ledger_proveEnd 13 = .ok (.iadd, 1) := by decide +kernel
theorem dd_Ledger_proveEnd_14 : decode bm_Ledger_proveEnd 14 = .ok (.invokevirtual 92, 3) := by decide +kernel
theorem dd_Ledger_proveEnd_17 : decode bm_Ledger_proveEnd 17 = .ok (.ireturn, 1) := by decide +kernel
theorem dd_Ledger_startEnd_0 : decode bm_Ledger_startEnd 0 = .ok (.aload_n 0, 1) := by decide +kernel
theorem dd_Ledger_startEnd_1 : decode bm_Ledger_startEnd 1 = .ok (.iload_n 1, 1) := by decide +kernel
theorem dd_Ledger_startEnd_2 : decode bm_Ledger_startEnd 2 = .ok (.invokevirtual 96, 3) := by decide +kernel
theorem dd_Ledger_startEnd_5 : decode bm_Ledger_startEnd 5 = .ok (.ifCond .eq 6, 3) := by decide +kernel
theorem dd_Ledger_startEnd_8 : decode bm_Ledger_startEnd 8 = .ok (.bipush (-2), 2) := by decide +kernel
theorem dd_Ledger_startEnd_10 : decode bm_Ledger_startEnd 10 = .ok (.ireturn, 1) := by decide +kernel
theorem dd_Ledger_startEnd_11 : decode bm_Ledger_startEnd 11 = .ok (.aload_n 0, 1) := by decide +kernel
theorem dd_Ledger_startEnd_12 : decode bm_Ledger_startEnd 12 = .ok (.iload_n 1, 1) := by decide +kernel
theorem dd_Ledger_startEnd_13 : decode bm_Ledger_startEnd 13 = .ok (.iconst 1, 1) := by decide +kernel
theorem dd_Ledger_startEnd_14 : decode bm_Ledger_startEnd 14 = .ok (.iload_n 2, 1) := by decide +kernel
theorem dd_Ledger_startEnd_15 : decode bm_Ledger_startEnd 15 = .ok (.ifCond .eq 7, 3) := by decide +kernel
theorem dd_Ledger_startEnd_18 : decode bm_Ledger_startEnd 18 = .ok (.iconst 1, 1) := by decide +kernel
theorem dd_Ledger_startEnd_19 : decode bm_Ledger_startEnd 19 = .ok (.goto 4, 3) := by decide +kernel
theorem dd_Ledger_startEnd_22 : decode bm_Ledger_startEnd 22 = .ok (.iconst 0, 1) := by decide +kernel
theorem dd_Ledger_startEnd_23 : decode bm_Ledger_startEnd 23 = .ok (.invokevirtual 99, 3) := by decide +kernel
theorem dd_Ledger_startEnd_26 : decode bm_Ledger_startEnd 26 = .ok (.iconst 0, 1) := by decide +kernel
theorem dd_Ledger_startEnd_27 : decode bm_Ledger_startEnd 27 = .ok (.ireturn, 1) := by decide +kernel
theorem dd_Ledger_makeEnd_0 : decode bm_Ledger_makeEnd 0 = .ok (.aload_n 0, 1) := by decide +kernel
theorem dd_Ledger_makeEnd_1 : decode bm_Ledger_makeEnd 1 = .ok (.getfield 12, 3) := by decide +kernel
theorem dd_Ledger_makeEnd_4 : decode bm_Ledger_makeEnd 4 = .ok (.iload_n 1, 1) := by decide +kernel
theorem dd_Ledger_makeEnd_5 : decode bm_Ledger_makeEnd 5 = .ok (.invokestatic 63, 3) := by decide +kernel
theorem dd_Ledger_makeEnd_8 : decode bm_Ledger_makeEnd 8 = .ok (.iconst 2, 1) := by decide +kernel
theorem dd_Ledger_makeEnd_9 : decode bm_Ledger_makeEnd 9 = .ok (.iload_n 2, 1) := by decide +kernel
theorem dd_Ledger_makeEnd_10 : decode bm_Ledger_makeEnd 10 = .ok (.imul, 1) := by decide +kernel
theorem dd_Ledger_makeEnd_11 : decode bm_Ledger_makeEnd 11 = .ok (.iload_n 3, 1) := by decide +kernel
theorem dd_Ledger_makeEnd_12 : decode bm_Ledger_makeEnd 12 = .ok (.iadd, 1) := by decide +kernel
theorem dd_Ledger_makeEnd_13 : decode bm_Ledger_makeEnd 13 = .ok (.invokevirtual 103, 3) := by decide +kernel
theorem dd_Ledger_makeEnd_16 : decode bm_Ledger_makeEnd 16 = .ok (.iload_n 3, 1) := by decide +kernel
theorem dd_Ledger_makeEnd_17 : decode bm_Ledger_makeEnd 17 = .ok (.iconst 1, 1) := by decide +kernel
theorem dd_Ledger_makeEnd_18 : decode bm_Ledger_makeEnd 18 = .ok (.if_icmp .ne 15, 3) := by decide +kernel
theorem dd_Ledger_makeEnd_21 : decode bm_Ledger_makeEnd 21 = .ok (.aload_n 0, 1) := by decide +kernel
theorem dd_Ledger_makeEnd_22 : decode bm_Ledger_makeEnd 22 = .ok (.getfield 12, 3) := by decide +kernel
theorem dd_Ledger_makeEnd_25 : decode bm_Ledger_makeEnd 25 = .ok (.iload_n 1, 1) := by decide +kernel
theorem dd_Ledger_makeEnd_26 : decode bm_Ledger_makeEnd 26 = .ok (.invokestatic 73, 3) := by decide +kernel
theorem dd_Ledger_makeEnd_29 : decode bm_Ledger_makeEnd 29 = .ok (.iconst 1, 1) := by decide +kernel
theorem dd_Ledger_makeEnd_30 : decode bm_Ledger_makeEnd 30 = .ok (.invokevirtual 103, 3) := by decide +kernel
theorem dd_Ledger_makeEnd_33 : decode bm_Ledger_makeEnd 33 = .ok (.return_, 1) := by decide +kernel
theorem dd_Ledger_tryEnd_0 : decode bm_Ledger_tryEnd 0 = .ok (.iload_n 3, 1) := by decide +kernel
theorem dd_Ledger_tryEnd_1 : decode bm_Ledger_tryEnd 1 = .ok (.ifCond .eq 7, 3) := by decide +kernel
theorem dd_Ledger_tryEnd_4 : decode bm_Ledger_tryEnd 4 = .ok (.iconst 1, 1) := by decide +kernel
theorem dd_Ledger_tryEnd_5 : decode bm_Ledger_tryEnd 5 = .ok (.goto 4, 3) := by decide +kernel
theorem dd_Ledger_tryEnd_8 : decode bm_Ledger_tryEnd 8 = .ok (.iconst 0, 1) := by decide +kernel
theorem dd_Ledger_tryEnd_9 : decode bm_Ledger_tryEnd 9 = .ok (.istore 5, 2) := by decide +kernel
theorem dd_Ledger_tryEnd_11 : decode bm_Ledger_tryEnd 11 = .ok (.aload_n 0, 1) := by decide +kernel
theorem dd_Ledger_tryEnd_12 : decode bm_Ledger_tryEnd 12 = .ok (.iload_n 2, 1) := by decide +kernel
theorem dd_Ledger_tryEnd_13 : decode bm_Ledger_tryEnd 13 = .ok (.invokevirtual 96, 3) := by decide +kernel
theorem dd_Ledger_tryEnd_16 : decode bm_Ledger_tryEnd 16 = .ok (.iconst 1, 1) := by decide +kernel
theorem dd_Ledger_tryEnd_17 : decode bm_Ledger_tryEnd 17 = .ok (.if_icmp .ne 17, 3) := by decide +kernel
theorem dd_Ledger_tryEnd_20 : decode bm_Ledger_tryEnd 20 = .ok (.aload_n 0, 1) := by decide +kernel
theorem dd_Ledger_tryEnd_21 : decode bm_Ledger_tryEnd 21 = .ok (.iload_n 2, 1) := by decide +kernel
theorem dd_Ledger_tryEnd_22 : decode bm_Ledger_tryEnd 22 = .ok (.invokevirtual 70, 3) := by decide +kernel
theorem dd_Ledger_tryEnd_25 : decode bm_Ledger_tryEnd 25 = .ok (.iload 5, 2) := by decide +kernel
theorem dd_Ledger_tryEnd_27 : decode bm_Ledger_tryEnd 27 = .ok (.if_icmp .ne 7, 3) := by decide +kernel
theorem dd_Ledger_tryEnd_30 : decode bm_Ledger_tryEnd 30 = .ok (.iconst 1, 1) := by decide +kernel
theorem dd_Ledger_tryEnd_31 : decode bm_Ledger_tryEnd 31 = .ok (.goto 4, 3) := by decide +kernel
theorem dd_Ledger_tryEnd_34 : decode bm_Ledger_tryEnd 34 = .ok (.iconst 0, 1) := by decide +kernel
theorem dd_Ledger_tryEnd_35 : decode bm_Ledger_tryEnd 35 = .ok (.istore 6, 2) := by decide +kernel
theorem dd_Ledger_tryEnd_37 : decode bm_Ledger_tryEnd 37 = .ok (.aload_n 0, 1) := by decide +kernel
theorem dd_Ledger_tryEnd_38 : decode bm_Ledger_tryEnd 38 = .ok (.iload_n 2, 1) := by decide +kernel
theorem dd_Ledger_tryEnd_39 : decode bm_Ledger_tryEnd 39 = .ok (.invokevirtual 96, 3) := by decide +kernel
theorem dd_Ledger_tryEnd_42 : decode bm_Ledger_tryEnd 42 = .ok (.ifCond .eq 11, 3) := by decide +kernel
theorem dd_Ledger_tryEnd_45 : decode bm_Ledger_tryEnd 45 = .ok (.iload 6, 2) := by decide +kernel
theorem dd_Ledger_tryEnd_47 : decode bm_Ledger_tryEnd 47 = .ok (.ifCond .ne 6, 3) := by decide +kernel
theorem dd_Ledger_tryEnd_50 : decode bm_Ledger_tryEnd 50 = .ok (.bipush (-2), 2) := by decide +kernel
theorem dd_Ledger_tryEnd_52 : decode bm_Ledger_tryEnd 52 = .ok (.ireturn, 1) := by decide +kernel
theorem dd_Ledger_tryEnd_53 : decode bm_Ledger_tryEnd 53 = .ok (.aload_n 0, 1) := by decide +kernel
theorem dd_Ledger_tryEnd_54 : decode bm_Ledger_tryEnd 54 = .ok (.aload_n 1, 1) := by decide +kernel
theorem dd_Ledger_tryEnd_55 : decode bm_Ledger_tryEnd 55 = .ok (.iload 4, 2) := by decide +kernel
theorem dd_Ledger_tryEnd_57 : decode bm_Ledger_tryEnd 57 = .ok (.iload_n 2, 1) := by decide +kernel
theorem dd_Ledger_tryEnd_58 : decode bm_Ledger_tryEnd 58 = .ok (.iconst 1, 1) := by decide +kernel
theorem dd_Ledger_tryEnd_59 : decode bm_Ledger_tryEnd 59 = .ok (.iload 5, 2) := by decide +kernel
theorem dd_Ledger_tryEnd_61 : decode bm_Ledger_tryEnd 61 = .ok (.invokevirtual 107, 3) := by decide +kernel
theorem dd_Ledger_tryEnd_64 : decode bm_Ledger_tryEnd 64 = .ok (.istore 7, 2) := by decide +kernel
theorem dd_Ledger_tryEnd_66 : decode bm_Ledger_tryEnd 66 = .ok (.iload 7, 2) := by decide +kernel
theorem dd_Ledger_tryEnd_68 : decode bm_Ledger_tryEnd 68 = .ok (.ifCond .eq 6, 3) := by decide +kernel
theorem dd_Ledger_tryEnd_71 : decode bm_Ledger_tryEnd 71 = .ok (.iload 7, 2) := by decide +kernel
theorem dd_Ledger_tryEnd_73 : decode bm_Ledger_tryEnd 73 = .ok (.ireturn, 1) := by decide +kernel
theorem dd_Ledger_tryEnd_74 : decode bm_Ledger_tryEnd 74 = .ok (.aload_n 0, 1) := by decide +kernel
theorem dd_Ledger_tryEnd_75 : decode bm_Ledger_tryEnd 75 = .ok (.iload_n 2, 1) := by decide +kernel
theorem dd_Ledger_tryEnd_76 : decode bm_Ledger_tryEnd 76 = .ok (.iconst 2, 1) := by decide +kernel
theorem dd_Ledger_tryEnd_77 : decode bm_Ledger_tryEnd 77 = .ok (.iload 5, 2) := by decide +kernel
theorem dd_Ledger_tryEnd_79 : decode bm_Ledger_tryEnd 79 = .ok (.invokevirtual 99, 3) := by decide +kernel
theorem dd_Ledger_tryEnd_82 : decode bm_Ledger_tryEnd 82 = .ok (.iconst 0, 1) := by decide +kernel
theorem dd_Ledger_tryEnd_83 : decode bm_Ledger_tryEnd 83 = .ok (.ireturn, 1) := by decide +kernel
theorem dd_Ledger_followEnd_0 : decode bm_Ledger_followEnd 0 = .ok (.aload_n 0, 1) := by decide +kernel
theorem dd_Ledger_followEnd_1 : decode bm_Ledger_followEnd 1 = .ok (.iload_n 2, 1) := by decide +kernel
theorem dd_Ledger_followEnd_2 : decode bm_Ledger_followEnd 2 = .ok (.invokevirtual 96, 3) := by decide +kernel
theorem dd_Ledger_followEnd_5 : decode bm_Ledger_followEnd 5 = .ok (.iload 4, 2) := by decide +kernel
theorem dd_Ledger_followEnd_7 : decode bm_Ledger_followEnd 7 = .ok (.if_icmp .eq 6, 3) := by decide +kernel
theorem dd_Ledger_followEnd_10 : decode bm_Ledger_followEnd 10 = .ok (.bipush (-2), 2) := by decide +kernel
theorem dd_Ledger_followEnd_12 : decode bm_Ledger_followEnd 12 = .ok (.ireturn, 1) := by decide +kernel
theorem dd_Ledger_followEnd_13 : decode bm_Ledger_followEnd 13 = .ok (.aload_n 0, 1) := by decide +kernel
theorem dd_Ledger_followEnd_14 : decode bm_Ledger_followEnd 14 = .ok (.aload_n 1, 1) := by decide +kernel
theorem dd_Ledger_followEnd_15 : decode bm_Ledger_followEnd 15 = .ok (.iload_n 3, 1) := by decide +kernel
theorem dd_Ledger_followEnd_16 : decode bm_Ledger_followEnd 16 = .ok (.iload_n 2, 1) := by decide +kernel
theorem dd_Ledger_followEnd_17 : decode bm_Ledger_followEnd 17 = .ok (.iload 5, 2) := by decide +kernel
theorem dd_Ledger_followEnd_19 : decode bm_Ledger_followEnd 19 = .ok (.aload_n 0, 1) := by decide +kernel
theorem dd_Ledger_followEnd_20 : decode bm_Ledger_followEnd 20 = .ok (.iload_n 2, 1) := by decide +kernel
theorem dd_Ledger_followEnd_21 : decode bm_Ledger_followEnd 21 = .ok (.invokevirtual 70, 3) := by decide +kernel
theorem dd_Ledger_followEnd_24 : decode bm_Ledger_followEnd 24 = .ok (.invokevirtual 107, 3) := by decide +kernel
theorem dd_Ledger_followEnd_27 : decode bm_Ledger_followEnd 27 = .ok (.istore 7, 2) := by decide +kernel
theorem dd_Ledger_followEnd_29 : decode bm_Ledger_followEnd 29 = .ok (.iload 7, 2) := by decide +kernel
theorem dd_Ledger_followEnd_31 : decode bm_Ledger_followEnd 31 = .ok (.ifCond .eq 6, 3) := by decide +kernel
theorem dd_Ledger_followEnd_34 : decode bm_Ledger_followEnd 34 = .ok (.iload 7, 2) := by decide +kernel
theorem dd_Ledger_followEnd_36 : decode bm_Ledger_followEnd 36 = .ok (.ireturn, 1) := by decide +kernel
theorem dd_Ledger_followEnd_37 : decode bm_Ledger_followEnd 37 = .ok (.aload_n 0, 1) := by decide +kernel
theorem dd_Ledger_followEnd_38 : decode bm_Ledger_followEnd 38 = .ok (.iload_n 2, 1) := by decide +kernel
theorem dd_Ledger_followEnd_39 : decode bm_Ledger_followEnd 39 = .ok (.iload 6, 2) := by decide +kernel
theorem dd_Ledger_followEnd_41 : decode bm_Ledger_followEnd 41 = .ok (.invokevirtual 111, 3) := by decide +kernel
theorem dd_Ledger_followEnd_44 : decode bm_Ledger_followEnd 44 = .ok (.iconst 0, 1) := by decide +kernel
theorem dd_Ledger_followEnd_45 : decode bm_Ledger_followEnd 45 = .ok (.ireturn, 1) := by decide +kernel
theorem dd_Ledger_closeEnd_0 : decode bm_Ledger_closeEnd 0 = .ok (.aload_n 0, 1) := by decide +kernel
theorem dd_Ledger_closeEnd_1 : decode bm_Ledger_closeEnd 1 = .ok (.iload_n 1, 1) := by decide +kernel
theorem dd_Ledger_closeEnd_2 : decode bm_Ledger_closeEnd 2 = .ok (.invokevirtual 96, 3) := by decide +kernel
theorem dd_Ledger_closeEnd_5 : decode bm_Ledger_closeEnd 5 = .ok (.iconst 3, 1) := by decide +kernel
theorem dd_Ledger_closeEnd_6 : decode bm_Ledger_closeEnd 6 = .ok (.if_icmp .eq 6, 3) := by decide +kernel
theorem dd_Ledger_closeEnd_9 : decode bm_Ledger_closeEnd 9 = .ok (.bipush (-2), 2) := by decide +kernel
theorem dd_Ledger_closeEnd_11 : decode bm_Ledger_closeEnd 11 = .ok (.ireturn, 1) := by decide +kernel
theorem dd_Ledger_closeEnd_12 : decode bm_Ledger_closeEnd 12 = .ok (.aload_n 0, 1) := by decide +kernel
theorem dd_Ledger_closeEnd_13 : decode bm_Ledger_closeEnd 13 = .ok (.iload_n 1, 1) := by decide +kernel
theorem dd_Ledger_closeEnd_14 : decode bm_Ledger_closeEnd 14 = .ok (.iconst 4, 1) := by decide +kernel
theorem dd_Ledger_closeEnd_15 : decode bm_Ledger_closeEnd 15 = .ok (.invokevirtual 111, 3) := by decide +kernel
theorem dd_Ledger_closeEnd_18 : decode bm_Ledger_closeEnd 18 = .ok (.iconst 0, 1) := by decide +kernel
theorem dd_Ledger_closeEnd_19 : decode bm_Ledger_closeEnd 19 = .ok (.ireturn, 1) := by decide +kernel
theorem dd_Ledger_moveEnd_0 : decode bm_Ledger_moveEnd 0 = .ok (.aload_n 0, 1) := by decide +kernel
theorem dd_Ledger_moveEnd_1 : decode bm_Ledger_moveEnd 1 = .ok (.getfield 12, 3) := by decide +kernel
theorem dd_Ledger_moveEnd_4 : decode bm_Ledger_moveEnd 4 = .ok (.iload_n 1, 1) := by decide +kernel
theorem dd_Ledger_moveEnd_5 : decode bm_Ledger_moveEnd 5 = .ok (.invokestatic 63, 3) := by decide +kernel
theorem dd_Ledger_moveEnd_8 : decode bm_Ledger_moveEnd 8 = .ok (.iconst 2, 1) := by decide +kernel
theorem dd_Ledger_moveEnd_9 : decode bm_Ledger_moveEnd 9 = .ok (.iload_n 2, 1) := by decide +kernel
theorem dd_Ledger_moveEnd_10 : decode bm_Ledger_moveEnd 10 = .ok (.imul, 1) := by decide +kernel
theorem dd_Ledger_moveEnd_11 : decode bm_Ledger_moveEnd 11 = .ok (.aload_n 0, 1) := by decide +kernel
theorem dd_Ledger_moveEnd_12 : decode bm_Ledger_moveEnd 12 = .ok (.iload_n 1, 1) := by decide +kernel
theorem dd_Ledger_moveEnd_13 : decode bm_Ledger_moveEnd 13 = .ok (.invokevirtual 70, 3) := by decide +kernel
theorem dd_Ledger_moveEnd_16 : decode bm_Ledger_moveEnd 16 = .ok (.iadd, 1) := by decide +kernel
theorem dd_Ledger_moveEnd_17 : decode bm_Ledger_moveEnd 17 = .ok (.invokevirtual 103, 3) := by decide +kernel
theorem dd_Ledger_moveEnd_20 : decode bm_Ledger_moveEnd 20 = .ok (.return_, 1) := by decide +kernel
theorem dd_Ledger_sendPacket_0 : decode bm_Ledger_sendPacket 0 = .ok (.aload_n 0, 1) := by decide +kernel
theorem dd_Ledger_sendPacket_1 : decode bm_Ledger_sendPacket 1 = .ok (.iload_n 1, 1) := by decide +kernel
theorem dd_Ledger_sendPacket_2 : decode bm_Ledger_sendPacket 2 = .ok (.invokevirtual 96, 3) := by decide +kernel
theorem dd_Ledger_sendPacket_5 : decode bm_Ledger_sendPacket 5 = .ok (.iconst 3, 1) := by decide +kernel
theorem dd_Ledger_sendPacket_6 : decode bm_Ledger_sendPacket 6 = .ok (.if_icmp .eq 6, 3) := by decide +kernel
theorem dd_Ledger_sendPacket_9 : decode bm_Ledger_sendPacket 9 = .ok (.bipush (-2), 2) := by decide +kernel
theorem dd_Ledger_sendPacket_11 : decode bm_Ledger_sendPacket 11 = .ok (.ireturn, 1) := by decide +kernel
theorem dd_Ledger_sendPacket_12 : decode bm_Ledger_sendPacket 12 = .ok (.aload_n 0, 1) := by decide +kernel
theorem dd_Ledger_sendPacket_13 : decode bm_Ledger_sendPacket 13 = .ok (.getfield 42, 3) := by decide +kernel
theorem dd_Ledger_sendPacket_16 : decode bm_Ledger_sendPacket 16 = .ok (.iload_n 1, 1) := by decide +kernel
theorem dd_Ledger_sendPacket_17 : decode bm_Ledger_sendPacket 17 = .ok (.aaload, 1) := by decide +kernel
theorem dd_Ledger_sendPacket_18 : decode bm_Ledger_sendPacket 18 = .ok (.astore 6, 2) := by decide +kernel
theorem dd_Ledger_sendPacket_20 : decode bm_Ledger_sendPacket 20 = .ok (.iload_n 2, 1) := by decide +kernel
theorem dd_Ledger_sendPacket_21 : decode bm_Ledger_sendPacket 21 = .ok (.iconst 4, 1) := by decide +kernel
theorem dd_Ledger_sendPacket_22 : decode bm_Ledger_sendPacket 22 = .ok (.idiv, 1) := by decide +kernel
theorem dd_Ledger_sendPacket_23 : decode bm_Ledger_sendPacket 23 = .ok (.istore 7, 2) := by decide +kernel
theorem dd_Ledger_sendPacket_25 : decode bm_Ledger_sendPacket 25 = .ok (.aload 6, 2) := by decide +kernel
theorem dd_Ledger_sendPacket_27 : decode bm_Ledger_sendPacket 27 = .ok (.getfield 114, 3) := by decide +kernel
theorem dd_Ledger_sendPacket_30 : decode bm_Ledger_sendPacket 30 = .ok (.bipush 12, 2) := by decide +kernel
theorem dd_Ledger_sendPacket_32 : decode bm_Ledger_sendPacket 32 = .ok (.if_icmp .ge 20, 3) := by decide +kernel
theorem dd_Ledger_sendPacket_35 : decode bm_Ledger_sendPacket 35 = .ok (.aload_n 0, 1) := by decide +kernel
theorem dd_Ledger_sendPacket_36 : decode bm_Ledger_sendPacket 36 = .ok (.getfield 36, 3) := by decide +kernel
theorem dd_Ledger_sendPacket_39 : decode bm_Ledger_sendPacket 39 = .ok (.getfield 117, 3) := by decide +kernel
theorem dd_Ledger_sendPacket_42 : decode bm_Ledger_sendPacket 42 = .ok (.iload 7, 2) := by decide +kernel
theorem dd_Ledger_sendPacket_44 : decode bm_Ledger_sendPacket 44 = .ok (.aaload, 1) := by decide +kernel
theorem dd_Ledger_sendPacket_45 : decode bm_Ledger_sendPacket 45 = .ok (.iload_n 3, 1) := by decide +kernel
theorem dd_Ledger_sendPacket_46 : decode bm_Ledger_sendPacket 46 = .ok (.iaload, 1) := by decide +kernel
theorem dd_Ledger_sendPacket_47 : decode bm_Ledger_sendPacket 47 = .ok (.iload 4, 2) := by decide +kernel
theorem dd_Ledger_sendPacket_49 : decode bm_Ledger_sendPacket 49 = .ok (.if_icmp .ge 6, 3) := by decide +kernel
theorem dd_Ledger_sendPacket_52 : decode bm_Ledger_sendPacket 52 = .ok (.bipush (-7), 2) := by decide +kernel
theorem dd_Ledger_sendPacket_54 : decode bm_Ledger_sendPacket 54 = .ok (.ireturn, 1) := by decide +kernel
theorem dd_Ledger_sendPacket_55 : decode bm_Ledger_sendPacket 55 = .ok (.aload 6, 2) := by decide +kernel
theorem dd_Ledger_sendPacket_57 : decode bm_Ledger_sendPacket 57 = .ok (.getfield 121, 3) := by decide +kernel
theorem dd_Ledger_sendPacket_60 : decode bm_Ledger_sendPacket 60 = .ok (.aload 6, 2) := by decide +kernel
theorem dd_Ledger_sendPacket_62 : decode bm_Ledger_sendPacket 62 = .ok (.getfield 114, 3) := by decide +kernel
theorem dd_Ledger_sendPacket_65 : decode bm_Ledger_sendPacket 65 = .ok (.aaload, 1) := by decide +kernel
theorem dd_Ledger_sendPacket_66 : decode bm_Ledger_sendPacket 66 = .ok (.astore 8, 2) := by decide +kernel
theorem dd_Ledger_sendPacket_68 : decode bm_Ledger_sendPacket 68 = .ok (.aload 8, 2) := by decide +kernel
theorem dd_Ledger_sendPacket_70 : decode bm_Ledger_sendPacket 70 = .ok (.iload_n 3, 1) := by decide +kernel
theorem dd_Ledger_sendPacket_71 : decode bm_Ledger_sendPacket 71 = .ok (.putfield 125, 3) := by decide +kernel
theorem dd_Ledger_sendPacket_74 : decode bm_Ledger_sendPacket 74 = .ok (.aload 8, 2) := by decide +kernel
theorem dd_Ledger_sendPacket_76 : decode bm_Ledger_sendPacket 76 = .ok (.iload 4, 2) := by decide +kernel
theorem dd_Ledger_sendPacket_78 : decode bm_Ledger_sendPacket 78 = .ok (.putfield 130, 3) := by decide +kernel
theorem dd_Ledger_sendPacket_81 : decode bm_Ledger_sendPacket 81 = .ok (.aload 8, 2) := by decide +kernel
theorem dd_Ledger_sendPacket_83 : decode bm_Ledger_sendPacket 83 = .ok (.iload 7, 2) := by decide +kernel
theorem dd_Ledger_sendPacket_85 : decode bm_Ledger_sendPacket 85 = .ok (.putfield 133, 3) := by decide +kernel
theorem dd_Ledger_sendPacket_88 : decode bm_Ledger_sendPacket 88 = .ok (.aload 8, 2) := by decide +kernel
theorem dd_Ledger_sendPacket_90 : decode bm_Ledger_sendPacket 90 = .ok (.iload_n 2, 1) := by decide +kernel
theorem dd_Ledger_sendPacket_91 : decode bm_Ledger_sendPacket 91 = .ok (.iconst 4, 1) := by decide +kernel
theorem dd_Ledger_sendPacket_92 : decode bm_Ledger_sendPacket 92 = .ok (.irem, 1) := by decide +kernel
theorem dd_Ledger_sendPacket_93 : decode bm_Ledger_sendPacket 93 = .ok (.putfield 136, 3) := by decide +kernel
theorem dd_Ledger_sendPacket_96 : decode bm_Ledger_sendPacket 96 = .ok (.aload 8, 2) := by decide +kernel
theorem dd_Ledger_sendPacket_98 : decode bm_Ledger_sendPacket 98 = .ok (.aload_n 0, 1) := by decide +kernel
theorem dd_Ledger_sendPacket_99 : decode bm_Ledger_sendPacket 99 = .ok (.getfield 29, 3) := by decide +kernel
theorem dd_Ledger_sendPacket_102 : decode bm_Ledger_sendPacket 102 = .ok (.getfield 139, 3) := by decide +kernel
theorem dd_Ledger_sendPacket_105 : decode bm_Ledger_sendPacket 105 = .ok (.iload 5, 2) := by decide +kernel
theorem dd_Ledger_sendPacket_107 : decode bm_Ledger_sendPacket 107 = .ok (.iadd, 1) := by decide +kernel
theorem dd_Ledger_sendPacket_108 : decode bm_Ledger_sendPacket 108 = .ok (.putfield 142, 3) := by decide +kernel
theorem dd_Ledger_sendPacket_111 : decode bm_Ledger_sendPacket 111 = .ok (.aload 8, 2) := by decide +kernel
theorem dd_Ledger_sendPacket_113 : decode bm_Ledger_sendPacket 113 = .ok (.aload_n 0, 1) := by decide +kernel
theorem dd_Ledger_sendPacket_114 : decode bm_Ledger_sendPacket 114 = .ok (.getfield 36, 3) := by decide +kernel
theorem dd_Ledger_sendPacket_117 : decode bm_Ledger_sendPacket 117 = .ok (.iload_n 3, 1) := by decide +kernel
theorem dd_Ledger_sendPacket_118 : decode bm_Ledger_sendPacket 118 = .ok (.iload_n 1, 1) := by decide +kernel
theorem dd_Ledger_sendPacket_119 : decode bm_Ledger_sendPacket 119 = .ok (.invokevirtual 145, 3) := by decide +kernel
theorem dd_Ledger_sendPacket_122 : decode bm_Ledger_sendPacket 122 = .ok (.putfield 148, 3) := by decide +kernel
theorem dd_Ledger_sendPacket_125 : decode bm_Ledger_sendPacket 125 = .ok (.aload 6, 2) := by decide +kernel
theorem dd_Ledger_sendPacket_127 : decode bm_Ledger_sendPacket 127 = .ok (.dup, 1) := by decide +kernel
theorem dd_Ledger_sendPacket_128 : decode bm_Ledger_sendPacket 128 = .ok (.getfield 114, 3) := by decide +kernel
theorem dd_Ledger_sendPacket_131 : decode bm_Ledger_sendPacket 131 = .ok (.iconst 1, 1) := by decide +kernel
theorem dd_Ledger_sendPacket_132 : decode bm_Ledger_sendPacket 132 = .ok (.iadd, 1) := by decide +kernel
theorem dd_Ledger_sendPacket_133 : decode bm_Ledger_sendPacket 133 = .ok (.putfield 114, 3) := by decide +kernel
theorem dd_Ledger_sendPacket_136 : decode bm_Ledger_sendPacket 136 = .ok (.aload_n 0, 1) := by decide +kernel
theorem dd_Ledger_sendPacket_137 : decode bm_Ledger_sendPacket 137 = .ok (.getfield 36, 3) := by decide +kernel
theorem dd_Ledger_sendPacket_140 : decode bm_Ledger_sendPacket 140 = .ok (.aload 8, 2) := by decide +kernel
theorem dd_Ledger_sendPacket_142 : decode bm_Ledger_sendPacket 142 = .ok (.iload_n 1, 1) := by decide +kernel
theorem dd_Ledger_sendPacket_143 : decode bm_Ledger_sendPacket 143 = .ok (.invokevirtual 151, 3) := by decide +kernel
theorem dd_Ledger_sendPacket_146 : decode bm_Ledger_sendPacket 146 = .ok (.aload_n 0, 1) := by decide +kernel
theorem dd_Ledger_sendPacket_147 : decode bm_Ledger_sendPacket 147 = .ok (.getfield 12, 3) := by decide +kernel
theorem dd_Ledger_sendPacket_150 : decode bm_Ledger_sendPacket 150 = .ok (.iload_n 1, 1) := by decide +kernel
theorem dd_Ledger_sendPacket_151 : decode bm_Ledger_sendPacket 151 = .ok (.aload 6, 2) := by decide +kernel
theorem dd_Ledger_sendPacket_153 : decode bm_Ledger_sendPacket 153 = .ok (.getfield 114, 3) := by decide +kernel
theorem dd_Ledger_sendPacket_156 : decode bm_Ledger_sendPacket 156 = .ok (.invokestatic 155, 3) := by decide +kernel
theorem dd_Ledger_sendPacket_159 : decode bm_Ledger_sendPacket 159 = .ok (.aload 8, 2) := by decide +kernel
theorem dd_Ledger_sendPacket_161 : decode bm_Ledger_sendPacket 161 = .ok (.iconst 0, 1) := by decide +kernel
theorem dd_Ledger_sendPacket_162 : decode bm_Ledger_sendPacket 162 = .ok (.invokevirtual 158, 3) := by decide +kernel
theorem dd_Ledger_sendPacket_165 : decode bm_Ledger_sendPacket 165 = .ok (.invokevirtual 103, 3) := by decide +kernel
theorem dd_Ledger_sendPacket_168 : decode bm_Ledger_sendPacket 168 = .ok (.aload 6, 2) := by decide +kernel
theorem dd_Ledger_sendPacket_170 : decode bm_Ledger_sendPacket 170 = .ok (.getfield 114, 3) := by decide +kernel
theorem dd_Ledger_sendPacket_173 : decode bm_Ledger_sendPacket 173 = .ok (.ireturn, 1) := by decide +kernel
theorem dd_Ledger_receivePacket_0 : decode bm_Ledger_receivePacket 0 = .ok (.aload_n 1, 1) := by decide +kernel
theorem dd_Ledger_receivePacket_1 : decode bm_Ledger_receivePacket 1 = .ok (.getfield 42, 3) := by decide +kernel
theorem dd_Ledger_receivePacket_4 : decode bm_Ledger_receivePacket 4 = .ok (.iload_n 2, 1) := by decide +kernel
theorem dd_Ledger_receivePacket_5 : decode bm_Ledger_receivePacket 5 = .ok (.aaload, 1) := by decide +kernel
theorem dd_Ledger_receivePacket_6 : decode bm_Ledger_receivePacket 6 = .ok (.getfield 121, 3) := by decide +kernel
theorem dd_Ledger_receivePacket_9 : decode bm_Ledger_receivePacket 9 = .ok (.iload_n 3, 1) := by decide +kernel
theorem dd_Ledger_receivePacket_10 : decode bm_Ledger_receivePacket 10 = .ok (.iconst 1, 1) := by decide +kernel
theorem dd_Ledger_receivePacket_11 : decode bm_Ledger_receivePacket 11 = .ok (.isub, 1) := by decide +kernel
theorem dd_Ledger_receivePacket_12 : decode bm_Ledger_receivePacket 12 = .ok (.aaload, 1) := by decide +kernel
theorem dd_Ledger_receivePacket_13 : decode bm_Ledger_receivePacket 13 = .ok (.astore 6, 2) := by decide +kernel
theorem dd_Ledger_receivePacket_15 : decode bm_Ledger_receivePacket 15 = .ok (.aload_n 0, 1) := by decide +kernel
theorem dd_Ledger_receivePacket_16 : decode bm_Ledger_receivePacket 16 = .ok (.iload_n 2, 1) := by decide +kernel
theorem dd_Ledger_receivePacket_17 : decode bm_Ledger_receivePacket 17 = .ok (.invokevirtual 96, 3) := by decide +kernel
theorem dd_Ledger_receivePacket_20 : decode bm_Ledger_receivePacket 20 = .ok (.iconst 3, 1) := by decide +kernel
theorem dd_Ledger_receivePacket_21 : decode bm_Ledger_receivePacket 21 = .ok (.if_icmp .eq 6, 3) := by decide +kernel
theorem dd_Ledger_receivePacket_24 : decode bm_Ledger_receivePacket 24 = .ok (.bipush (-2), 2) := by decide +kernel
theorem dd_Ledger_receivePacket_26 : decode bm_Ledger_receivePacket 26 = .ok (.ireturn, 1) := by decide +kernel
theorem dd_Ledger_receivePacket_27 : decode bm_Ledger_receivePacket 27 = .ok (.aload_n 0, 1) := by decide +kernel
theorem dd_Ledger_receivePacket_28 : decode bm_Ledger_receivePacket 28 = .ok (.getfield 47, 3) := by decide +kernel
theorem dd_Ledger_receivePacket_31 : decode bm_Ledger_receivePacket 31 = .ok (.aload 6, 2) := by decide +kernel
theorem dd_Ledger_receivePacket_33 : decode bm_Ledger_receivePacket 33 = .ok (.getfield 142, 3) := by decide +kernel
theorem dd_Ledger_receivePacket_36 : decode bm_Ledger_receivePacket 36 = .ok (.if_icmp .lt 6, 3) := by decide +kernel
theorem dd_Ledger_receivePacket_39 : decode bm_Ledger_receivePacket 39 = .ok (.bipush (-9), 2) := by decide +kernel
theorem dd_Ledger_receivePacket_41 : decode bm_Ledger_receivePacket 41 = .ok (.ireturn, 1) := by decide +kernel
theorem dd_Ledger_receivePacket_42 : decode bm_Ledger_receivePacket 42 = .ok (.aload_n 0, 1) := by decide +kernel
theorem dd_Ledger_receivePacket_43 : decode bm_Ledger_receivePacket 43 = .ok (.iload_n 2, 1) := by decide +kernel
theorem dd_Ledger_receivePacket_44 : decode bm_Ledger_receivePacket 44 = .ok (.iload_n 3, 1) := by decide +kernel
theorem dd_Ledger_receivePacket_45 : decode bm_Ledger_receivePacket 45 = .ok (.invokevirtual 161, 3) := by decide +kernel
theorem dd_Ledger_receivePacket_48 : decode bm_Ledger_receivePacket 48 = .ok (.ifCond .ne 6, 3) := by decide +kernel
theorem dd_Ledger_receivePacket_51 : decode bm_Ledger_receivePacket 51 = .ok (.bipush (-8), 2) := by decide +kernel
theorem dd_Ledger_receivePacket_53 : decode bm_Ledger_receivePacket 53 = .ok (.ireturn, 1) := by decide +kernel
theorem dd_Ledger_receivePacket_54 : decode bm_Ledger_receivePacket 54 = .ok (.aload 6, 2) := by decide +kernel
theorem dd_Ledger_receivePacket_56 : decode bm_Ledger_receivePacket 56 = .ok (.iload 5, 2) := by decide +kernel
theorem dd_Ledger_receivePacket_58 : decode bm_Ledger_receivePacket 58 = .ok (.ifCond .eq 7, 3) := by decide +kernel
theorem dd_Ledger_receivePacket_61 : decode bm_Ledger_receivePacket 61 = .ok (.iconst 1, 1) := by decide +kernel
theorem dd_Ledger_receivePacket_62 : decode bm_Ledger_receivePacket 62 = .ok (.goto 4, 3) := by decide +kernel
theorem dd_Ledger_receivePacket_65 : decode bm_Ledger_receivePacket 65 = .ok (.iconst 0, 1) := by decide +kernel
theorem dd_Ledger_receivePacket_66 : decode bm_Ledger_receivePacket 66 = .ok (.invokevirtual 158, 3) := by decide +kernel
theorem dd_Ledger_receivePacket_69 : decode bm_Ledger_receivePacket 69 = .ok (.istore 7, 2) := by decide +kernel
theorem dd_Ledger_receivePacket_71 : decode bm_Ledger_receivePacket 71 = .ok (.aload_n 0, 1) := by decide +kernel
theorem dd_Ledger_receivePacket_72 : decode bm_Ledger_receivePacket 72 = .ok (.aload_n 1, 1) := by decide +kernel
theorem dd_Ledger_receivePacket_73 : decode bm_Ledger_receivePacket 73 = .ok (.iload 4, 2) := by decide +kernel
theorem dd_Ledger_receivePacket_75 : decode bm_Ledger_receivePacket 75 = .ok (.iload_n 2, 1) := by decide +kernel
theorem dd_Ledger_receivePacket_76 : decode bm_Ledger_receivePacket 76 = .ok (.iload_n 3, 1) := by decide +kernel
theorem dd_Ledger_receivePacket_77 : decode bm_Ledger_receivePacket 77 = .ok (.invokestatic 155, 3) := by decide +kernel
theorem dd_Ledger_receivePacket_80 : decode bm_Ledger_receivePacket 80 = .ok (.iload 7, 2) := by decide +kernel
theorem dd_Ledger_receivePacket_82 : decode bm_Ledger_receivePacket 82 = .ok (.invokevirtual 92, 3) := by decide +kernel
theorem dd_Ledger_receivePacket_85 : decode bm_Ledger_receivePacket 85 = .ok (.istore 8, 2) := by decide +kernel
theorem dd_Ledger_receivePacket_87 : decode bm_Ledger_receivePacket 87 = .ok (.iload 8, 2) := by decide +kernel
theorem dd_Ledger_receivePacket_89 : decode bm_Ledger_receivePacket 89 = .ok (.ifCond .eq 6, 3) := by decide +kernel
theorem dd_Ledger_receivePacket_92 : decode bm_Ledger_receivePacket 92 = .ok (.iload 8, 2) := by decide +kernel
theorem dd_Ledger_receivePacket_94 : decode bm_Ledger_receivePacket 94 = .ok (.ireturn, 1) := by decide +kernel
theorem dd_Ledger_receivePacket_95 : decode bm_Ledger_receivePacket 95 = .ok (.aload_n 0, 1) := by decide +kernel
theorem dd_Ledger_receivePacket_96 : decode bm_Ledger_receivePacket 96 = .ok (.getfield 36, 3) := by decide +kernel
theorem dd_Ledger_receivePacket_99 : decode bm_Ledger_receivePacket 99 = .ok (.aload 6, 2) := by decide +kernel
theorem dd_Ledger_receivePacket_101 : decode bm_Ledger_receivePacket 101 = .ok (.iload_n 2, 1) := by decide +kernel
theorem dd_Ledger_receivePacket_102 : decode bm_Ledger_receivePacket 102 = .ok (.invokevirtual 165, 3) := by decide +kernel
theorem dd_Ledger_receivePacket_105 : decode bm_Ledger_receivePacket 105 = .ok (.ifCond .eq 7, 3) := by decide +kernel
theorem dd_Ledger_receivePacket_108 : decode bm_Ledger_receivePacket 108 = .ok (.iconst 1, 1) := by decide +kernel
theorem dd_Ledger_receivePacket_109 : decode bm_Ledger_receivePacket 109 = .ok (.goto 4, 3) := by decide +kernel
theorem dd_Ledger_receivePacket_112 : decode bm_Ledger_receivePacket 112 = .ok (.iconst 2, 1) := by decide +kernel
theorem dd_Ledger_receivePacket_113 : decode bm_Ledger_receivePacket 113 = .ok (.istore 9, 2) := by decide +kernel
theorem dd_Ledger_receivePacket_115 : decode bm_Ledger_receivePacket 115 = .ok (.aload_n 0, 1) := by decide +kernel
theorem dd_Ledger_receivePacket_116 : decode bm_Ledger_receivePacket 116 = .ok (.iload_n 2, 1) := by decide +kernel
theorem dd_Ledger_receivePacket_117 : decode bm_Ledger_receivePacket 117 = .ok (.iload_n 3, 1) := by decide +kernel
theorem dd_Ledger_receivePacket_118 : decode bm_Ledger_receivePacket 118 = .ok (.iload 9, 2) := by decide +kernel
theorem dd_Ledger_receivePacket_120 : decode bm_Ledger_receivePacket 120 = .ok (.invokevirtual 169, 3) := by decide +kernel
theorem dd_Ledger_receivePacket_123 : decode bm_Ledger_receivePacket 123 = .ok (.iload 9, 2) := by decide +kernel
theorem dd_Ledger_receivePacket_125 : decode bm_Ledger_receivePacket 125 = .ok (.ireturn, 1) := by decide +kernel
theorem dd_Ledger_isReceivable_0 : decode bm_Ledger_isReceivable 0 = .ok (.aload_n 0, 1) := by decide +kernel
theorem dd_Ledger_isReceivable_1 : decode bm_Ledger_isReceivable 1 = .ok (.iload_n 1, 1) := by decide +kernel
theorem dd_Ledger_isReceivable_2 : decode bm_Ledger_isReceivable 2 = .ok (.invokevirtual 172, 3) := by decide +kernel
theorem dd_Ledger_isReceivable_5 : decode bm_Ledger_isReceivable 5 = .ok (.ifCond .eq 20, 3) := by decide +kernel
theorem dd_Ledger_isReceivable_8 : decode bm_Ledger_isReceivable 8 = .ok (.iload_n 2, 1) := by decide +kernel
theorem dd_Ledger_isReceivable_9 : decode bm_Ledger_isReceivable 9 = .ok (.aload_n 0, 1) := by decide +kernel
theorem dd_Ledger_isReceivable_10 : decode bm_Ledger_isReceivable 10 = .ok (.iload_n 1, 1) := by decide +kernel
theorem dd_Ledger_isReceivable_11 : decode bm_Ledger_isReceivable 11 = .ok (.invokevirtual 175, 3) := by decide +kernel
theorem dd_Ledger_isReceivable_14 : decode bm_Ledger_isReceivable 14 = .ok (.if_icmp .ne 7, 3) := by decide +kernel
theorem dd_Ledger_isReceivable_17 : decode bm_Ledger_isReceivable 17 = .ok (.iconst 1, 1) := by decide +kernel
theorem dd_Ledger_isReceivable_18 : decode bm_Ledger_isReceivable 18 = .ok (.goto 27, 3) := by decide +kernel
theorem dd_Ledger_isReceivable_21 : decode bm_Ledger_isReceivable 21 = .ok (.iconst 0, 1) := by decide +kernel
theorem dd_Ledger_isReceivable_22 : decode bm_Ledger_isReceivable 22 = .ok (.goto 23, 3) := by decide +kernel
theorem dd_Ledger_isReceivable_25 : decode bm_Ledger_isReceivable 25 = .ok (.aload_n 0, 1) := by decide +kernel
theorem dd_Ledger_isReceivable_26 : decode bm_Ledger_isReceivable 26 = .ok (.getfield 12, 3) := by decide +kernel
theorem dd_Ledger_isReceivable_29 : decode bm_Ledger_isReceivable 29 = .ok (.iload_n 1, 1) := by decide +kernel
theorem dd_Ledger_isReceivable_30 : decode bm_Ledger_isReceivable 30 = .ok (.iload_n 2, 1) := by decide +kernel
theorem dd_Ledger_isReceivable_31 : decode bm_Ledger_isReceivable 31 = .ok (.invokestatic 178, 3) := by decide +kernel
theorem dd_Ledger_isReceivable_34 : decode bm_Ledger_isReceivable 34 = .ok (.invokevirtual 89, 3) := by decide +kernel
theorem dd_Ledger_isReceivable_37 : decode bm_Ledger_isReceivable 37 = .ok (.ifCond .ne 7, 3) := by decide +kernel
theorem dd_Ledger_isReceivable_40 : decode bm_Ledger_isReceivable 40 = .ok (.iconst 1, 1) := by decide +kernel
theorem dd_Ledger_isReceivable_41 : decode bm_Ledger_isReceivable 41 = .ok (.goto 4, 3) := by decide +kernel
theorem dd_Ledger_isReceivable_44 : decode bm_Ledger_isReceivable 44 = .ok (.iconst 0, 1) := by decide +kernel
theorem dd_Ledger_isReceivable_45 : decode bm_Ledger_isReceivable 45 = .ok (.ireturn, 1) := by decide +kernel
theorem dd_Ledger_noteReceived_0 : decode bm_Ledger_noteReceived 0 = .ok (.aload_n 0, 1) := by decide +kernel
theorem dd_Ledger_noteReceived_1 : decode bm_Ledger_noteReceived 1 = .ok (.iload_n 1, 1) := by decide +kernel
theorem dd_Ledger_noteReceived_2 : decode bm_Ledger_noteReceived 2 = .ok (.invokevirtual 172, 3) := by decide +kernel
theorem dd_Ledger_noteReceived_5 : decode bm_Ledger_noteReceived 5 = .ok (.ifCond .eq 20, 3) := by decide +kernel
theorem dd_Ledger_noteReceived_8 : decode bm_Ledger_noteReceived 8 = .ok (.aload_n 0, 1) := by decide +kernel
theorem dd_Ledger_noteReceived_9 : decode bm_Ledger_noteReceived 9 = .ok (.getfield 12, 3) := by decide +kernel
theorem dd_Ledger_noteReceived_12 : decode bm_Ledger_noteReceived 12 = .ok (.iload_n 1, 1) := by decide +kernel
theorem dd_Ledger_noteReceived_13 : decode bm_Ledger_noteReceived 13 = .ok (.invokestatic 73, 3) := by decide +kernel
theorem dd_Ledger_noteReceived_16 : decode bm_Ledger_noteReceived 16 = .ok (.iload_n 2, 1) := by decide +kernel
theorem dd_Ledger_noteReceived_17 : decode bm_Ledger_noteReceived 17 = .ok (.iconst 1, 1) := by decide +kernel
theorem dd_Ledger_noteReceived_18 : decode bm_Ledger_noteReceived 18 = .ok (.iadd, 1) := by decide +kernel
theorem dd_Ledger_noteReceived_19 : decode bm_Ledger_noteReceived 19 = .ok (.invokevirtual 103, 3) := by decide +kernel
theorem dd_Ledger_noteReceived_22 : decode bm_Ledger_noteReceived 22 = .ok (.goto 16, 3) := by decide +kernel
theorem dd_Ledger_noteReceived_25 : decode bm_Ledger_noteReceived 25 = .ok (.aload_n 0, 1) := by decide +kernel
theorem dd_Ledger_noteReceived_26 : decode bm_Ledger_noteReceived 26 = .ok (.getfield 12, 3) := by decide +kernel
theorem dd_Ledger_noteReceived_29 : decode bm_Ledger_noteReceived 29 = .ok (.iload_n 1, 1) := by decide +kernel
theorem dd_Ledger_noteReceived_30 : decode bm_Ledger_noteReceived 30 = .ok (.iload_n 2, 1) := by decide +kernel
theorem dd_Ledger_noteReceived_31 : decode bm_Ledger_noteReceived 31 = .ok (.invokestatic 178, 3) := by decide +kernel
theorem dd_Ledger_noteReceived_34 : decode bm_Ledger_noteReceived 34 = .ok (.iconst 1, 1) := by decide +kernel
theorem dd_Ledger_noteReceived_35 : decode bm_Ledger_noteReceived 35 = .ok (.invokevirtual 103, 3) := by decide +kernel
theorem dd_Ledger_noteReceived_38 : decode bm_Ledger_noteReceived 38 = .ok (.aload_n 0, 1) := by decide +kernel
theorem dd_Ledger_noteReceived_39 : decode bm_Ledger_noteReceived 39 = .ok (.getfield 12, 3) := by decide +kernel
theorem dd_Ledger_noteReceived_42 : decode bm_Ledger_noteReceived 42 = .ok (.iload_n 1, 1) := by decide +kernel
theorem dd_Ledger_noteReceived_43 : decode bm_Ledger_noteReceived 43 = .ok (.iload_n 2, 1) := by decide +kernel
theorem dd_Ledger_noteReceived_44 : decode bm_Ledger_noteReceived 44 = .ok (.invokestatic 181, 3) := by decide +kernel
theorem dd_Ledger_noteReceived_47 : decode bm_Ledger_noteReceived 47 = .ok (.iload_n 3, 1) := by decide +kernel
theorem dd_Ledger_noteReceived_48 : decode bm_Ledger_noteReceived 48 = .ok (.invokevirtual 103, 3) := by decide +kernel
theorem dd_Ledger_noteReceived_51 : decode bm_Ledger_noteReceived 51 = .ok (.return_, 1) := by decide +kernel
theorem dd_Ledger_settleAnswered_0 : decode bm_Ledger_settleAnswered 0 = .ok (.aload_n 0, 1) := by decide +kernel
theorem dd_Ledger_settleAnswered_1 : decode bm_Ledger_settleAnswered 1 = .ok (.getfield 42, 3) := by decide +kernel
theorem dd_Ledger_settleAnswered_4 : decode bm_Ledger_settleAnswered 4 = .ok (.iload_n 2, 1) := by decide +kernel
theorem dd_Ledger_settleAnswered_5 : decode bm_Ledger_settleAnswered 5 = .ok (.aaload, 1) := by decide +kernel
theorem dd_Ledger_settleAnswered_6 : decode bm_Ledger_settleAnswered 6 = .ok (.astore 5, 2) := by decide +kernel
theorem dd_Ledger_settleAnswered_8 : decode bm_Ledger_settleAnswered 8 = .ok (.aload_n 0, 1) := by decide +kernel
theorem dd_Ledger_settleAnswered_9 : decode bm_Ledger_settleAnswered 9 = .ok (.iload_n 2, 1) := by decide +kernel
theorem dd_Ledger_settleAnswered_10 : decode bm_Ledger_settleAnswered 10 = .ok (.invokevirtual 96, 3) := by decide +kernel
theorem dd_Ledger_settleAnswered_13 : decode bm_Ledger_settleAnswered 13 = .ok (.iconst 3, 1) := by decide +kernel
theorem dd_Ledger_settleAnswered_14 : decode bm_Ledger_settleAnswered 14 = .ok (.if_icmp .eq 6, 3) := by decide +kernel
theorem dd_Ledger_settleAnswered_17 : decode bm_Ledger_settleAnswered 17 = .ok (.bipush (-2), 2) := by decide +kernel
theorem dd_Ledger_settleAnswered_19 : decode bm_Ledger_settleAnswered 19 = .ok (.ireturn, 1) := by decide +kernel
theorem dd_Ledger_settleAnswered_20 : decode bm_Ledger_settleAnswered 20 = .ok (.aload_n 0, 1) := by decide +kernel
theorem dd_Ledger_settleAnswered_21 : decode bm_Ledger_settleAnswered 21 = .ok (.iload_n 2, 1) := by decide +kernel
theorem dd_Ledger_settleAnswered_22 : decode bm_Ledger_settleAnswered 22 = .ok (.invokevirtual 172, 3) := by decide +kernel
theorem dd_Ledger_settleAnswered_25 : decode bm_Ledger_settleAnswered 25 = .ok (.ifCond .eq 12, 3) := by decide +kernel
theorem dd_Ledger_settleAnswered_28 : decode bm_Ledger_settleAnswered 28 = .ok (.iload_n 3, 1) := by decide +kernel
theorem dd_Ledger_settleAnswered_29 : decode bm_Ledger_settleAnswered 29 = .ok (.aload 5, 2) := by decide +kernel
theorem dd_Ledger_settleAnswered_31 : decode bm_Ledger_settleAnswered 31 = .ok (.getfield 184, 3) := by decide +kernel
theorem dd_Ledger_settleAnswered_34 : decode bm_Ledger_settleAnswered 34 = .ok (.if_icmp .ne 7, 3) := by decide +kernel
theorem dd_Ledger_settleAnswered_37 : decode bm_Ledger_settleAnswered 37 = .ok (.iconst 1, 1) := by decide +kernel
theorem dd_Ledger_settleAnswered_38 : decode bm_Ledger_settleAnswered 38 = .ok (.goto 4, 3) := by decide +kernel
theorem dd_Ledger_settleAnswered_41 : decode bm_Ledger_settleAnswered 41 = .ok (.iconst 0, 1) := by decide +kernel
theorem dd_Ledger_settleAnswered_42 : decode bm_Ledger_settleAnswered 42 = .ok (.istore 6, 2) := by decide +kernel
theorem dd_Ledger_settleAnswered_44 : decode bm_Ledger_settleAnswered 44 = .ok (.aload 5, 2) := by decide +kernel
theorem dd_Ledger_settleAnswered_46 : decode bm_Ledger_settleAnswered 46 = .ok (.getfield 121, 3) := by decide +kernel
theorem dd_Ledger_settleAnswered_49 : decode bm_Ledger_settleAnswered 49 = .ok (.iload_n 3, 1) := by decide +kernel
theorem dd_Ledger_settleAnswered_50 : decode bm_Ledger_settleAnswered 50 = .ok (.iconst 1, 1) := by decide +kernel
theorem dd_Ledger_settleAnswered_51 : decode bm_Ledger_settleAnswered 51 = .ok (.isub, 1) := by decide +kernel
theorem dd_Ledger_settleAnswered_52 : decode bm_Ledger_settleAnswered 52 = .ok (.aaload, 1) := by decide +kernel
theorem dd_Ledger_settleAnswered_53 : decode bm_Ledger_settleAnswered 53 = .ok (.getfield 187, 3) := by decide +kernel
theorem dd_Ledger_settleAnswered_56 : decode bm_Ledger_settleAnswered 56 = .ok (.ifCond .ne 8, 3) := by decide +kernel
theorem dd_Ledger_settleAnswered_59 : decode bm_Ledger_settleAnswered 59 = .ok (.iload 6, 2) := by decide +kernel
theorem dd_Ledger_settleAnswered_61 : decode bm_Ledger_settleAnswered 61 = .ok (.ifCond .ne 6, 3) := by decide +kernel
theorem dd_Ledger_settleAnswered_64 : decode bm_Ledger_settleAnswered 64 = .ok (.bipush (-8), 2) := by decide +kernel
theorem dd_Ledger_settleAnswered_66 : decode bm_Ledger_settleAnswered 66 = .ok (.ireturn, 1) := by decide +kernel
theorem dd_Ledger_settleAnswered_67 : decode bm_Ledger_settleAnswered 67 = .ok (.iload_n 2, 1) := by decide +kernel
theorem dd_Ledger_settleAnswered_68 : decode bm_Ledger_settleAnswered 68 = .ok (.iload_n 3, 1) := by decide +kernel
theorem dd_Ledger_settleAnswered_69 : decode bm_Ledger_settleAnswered 69 = .ok (.invokestatic 181, 3) := by decide +kernel
theorem dd_Ledger_settleAnswered_72 : decode bm_Ledger_settleAnswered 72 = .ok (.istore 7, 2) := by decide +kernel
theorem dd_Ledger_settleAnswered_74 : decode bm_Ledger_settleAnswered 74 = .ok (.aload_n 1, 1) := by decide +kernel
theorem dd_Ledger_settleAnswered_75 : decode bm_Ledger_settleAnswered 75 = .ok (.getfield 12, 3) := by decide +kernel
theorem dd_Ledger_settleAnswered_78 : decode bm_Ledger_settleAnswered 78 = .ok (.iload 7, 2) := by decide +kernel
theorem dd_Ledger_settleAnswered_80 : decode bm_Ledger_settleAnswered 80 = .ok (.invokevirtual 89, 3) := by decide +kernel
theorem dd_Ledger_settleAnswered_83 : decode bm_Ledger_settleAnswered 83 = .ok (.ifCond .ne 6, 3) := by decide +kernel
theorem dd_Ledger_settleAnswered_86 : decode bm_Ledger_settleAnswered 86 = .ok (.bipush (-5), 2) := by decide +kernel
theorem dd_Ledger_settleAnswered_88 : decode bm_Ledger_settleAnswered 88 = .ok (.ireturn, 1) := by decide +kernel
theorem dd_Ledger_settleAnswered_89 : decode bm_Ledger_settleAnswered 89 = .ok (.aload_n 1, 1) := by decide +kernel
theorem dd_Ledger_settleAnswered_90 : decode bm_Ledger_settleAnswered 90 = .ok (.getfield 12, 3) := by decide +kernel
theorem dd_Ledger_settleAnswered_93 : decode bm_Ledger_settleAnswered 93 = .ok (.iload 7, 2) := by decide +kernel
theorem dd_Ledger_settleAnswered_95 : decode bm_Ledger_settleAnswered 95 = .ok (.invokevirtual 67, 3) := by decide +kernel
theorem dd_Ledger_settleAnswered_98 : decode bm_Ledger_settleAnswered 98 = .ok (.istore 8, 2) := by decide +kernel
theorem dd_Ledger_settleAnswered_100 : decode bm_Ledger_settleAnswered 100 = .ok (.aload_n 0, 1) := by decide +kernel
theorem dd_Ledger_settleAnswered_101 : decode bm_Ledger_settleAnswered 101 = .ok (.aload_n 1, 1) := by decide +kernel
theorem dd_Ledger_settleAnswered_102 : decode bm_Ledger_settleAnswered 102 = .ok (.iload 4, 2) := by decide +kernel
theorem dd_Ledger_settleAnswered_104 : decode bm_Ledger_settleAnswered 104 = .ok (.iload 7, 2) := by decide +kernel
theorem dd_Ledger_settleAnswered_106 : decode bm_Ledger_settleAnswered 106 = .ok (.iload 8, 2) := by decide +kernel
theorem dd_Ledger_settleAnswered_108 : decode bm_Ledger_settleAnswered 108 = .ok (.invokevirtual 92, 3) := by decide +kernel
theorem dd_Ledger_settleAnswered_111 : decode bm_Ledger_settleAnswered 111 = .ok (.istore 9, 2) := by decide +kernel
theorem dd_Ledger_settleAnswered_113 : decode bm_Ledger_settleAnswered 113 = .ok (.iload 9, 2) := by decide +kernel
theorem dd_Ledger_settleAnswered_115 : decode bm_Ledger_settleAnswered 115 = .ok (.ifCond .eq 6, 3) := by decide +kernel
theorem dd_Ledger_settleAnswered_118 : decode bm_Ledger_settleAnswered 118 = .ok (.iload 9, 2) := by decide +kernel
theorem dd_Ledger_settleAnswered_120 : decode bm_Ledger_settleAnswered 120 = .ok (.ireturn, 1) := by decide +kernel
theorem dd_Ledger_settleAnswered_121 : decode bm_Ledger_settleAnswered 121 = .ok (.aload_n 0, 1) := by decide +kernel
theorem dd_Ledger_settleAnswered_122 : decode bm_Ledger_settleAnswered 122 = .ok (.iload_n 2, 1) := by decide +kernel
theorem dd_Ledger_settleAnswered_123 : decode bm_Ledger_settleAnswered 123 = .ok (.invokevirtual 172, 3) := by decide +kernel
theorem dd_Ledger_settleAnswered_126 : decode bm_Ledger_settleAnswered 126 = .ok (.ifCond .eq 11, 3) := by decide +kernel
theorem dd_Ledger_settleAnswered_129 : decode bm_Ledger_settleAnswered 129 = .ok (.aload 5, 2) := by decide +kernel
theorem dd_Ledger_settleAnswered_131 : decode bm_Ledger_settleAnswered 131 = .ok (.iload_n 3, 1) := by decide +kernel
theorem dd_Ledger_settleAnswered_132 : decode bm_Ledger_settleAnswered 132 = .ok (.iconst 1, 1) := by decide +kernel
theorem dd_Ledger_settleAnswered_133 : decode bm_Ledger_settleAnswered 133 = .ok (.iadd, 1) := by decide +kernel
theorem dd_Ledger_settleAnswered_134 : decode bm_Ledger_settleAnswered 134 = .ok (.putfield 184, 3) := by decide +kernel
theorem dd_Ledger_settleAnswered_137 : decode bm_Ledger_settleAnswered 137 = .ok (.aload_n 0, 1) := by decide +kernel
theorem dd_Ledger_settleAnswered_138 : decode bm_Ledger_settleAnswered 138 = .ok (.iload_n 2, 1) := by decide +kernel
theorem dd_Ledger_settleAnswered_139 : decode bm_Ledger_settleAnswered 139 = .ok (.iload_n 3, 1) := by decide +kernel
theorem dd_Ledger_settleAnswered_140 : decode bm_Ledger_settleAnswered 140 = .ok (.iload 8, 2) := by decide +kernel
theorem dd_Ledger_settleAnswered_142 : decode bm_Ledger_settleAnswered 142 = .ok (.invokevirtual 190, 3) := by decide +kernel
theorem dd_Ledger_settleAnswered_145 : decode bm_Ledger_settleAnswered 145 = .ok (.iload 8, 2) := by decide +kernel
theorem dd_Ledger_settleAnswered_147 : decode bm_Ledger_settleAnswered 147 = .ok (.ireturn, 1) := by decide +kernel
theorem dd_Ledger_settleTimedOut_0 : decode bm_Ledger_settleTimedOut 0 = .ok (.aload_n 0, 1) := by decide +kernel
theorem dd_Ledger_settleTimedOut_1 : decode bm_Ledger_settleTimedOut 1 = .ok (.getfield 42, 3) := by decide +kernel
theorem dd_Ledger_settleTimedOut_4 : decode bm_Ledger_settleTimedOut 4 = .ok (.iload_n 2, 1) := by decide +kernel
theorem dd_Ledger_settleTimedOut_5 : decode bm_Ledger_settleTimedOut 5 = .ok (.aaload, 1) := by decide +kernel
theorem dd_Ledger_settleTimedOut_6 : decode bm_Ledger_settleTimedOut 6 = .ok (.getfield 121, 3) := by decide +kernel
theorem dd_Ledger_settleTimedOut_9 : decode bm_Ledger_settleTimedOut 9 = .ok (.iload_n 3, 1) := by decide +kernel
theorem dd_Ledger_settleTimedOut_10 : decode bm_Ledger_settleTimedOut 10 = .ok (.iconst 1, 1) := by decide +kernel
theorem dd_Ledger_settleTimedOut_11 : decode bm_Ledger_settleTimedOut 11 = .ok (.isub, 1) := by decide +kernel
theorem dd_Ledger_settleTimedOut_12 : decode bm_Ledger_settleTimedOut 12 = .ok (.aaload, 1) := by decide +kernel
theorem dd_Ledger_settleTimedOut_13 : decode bm_Ledger_settleTimedOut 13 = .ok (.astore 6, 2) := by decide +kernel
theorem dd_Ledger_settleTimedOut_15 : decode bm_Ledger_settleTimedOut 15 = .ok (.aload 6, 2) := by decide +kernel
theorem dd_Ledger_settleTimedOut_17 : decode bm_Ledger_settleTimedOut 17 = .ok (.getfield 187, 3) := by decide +kernel
theorem dd_Ledger_settleTimedOut_20 : decode bm_Ledger_settleTimedOut 20 = .ok (.ifCond .eq 6, 3) := by decide +kernel
theorem dd_Ledger_settleTimedOut_23 : decode bm_Ledger_settleTimedOut 23 = .ok (.bipush (-8), 2) := by decide +kernel
theorem dd_Ledger_settleTimedOut_25 : decode bm_Ledger_settleTimedOut 25 = .ok (.ireturn, 1) := by decide +kernel
theorem dd_Ledger_settleTimedOut_26 : decode bm_Ledger_settleTimedOut 26 = .ok (.iload 5, 2) := by decide +kernel
theorem dd_Ledger_settleTimedOut_28 : decode bm_Ledger_settleTimedOut 28 = .ok (.ifCond .ne 16, 3) := by decide +kernel
theorem dd_Ledger_settleTimedOut_31 : decode bm_Ledger_settleTimedOut 31 = .ok (.iload 4, 2) := by decide +kernel
theorem dd_Ledger_settleTimedOut_33 : decode bm_Ledger_settleTimedOut 33 = .ok (.aload 6, 2) := by decide +kernel
theorem dd_Ledger_settleTimedOut_35 : decode bm_Ledger_settleTimedOut 35 = .ok (.getfield 142, 3) := by decide +kernel
theorem dd_Ledger_settleTimedOut_38 : decode bm_Ledger_settleTimedOut 38 = .ok (.if_icmp .ge 6, 3) := by decide +kernel
theorem dd_Ledger_settleTimedOut_41 : decode bm_Ledger_settleTimedOut 41 = .ok (.bipush (-9), 2) := by decide +kernel
theorem dd_Ledger_settleTimedOut_43 : decode bm_Ledger_settleTimedOut 43 = .ok (.ireturn, 1) := by decide +kernel
theorem dd_Ledger_settleTimedOut_44 : decode bm_Ledger_settleTimedOut 44 = .ok (.iload 5, 2) := by decide +kernel
theorem dd_Ledger_settleTimedOut_46 : decode bm_Ledger_settleTimedOut 46 = .ok (.ifCond .eq 20, 3) := by decide +kernel
theorem dd_Ledger_settleTimedOut_49 : decode bm_Ledger_settleTimedOut 49 = .ok (.aload_n 0, 1) := by decide +kernel
theorem dd_Ledger_settleTimedOut_50 : decode bm_Ledger_settleTimedOut 50 = .ok (.aload_n 1, 1) := by decide +kernel
theorem dd_Ledger_settleTimedOut_51 : decode bm_Ledger_settleTimedOut 51 = .ok (.iload 4, 2) := by decide +kernel
theorem dd_Ledger_settleTimedOut_53 : decode bm_Ledger_settleTimedOut 53 = .ok (.iload_n 2, 1) := by decide +kernel
theorem dd_Ledger_settleTimedOut_54 : decode bm_Ledger_settleTimedOut 54 = .ok (.iconst 4, 1) := by decide +kernel
theorem dd_Ledger_settleTimedOut_55 : decode bm_Ledger_settleTimedOut 55 = .ok (.aload_n 0, 1) := by decide +kernel
theorem dd_Ledger_settleTimedOut_56 : decode bm_Ledger_settleTimedOut 56 = .ok (.iload_n 2, 1) := by decide +kernel
theorem dd_Ledger_settleTimedOut_57 : decode bm_Ledger_settleTimedOut 57 = .ok (.invokevirtual 70, 3) := by decide +kernel
theorem dd_Ledger_settleTimedOut_60 : decode bm_Ledger_settleTimedOut 60 = .ok (.invokevirtual 107, 3) := by decide +kernel
theorem dd_Ledger_settleTimedOut_63 : decode bm_Ledger_settleTimedOut 63 = .ok (.goto 4, 3) := by decide +kernel
theorem dd_Ledger_settleTimedOut_66 : decode bm_Ledger_settleTimedOut 66 = .ok (.iconst 0, 1) := by decide +kernel
theorem dd_Ledger_settleTimedOut_67 : decode bm_Ledger_settleTimedOut 67 = .ok (.istore 7, 2) := by decide +kernel
theorem dd_Ledger_settleTimedOut_69 : decode bm_Ledger_settleTimedOut 69 = .ok (.iload 7, 2) := by decide +kernel
theorem dd_Ledger_settleTimedOut_71 : decode bm_Ledger_settleTimedOut 71 = .ok (.ifCond .ne 14, 3) := by decide +kernel
theorem dd_Ledger_settleTimedOut_74 : decode bm_Ledger_settleTimedOut 74 = .ok (.aload_n 0, 1) := by decide +kernel
theorem dd_Ledger_settleTimedOut_75 : decode bm_Ledger_settleTimedOut 75 = .ok (.aload_n 1, 1) := by decide +kernel
theorem dd_Ledger_settleTimedOut_76 : decode bm_Ledger_settleTimedOut 76 = .ok (.iload_n 2, 1) := by decide +kernel
theorem dd_Ledger_settleTimedOut_77 : decode bm_Ledger_settleTimedOut 77 = .ok (.iload_n 3, 1) := by decide +kernel
theorem dd_Ledger_settleTimedOut_78 : decode bm_Ledger_settleTimedOut 78 = .ok (.iload 4, 2) := by decide +kernel
theorem dd_Ledger_settleTimedOut_80 : decode bm_Ledger_settleTimedOut 80 = .ok (.invokevirtual 193, 3) := by decide +kernel
theorem dd_Ledger_settleTimedOut_83 : decode bm_Ledger_settleTimedOut 83 = .ok (.istore 7, 2) := by decide +kernel
theorem dd_Ledger_settleTimedOut_85 : decode bm_Ledger_settleTimedOut 85 = .ok (.iload 7, 2) := by decide +kernel
theorem dd_Ledger_settleTimedOut_87 : decode bm_Ledger_settleTimedOut 87 = .ok (.ifCond .eq 6, 3) := by decide +kernel
theorem dd_Ledger_settleTimedOut_90 : decode bm_Ledger_settleTimedOut 90 = .ok (.iload 7, 2) := by decide +kernel
theorem dd_Ledger_settleTimedOut_92 : decode bm_Ledger_settleTimedOut 92 = .ok (.ireturn, 1) := by decide +kernel
theorem dd_Ledger_settleTimedOut_93 : decode bm_Ledger_settleTimedOut 93 = .ok (.aload_n 0, 1) := by decide +kernel
theorem dd_Ledger_settleTimedOut_94 : decode bm_Ledger_settleTimedOut 94 = .ok (.iload_n 2, 1) := by decide +kernel
theorem dd_Ledger_settleTimedOut_95 : decode bm_Ledger_settleTimedOut 95 = .ok (.iload_n 3, 1) := by decide +kernel
theorem dd_Ledger_settleTimedOut_96 : decode bm_Ledger_settleTimedOut 96 = .ok (.iconst 3, 1) := by decide +kernel
theorem dd_Ledger_settleTimedOut_97 : decode bm_Ledger_settleTimedOut 97 = .ok (.invokevirtual 190, 3) := by decide +kernel
theorem dd_Ledger_settleTimedOut_100 : decode bm_Ledger_settleTimedOut 100 = .ok (.aload_n 0, 1) := by decide +kernel
theorem dd_Ledger_settleTimedOut_101 : decode bm_Ledger_settleTimedOut 101 = .ok (.iload_n 2, 1) := by decide +kernel
theorem dd_Ledger_settleTimedOut_102 : decode bm_Ledger_settleTimedOut 102 = .ok (.invokevirtual 172, 3) := by decide +kernel
theorem dd_Ledger_settleTimedOut_105 : decode bm_Ledger_settleTimedOut 105 = .ok (.ifCond .eq 9, 3) := by decide +kernel
theorem dd_Ledger_settleTimedOut_108 : decode bm_Ledger_settleTimedOut 108 = .ok (.aload_n 0, 1) := by decide +kernel
theorem dd_Ledger_settleTimedOut_109 : decode bm_Ledger_settleTimedOut 109 = .ok (.iload_n 2, 1) := by decide +kernel
theorem dd_Ledger_settleTimedOut_110 : decode bm_Ledger_settleTimedOut 110 = .ok (.iconst 4, 1) := by decide +kernel
theorem dd_Ledger_settleTimedOut_111 : decode bm_Ledger_settleTimedOut 111 = .ok (.invokevirtual 111, 3) := by decide +kernel
theorem dd_Ledger_settleTimedOut_114 : decode bm_Ledger_settleTimedOut 114 = .ok (.iconst 0, 1) := by decide +kernel
theorem dd_Ledger_settleTimedOut_115 : decode bm_Ledger_settleTimedOut 115 = .ok (.ireturn, 1) := by decide +kernel
