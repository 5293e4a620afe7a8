theorem dd_Ledger_proveNotReceived_0 : decode bm_Ledger_proveNotReceived 0 = .ok (.aload_n 0, 1) := by decide +kernel
theorem dd_Ledger_proveNotReceived_1 : decode bm_Ledger_proveNotReceived 1 = .ok (.iload_n 2, 1) := by decide +kernel
theorem dd_Ledger_proveNotReceived_2 : decode bm_Ledger_proveNotReceived 2 = .ok (.invokevirtual 172, 3) := by decide +kernel
theorem dd_Ledger_proveNotReceived_5 : decode bm_Ledger_proveNotReceived 5 = .ok (.ifCond .ne 16, 3) := by decide +kernel
theorem dd_Ledger_proveNotReceived_8 : decode bm_Ledger_proveNotReceived 8 = .ok (.aload_n 0, 1) := by decide +kernel
theorem dd_Ledger_proveNotReceived_9 : decode bm_Ledger_proveNotReceived 9 = .ok (.aload_n 1, 1) := by decide +kernel
theorem dd_Ledger_proveNotReceived_10 : decode bm_Ledger_proveNotReceived 10 = .ok (.iload 4, 2) := by decide +kernel
theorem dd_Ledger_proveNotReceived_12 : decode bm_Ledger_proveNotReceived 12 = .ok (.iload_n 2, 1) := by decide +kernel
theorem dd_Ledger_proveNotReceived_13 : decode bm_Ledger_proveNotReceived 13 = .ok (.iload_n 3, 1) := by decide +kernel
theorem dd_Ledger_proveNotReceived_14 : decode bm_Ledger_proveNotReceived 14 = .ok (.invokestatic 178, 3) := by decide +kernel
theorem dd_Ledger_proveNotReceived_17 : decode bm_Ledger_proveNotReceived 17 = .ok (.invokevirtual 196, 3) := by decide +kernel
theorem dd_Ledger_proveNotReceived_20 : decode bm_Ledger_proveNotReceived 20 = .ok (.ireturn, 1) := by decide +kernel
theorem dd_Ledger_proveNotReceived_21 : decode bm_Ledger_proveNotReceived 21 = .ok (.aload_n 1, 1) := by decide +kernel
theorem dd_Ledger_proveNotReceived_22 : decode bm_Ledger_proveNotReceived 22 = .ok (.iload_n 2, 1) := by decide +kernel
theorem dd_Ledger_proveNotReceived_23 : decode bm_Ledger_proveNotReceived 23 = .ok (.invokevirtual 175, 3) := by decide +kernel
theorem dd_Ledger_proveNotReceived_26 : decode bm_Ledger_proveNotReceived 26 = .ok (.istore 5, 2) := by decide +kernel
theorem dd_Ledger_proveNotReceived_28 : decode bm_Ledger_proveNotReceived 28 = .ok (.iload 5, 2) := by decide +kernel
theorem dd_Ledger_proveNotReceived_30 : decode bm_Ledger_proveNotReceived 30 = .ok (.iload_n 3, 1) := by decide +kernel
theorem dd_Ledger_proveNotReceived_31 : decode bm_Ledger_proveNotReceived 31 = .ok (.if_icmp .le 8, 3) := by decide +kernel
theorem dd_Ledger_proveNotReceived_34 : decode bm_Ledger_proveNotReceived 34 = .ok (.bipush (-5), 2) := by decide +kernel
theorem dd_Ledger_proveNotReceived_36 : decode bm_Ledger_proveNotReceived 36 = .ok (.goto 16, 3) := by decide +kernel
theorem dd_Ledger_proveNotReceived_39 : decode bm_Ledger_proveNotReceived 39 = .ok (.aload_n 0, 1) := by decide +kernel
theorem dd_Ledger_proveNotReceived_40 : decode bm_Ledger_proveNotReceived 40 = .ok (.aload_n 1, 1) := by decide +kernel
theorem dd_Ledger_proveNotReceived_41 : decode bm_Ledger_proveNotReceived 41 = .ok (.iload 4, 2) := by decide +kernel
theorem dd_Ledger_proveNotReceived_43 : decode bm_Ledger_proveNotReceived 43 = .ok (.iload_n 2, 1) := by decide +kernel
theorem dd_Ledger_proveNotReceived_44 : decode bm_Ledger_proveNotReceived 44 = .ok (.invokestatic 73, 3) := by decide +kernel
theorem dd_Ledger_proveNotReceived_47 : decode bm_Ledger_proveNotReceived 47 = .ok (.iload 5, 2) := by decide +kernel
theorem dd_Ledger_proveNotReceived_49 : decode bm_Ledger_proveNotReceived 49 = .ok (.invokevirtual 92, 3) := by decide +kernel
theorem dd_Ledger_proveNotReceived_52 : decode bm_Ledger_proveNotReceived 52 = .ok (.ireturn, 1) := by decide +kernel
theorem dd_Ledger_settle_0 : decode bm_Ledger_settle 0 = .ok (.aload_n 0, 1) := by decide +kernel
theorem dd_Ledger_settle_1 : decode bm_Ledger_settle 1 = .ok (.getfield 42, 3) := by decide +kernel
theorem dd_Ledger_settle_4 : decode bm_Ledger_settle 4 = .ok (.iload_n 1, 1) := by decide +kernel
theorem dd_Ledger_settle_5 : decode bm_Ledger_settle 5 = .ok (.aaload, 1) := by decide +kernel
theorem dd_Ledger_settle_6 : decode bm_Ledger_settle 6 = .ok (.getfield 121, 3) := by decide +kernel
theorem dd_Ledger_settle_9 : decode bm_Ledger_settle 9 = .ok (.iload_n 2, 1) := by decide +kernel
theorem dd_Ledger_settle_10 : decode bm_Ledger_settle 10 = .ok (.iconst 1, 1) := by decide +kernel
theorem dd_Ledger_settle_11 : decode bm_Ledger_settle 11 = .ok (.isub, 1) := by decide +kernel
theorem dd_Ledger_settle_12 : decode bm_Ledger_settle 12 = .ok (.aaload, 1) := by decide +kernel
theorem dd_Ledger_settle_13 : decode bm_Ledger_settle 13 = .ok (.astore 4, 2) := by decide +kernel
theorem dd_Ledger_settle_15 : decode bm_Ledger_settle 15 = .ok (.aload 4, 2) := by decide +kernel
theorem dd_Ledger_settle_17 : decode bm_Ledger_settle 17 = .ok (.iload_n 3, 1) := by decide +kernel
theorem dd_Ledger_settle_18 : decode bm_Ledger_settle 18 = .ok (.putfield 187, 3) := by decide +kernel
theorem dd_Ledger_settle_21 : decode bm_Ledger_settle 21 = .ok (.aload_n 0, 1) := by decide +kernel
theorem dd_Ledger_settle_22 : decode bm_Ledger_settle 22 = .ok (.getfield 12, 3) := by decide +kernel
theorem dd_Ledger_settle_25 : decode bm_Ledger_settle 25 = .ok (.iload_n 1, 1) := by decide +kernel
theorem dd_Ledger_settle_26 : decode bm_Ledger_settle 26 = .ok (.iload_n 2, 1) := by decide +kernel
theorem dd_Ledger_settle_27 : decode bm_Ledger_settle 27 = .ok (.invokestatic 155, 3) := by decide +kernel
theorem dd_Ledger_settle_30 : decode bm_Ledger_settle 30 = .ok (.invokevirtual 200, 3) := by decide +kernel
theorem dd_Ledger_settle_33 : decode bm_Ledger_settle 33 = .ok (.iload_n 3, 1) := by decide +kernel
theorem dd_Ledger_settle_34 : decode bm_Ledger_settle 34 = .ok (.iconst 1, 1) := by decide +kernel
theorem dd_Ledger_settle_35 : decode bm_Ledger_settle 35 = .ok (.if_icmp .eq 13, 3) := by decide +kernel
theorem dd_Ledger_settle_38 : decode bm_Ledger_settle 38 = .ok (.aload_n 0, 1) := by decide +kernel
theorem dd_Ledger_settle_39 : decode bm_Ledger_settle 39 = .ok (.getfield 36, 3) := by decide +kernel
theorem dd_Ledger_settle_42 : decode bm_Ledger_settle 42 = .ok (.aload 4, 2) := by decide +kernel
theorem dd_Ledger_settle_44 : decode bm_Ledger_settle 44 = .ok (.iload_n 1, 1) := by decide +kernel
theorem dd_Ledger_settle_45 : decode bm_Ledger_settle 45 = .ok (.invokevirtual 204, 3) := by decide +kernel
theorem dd_Ledger_settle_48 : decode bm_Ledger_settle 48 = .ok (.return_, 1) := by decide +kernel
theorem dd_Store_ctor_0 : decode bm_Store_ctor 0 = .ok (.aload_n 0, 1) := by decide +kernel
theorem dd_Store_ctor_1 : decode bm_Store_ctor 1 = .ok (.invokespecial 5, 3) := by decide +kernel
theorem dd_Store_ctor_4 : decode bm_Store_ctor 4 = .ok (.aload_n 0, 1) := by decide +kernel
theorem dd_Store_ctor_5 : decode bm_Store_ctor 5 = .ok (.bipush 114, 2) := by decide +kernel
theorem dd_Store_ctor_7 : decode bm_Store_ctor 7 = .ok (.newarray .int, 2) := by decide +kernel
theorem dd_Store_ctor_9 : decode bm_Store_ctor 9 = .ok (.putfield 11, 3) := by decide +kernel
theorem dd_Store_ctor_12 : decode bm_Store_ctor 12 = .ok (.aload_n 0, 1) := by decide +kernel
theorem dd_Store_ctor_13 : decode bm_Store_ctor 13 = .ok (.bipush 114, 2) := by decide +kernel
theorem dd_Store_ctor_15 : decode bm_Store_ctor 15 = .ok (.newarray .boolean, 2) := by decide +kernel
theorem dd_Store_ctor_17 : decode bm_Store_ctor 17 = .ok (.putfield 15, 3) := by decide +kernel
theorem dd_Store_ctor_20 : decode bm_Store_ctor 20 = .ok (.return_, 1) := by decide +kernel
theorem dd_Store_endSlot_0 : decode bm_Store_endSlot 0 = .ok (.iload_n 0, 1) := by decide +kernel
theorem dd_Store_endSlot_1 : decode bm_Store_endSlot 1 = .ok (.ireturn, 1) := by decide +kernel
theorem dd_Store_nextSlot_0 : decode bm_Store_nextSlot 0 = .ok (.iconst 3, 1) := by decide +kernel
theorem dd_Store_nextSlot_1 : decode bm_Store_nextSlot 1 = .ok (.iload_n 0, 1) := by decide +kernel
theorem dd_Store_nextSlot_2 : decode bm_Store_nextSlot 2 = .ok (.iadd, 1) := by decide +kernel
theorem dd_Store_nextSlot_3 : decode bm_Store_nextSlot 3 = .ok (.ireturn, 1) := by decide +kernel
theorem dd_Store_printSlot_0 : decode bm_Store_printSlot 0 = .ok (.bipush 6, 2) := by decide +kernel
theorem dd_Store_printSlot_2 : decode bm_Store_printSlot 2 = .ok (.bipush 12, 2) := by decide +kernel
theorem dd_Store_printSlot_4 : decode bm_Store_printSlot 4 = .ok (.iload_n 0, 1) := by decide +kernel
theorem dd_Store_printSlot_5 : decode bm_Store_printSlot 5 = .ok (.imul, 1) := by decide +kernel
theorem dd_Store_printSlot_6 : decode bm_Store_printSlot 6 = .ok (.iadd, 1) := by decide +kernel
theorem dd_Store_printSlot_7 : decode bm_Store_printSlot 7 = .ok (.iload_n 1, 1) := by decide +kernel
theorem dd_Store_printSlot_8 : decode bm_Store_printSlot 8 = .ok (.iadd, 1) := by decide +kernel
theorem dd_Store_printSlot_9 : decode bm_Store_printSlot 9 = .ok (.iconst 1, 1) := by decide +kernel
theorem dd_Store_printSlot_10 : decode bm_Store_printSlot 10 = .ok (.isub, 1) := by decide +kernel
theorem dd_Store_printSlot_11 : decode bm_Store_printSlot 11 = .ok (.ireturn, 1) := by decide +kernel
theorem dd_Store_receiptSlot_0 : decode bm_Store_receiptSlot 0 = .ok (.bipush 42, 2) := by decide +kernel
theorem dd_Store_receiptSlot_2 : decode bm_Store_receiptSlot 2 = .ok (.bipush 12, 2) := by decide +kernel
theorem dd_Store_receiptSlot_4 : decode bm_Store_receiptSlot 4 = .ok (.iload_n 0, 1) := by decide +kernel
theorem dd_Store_receiptSlot_5 : decode bm_Store_receiptSlot 5 = .ok (.imul, 1) := by decide +kernel
theorem dd_Store_receiptSlot_6 : decode bm_Store_receiptSlot 6 = .ok (.iadd, 1) := by decide +kernel
theorem dd_Store_receiptSlot_7 : decode bm_Store_receiptSlot 7 = .ok (.iload_n 1, 1) := by decide +kernel
theorem dd_Store_receiptSlot_8 : decode bm_Store_receiptSlot 8 = .ok (.iadd, 1) := by decide +kernel
theorem dd_Store_receiptSlot_9 : decode bm_Store_receiptSlot 9 = .ok (.iconst 1, 1) := by decide +kernel
theorem dd_Store_receiptSlot_10 : decode bm_Store_receiptSlot 10 = .ok (.isub, 1) := by decide +kernel
theorem dd_Store_receiptSlot_11 : decode bm_Store_receiptSlot 11 = .ok (.ireturn, 1) := by decide +kernel
theorem dd_Store_answerSlot_0 : decode bm_Store_answerSlot 0 = .ok (.bipush 78, 2) := by decide +kernel
theorem dd_Store_answerSlot_2 : decode bm_Store_answerSlot 2 = .ok (.bipush 12, 2) := by decide +kernel
theorem dd_Store_answerSlot_4 : decode bm_Store_answerSlot 4 = .ok (.iload_n 0, 1) := by decide +kernel
theorem dd_Store_answerSlot_5 : decode bm_Store_answerSlot 5 = .ok (.imul, 1) := by decide +kernel
theorem dd_Store_answerSlot_6 : decode bm_Store_answerSlot 6 = .ok (.iadd, 1) := by decide +kernel
theorem dd_Store_answerSlot_7 : decode bm_Store_answerSlot 7 = .ok (.iload_n 1, 1) := by decide +kernel
theorem dd_Store_answerSlot_8 : decode bm_Store_answerSlot 8 = .ok (.iadd, 1) := by decide +kernel
theorem dd_Store_answerSlot_9 : decode bm_Store_answerSlot 9 = .ok (.iconst 1, 1) := by decide +kernel
theorem dd_Store_answerSlot_10 : decode bm_Store_answerSlot 10 = .ok (.isub, 1) := by decide +kernel
theorem dd_Store_answerSlot_11 : decode bm_Store_answerSlot 11 = .ok (.ireturn, 1) := by decide +kernel
theorem dd_Store_keyOf_0 : decode bm_Store_keyOf 0 = .ok (.iload_n 0, 1) := by decide +kernel
theorem dd_Store_keyOf_1 : decode bm_Store_keyOf 1 = .ok (.iconst 3, 1) := by decide +kernel
theorem dd_Store_keyOf_2 : decode bm_Store_keyOf 2 = .ok (.if_icmp .ge 9, 3) := by decide +kernel
theorem dd_Store_keyOf_5 : decode bm_Store_keyOf 5 = .ok (.sipush 4096, 3) := by decide +kernel
theorem dd_Store_keyOf_8 : decode bm_Store_keyOf 8 = .ok (.iload_n 0, 1) := by decide +kernel
theorem dd_Store_keyOf_9 : decode bm_Store_keyOf 9 = .ok (.iadd, 1) := by decide +kernel
theorem dd_Store_keyOf_10 : decode bm_Store_keyOf 10 = .ok (.ireturn, 1) := by decide +kernel
theorem dd_Store_keyOf_11 : decode bm_Store_keyOf 11 = .ok (.iload_n 0, 1) := by decide +kernel
theorem dd_Store_keyOf_12 : decode bm_Store_keyOf 12 = .ok (.bipush 6, 2) := by decide +kernel
theorem dd_Store_keyOf_14 : decode bm_Store_keyOf 14 = .ok (.if_icmp .ge 11, 3) := by decide +kernel
theorem dd_Store_keyOf_17 : decode bm_Store_keyOf 17 = .ok (.sipush 8192, 3) := by decide +kernel
theorem dd_Store_keyOf_20 : decode bm_Store_keyOf 20 = .ok (.iload_n 0, 1) := by decide +kernel
theorem dd_Store_keyOf_21 : decode bm_Store_keyOf 21 = .ok (.iadd, 1) := by decide +kernel
theorem dd_Store_keyOf_22 : decode bm_Store_keyOf 22 = .ok (.iconst 3, 1) := by decide +kernel
theorem dd_Store_keyOf_23 : decode bm_Store_keyOf 23 = .ok (.isub, 1) := by decide +kernel
theorem dd_Store_keyOf_24 : decode bm_Store_keyOf 24 = .ok (.ireturn, 1) := by decide +kernel
theorem dd_Store_keyOf_25 : decode bm_Store_keyOf 25 = .ok (.iload_n 0, 1) := by decide +kernel
theorem dd_Store_keyOf_26 : decode bm_Store_keyOf 26 = .ok (.bipush 6, 2) := by decide +kernel
theorem dd_Store_keyOf_28 : decode bm_Store_keyOf 28 = .ok (.isub, 1) := by decide +kernel
theorem dd_Store_keyOf_29 : decode bm_Store_keyOf 29 = .ok (.bipush 36, 2) := by decide +kernel
theorem dd_Store_keyOf_31 : decode bm_Store_keyOf 31 = .ok (.idiv, 1) := by decide +kernel
theorem dd_Store_keyOf_32 : decode bm_Store_keyOf 32 = .ok (.istore_n 1, 1) := by decide +kernel
theorem dd_Store_keyOf_33 : decode bm_Store_keyOf 33 = .ok (.iload_n 0, 1) := by decide +kernel
theorem dd_Store_keyOf_34 : decode bm_Store_keyOf 34 = .ok (.bipush 6, 2) := by decide +kernel
theorem dd_Store_keyOf_36 : decode bm_Store_keyOf 36 = .ok (.isub, 1) := by decide +kernel
theorem dd_Store_keyOf_37 : decode bm_Store_keyOf 37 = .ok (.bipush 36, 2) := by decide +kernel
theorem dd_Store_keyOf_39 : decode bm_Store_keyOf 39 = .ok (.irem, 1) := by decide +kernel
theorem dd_Store_keyOf_40 : decode bm_Store_keyOf 40 = .ok (.istore_n 2, 1) := by decide +kernel
theorem dd_Store_keyOf_41 : decode bm_Store_keyOf 41 = .ok (.iload_n 2, 1) := by decide +kernel
theorem dd_Store_keyOf_42 : decode bm_Store_keyOf 42 = .ok (.bipush 12, 2) := by decide +kernel
theorem dd_Store_keyOf_44 : decode bm_Store_keyOf 44 = .ok (.idiv, 1) := by decide +kernel
theorem dd_Store_keyOf_45 : decode bm_Store_keyOf 45 = .ok (.istore_n 3, 1) := by decide +kernel
theorem dd_Store_keyOf_46 : decode bm_Store_keyOf 46 = .ok (.iload_n 2, 1) := by decide +kernel
theorem dd_Store_keyOf_47 : decode bm_Store_keyOf 47 = .ok (.bipush 12, 2) := by decide +kernel
theorem dd_Store_keyOf_49 : decode bm_Store_keyOf 49 = .ok (.irem, 1) := by decide +kernel
theorem dd_Store_keyOf_50 : decode bm_Store_keyOf 50 = .ok (.iconst 1, 1) := by decide +kernel
theorem dd_Store_keyOf_51 : decode bm_Store_keyOf 51 = .ok (.iadd, 1) := by decide +kernel
theorem dd_Store_keyOf_52 : decode bm_Store_keyOf 52 = .ok (.istore 4, 2) := by decide +kernel
theorem dd_Store_keyOf_54 : decode bm_Store_keyOf 54 = .ok (.sipush 12288, 3) := by decide +kernel
theorem dd_Store_keyOf_57 : decode bm_Store_keyOf 57 = .ok (.sipush 4096, 3) := by decide +kernel
theorem dd_Store_keyOf_60 : decode bm_Store_keyOf 60 = .ok (.iload_n 1, 1) := by decide +kernel
theorem dd_Store_keyOf_61 : decode bm_Store_keyOf 61 = .ok (.imul, 1) := by decide +kernel
theorem dd_Store_keyOf_62 : decode bm_Store_keyOf 62 = .ok (.iadd, 1) := by decide +kernel
theorem dd_Store_keyOf_63 : decode bm_Store_keyOf 63 = .ok (.bipush 64, 2) := by decide +kernel
theorem dd_Store_keyOf_65 : decode bm_Store_keyOf 65 = .ok (.iload_n 3, 1) := by decide +kernel
theorem dd_Store_keyOf_66 : decode bm_Store_keyOf 66 = .ok (.imul, 1) := by decide +kernel
theorem dd_Store_keyOf_67 : decode bm_Store_keyOf 67 = .ok (.iadd, 1) := by decide +kernel
theorem dd_Store_keyOf_68 : decode bm_Store_keyOf 68 = .ok (.iload 4, 2) := by decide +kernel
theorem dd_Store_keyOf_70 : decode bm_Store_keyOf 70 = .ok (.iadd, 1) := by decide +kernel
theorem dd_Store_keyOf_71 : decode bm_Store_keyOf 71 = .ok (.ireturn, 1) := by decide +kernel
theorem dd_Store_put_0 : decode bm_Store_put 0 = .ok (.aload_n 0, 1) := by decide +kernel
theorem dd_Store_put_1 : decode bm_Store_put 1 = .ok (.getfield 11, 3) := by decide +kernel
theorem dd_Store_put_4 : decode bm_Store_put 4 = .ok (.iload_n 1, 1) := by decide +kernel
theorem dd_Store_put_5 : decode bm_Store_put 5 = .ok (.iload_n 2, 1) := by decide +kernel
theorem dd_Store_put_6 : decode bm_Store_put 6 = .ok (.iastore, 1) := by decide +kernel
theorem dd_Store_put_7 : decode bm_Store_put 7 = .ok (.aload_n 0, 1) := by decide +kernel
theorem dd_Store_put_8 : decode bm_Store_put 8 = .ok (.getfield 15, 3) := by decide +kernel
theorem dd_Store_put_11 : decode bm_Store_put 11 = .ok (.iload_n 1, 1) := by decide +kernel
theorem dd_Store_put_12 : decode bm_Store_put 12 = .ok (.iconst 1, 1) := by decide +kernel
theorem dd_Store_put_13 : decode bm_Store_put 13 = .ok (.bastore, 1) := by decide +kernel
theorem dd_Store_put_14 : decode bm_Store_put 14 = .ok (.return_, 1) := by decide +kernel
theorem dd_Store_drop_0 : decode bm_Store_drop 0 = .ok (.aload_n 0, 1) := by decide +kernel
theorem dd_Store_drop_1 : decode bm_Store_drop 1 = .ok (.getfield 11, 3) := by decide +kernel
theorem dd_Store_drop_4 : decode bm_Store_drop 4 = .ok (.iload_n 1, 1) := by decide +kernel
theorem dd_Store_drop_5 : decode bm_Store_drop 5 = .ok (.iconst 0, 1) := by decide +kernel
theorem dd_Store_drop_6 : decode bm_Store_drop 6 = .ok (.iastore, 1) := by decide +kernel
theorem dd_Store_drop_7 : decode bm_Store_drop 7 = .ok (.aload_n 0, 1) := by decide +kernel
theorem dd_Store_drop_8 : decode bm_Store_drop 8 = .ok (.getfield 15, 3) := by decide +kernel
theorem dd_Store_drop_11 : decode bm_Store_drop 11 = .ok (.iload_n 1, 1) := by decide +kernel
theorem dd_Store_drop_12 : decode bm_Store_drop 12 = .ok (.iconst 0, 1) := by decide +kernel
theorem dd_Store_drop_13 : decode bm_Store_drop 13 = .ok (.bastore, 1) := by decide +kernel
theorem dd_Store_drop_14 : decode bm_Store_drop 14 = .ok (.return_, 1) := by decide +kernel
theorem dd_Store_has_0 : decode bm_Store_has 0 = .ok (.aload_n 0, 1) := by decide +kernel
theorem dd_Store_has_1 : decode bm_Store_has 1 = .ok (.getfield 15, 3) := by decide +kernel
theorem dd_Store_has_4 : decode bm_Store_has 4 = .ok (.iload_n 1, 1) := by decide +kernel
theorem dd_Store_has_5 : decode bm_Store_has 5 = .ok (.baload, 1) := by decide +kernel
theorem dd_Store_has_6 : decode bm_Store_has 6 = .ok (.ireturn, 1) := by decide +kernel
theorem dd_Store_valueIn_0 : decode bm_Store_valueIn 0 = .ok (.aload_n 0, 1) := by decide +kernel
theorem dd_Store_valueIn_1 : decode bm_Store_valueIn 1 = .ok (.getfield 11, 3) := by decide +kernel
theorem dd_Store_valueIn_4 : decode bm_Store_valueIn 4 = .ok (.iload_n 1, 1) := by decide +kernel
theorem dd_Store_valueIn_5 : decode bm_Store_valueIn 5 = .ok (.iaload, 1) := by decide +kernel
theorem dd_Store_valueIn_6 : decode bm_Store_valueIn 6 = .ok (.ireturn, 1) := by decide +kernel
theorem dd_Store_copyFrom_0 : decode bm_Store_copyFrom 0 = .ok (.iconst 0, 1) := by decide +kernel
theorem dd_Store_copyFrom_1 : decode bm_Store_copyFrom 1 = .ok (.istore_n 2, 1) := by decide +kernel
theorem dd_Store_copyFrom_2 : decode bm_Store_copyFrom 2 = .ok (.iload_n 2, 1) := by decide +kernel
theorem dd_Store_copyFrom_3 : decode bm_Store_copyFrom 3 = .ok (.bipush 114, 2) := by decide +kernel
theorem dd_Store_copyFrom_5 : decode bm_Store_copyFrom 5 = .ok (.if_icmp .ge 33, 3) := by decide +kernel
theorem dd_Store_copyFrom_8 : decode bm_Store_copyFrom 8 = .ok (.aload_n 0, 1) := by decide +kernel
theorem dd_Store_copyFrom_9 : decode bm_Store_copyFrom 9 = .ok (.getfield 11, 3) := by decide +kernel
theorem dd_Store_copyFrom_12 : decode bm_Store_copyFrom 12 = .ok (.iload_n 2, 1) := by decide +kernel
theorem dd_Store_copyFrom_13 : decode bm_Store_copyFrom 13 = .ok (.aload_n 1, 1) := by decide +kernel
theorem dd_Store_copyFrom_14 : decode bm_Store_copyFrom 14 = .ok (.getfield 11, 3) := by decide +kernel
theorem dd_Store_copyFrom_17 : decode bm_Store_copyFrom 17 = .ok (.iload_n 2, 1) := by decide +kernel
theorem dd_Store_copyFrom_18 : decode bm_Store_copyFrom 18 = .ok (.iaload, 1) := by decide +kernel
theorem dd_Store_copyFrom_19 : decode bm_Store_copyFrom 19 = .ok (.iastore, 1) := by decide +kernel
theorem dd_Store_copyFrom_20 : decode bm_Store_copyFrom 20 = .ok (.aload_n 0, 1) := by decide +kernel
theorem dd_Store_copyFrom_21 : decode bm_Store_copyFrom 21 = .ok (.getfield 15, 3) := by decide +kernel
theorem dd_Store_copyFrom_24 : decode bm_Store_copyFrom 24 = .ok (.iload_n 2, 1) := by decide +kernel
theorem dd_Store_copyFrom_25 : decode bm_Store_copyFrom 25 = .ok (.aload_n 1, 1) := by decide +kernel
theorem dd_Store_copyFrom_26 : decode bm_Store_copyFrom 26 = .ok (.getfield 15, 3) := by decide +kernel
theorem dd_Store_copyFrom_29 : decode bm_Store_copyFrom 29 = .ok (.iload_n 2, 1) := by decide +kernel
theorem dd_Store_copyFrom_30 : decode bm_Store_copyFrom 30 = .ok (.baload, 1) := by decide +kernel
theorem dd_Store_copyFrom_31 : decode bm_Store_copyFrom 31 = .ok (.bastore, 1) := by decide +kernel
theorem dd_Store_copyFrom_32 : decode bm_Store_copyFrom 32 = .ok (.iinc 2 1, 3) := by decide +kernel
theorem dd_Store_copyFrom_35 : decode bm_Store_copyFrom 35 = .ok (.goto (-33), 3) := by decide +kernel
theorem dd_Store_copyFrom_38 : decode bm_Store_copyFrom 38 = .ok (.return_, 1) := by decide +kernel
theorem dd_Store_rootBy_0 : decode bm_Store_rootBy 0 = .ok (.iconst 0, 1) := by decide +kernel
theorem dd_Store_rootBy_1 : decode bm_Store_rootBy 1 = .ok (.istore_n 2, 1) := by decide +kernel
theorem dd_Store_rootBy_2 : decode bm_Store_rootBy 2 = .ok (.iconst 0, 1) := by decide +kernel
theorem dd_Store_rootBy_3 : decode bm_Store_rootBy 3 = .ok (.istore_n 3, 1) := by decide +kernel
theorem dd_Store_rootBy_4 : decode bm_Store_rootBy 4 = .ok (.iload_n 3, 1) := by decide +kernel
theorem dd_Store_rootBy_5 : decode bm_Store_rootBy 5 = .ok (.bipush 114, 2) := by decide +kernel
theorem dd_Store_rootBy_7 : decode bm_Store_rootBy 7 = .ok (.if_icmp .ge 41, 3) := by decide +kernel
theorem dd_Store_rootBy_10 : decode bm_Store_rootBy 10 = .ok (.aload_n 0, 1) := by decide +kernel
theorem dd_Store_rootBy_11 : decode bm_Store_rootBy 11 = .ok (.getfield 15, 3) := by decide +kernel
theorem dd_Store_rootBy_14 : decode bm_Store_rootBy 14 = .ok (.iload_n 3, 1) := by decide +kernel
theorem dd_Store_rootBy_15 : decode bm_Store_rootBy 15 = .ok (.baload, 1) := by decide +kernel
theorem dd_Store_rootBy_16 : decode bm_Store_rootBy 16 = .ok (.ifCond .eq 26, 3) := by decide +kernel
theorem dd_Store_rootBy_19 : decode bm_Store_rootBy 19 = .ok (.aload_n 1, 1) := by decide +kernel
theorem dd_Store_rootBy_20 : decode bm_Store_rootBy 20 = .ok (.iload_n 2, 1) := by decide +kernel
theorem dd_Store_rootBy_21 : decode bm_Store_rootBy 21 = .ok (.iconst 1, 1) := by decide +kernel
theorem dd_Store_rootBy_22 : decode bm_Store_rootBy 22 = .ok (.iload_n 3, 1) := by decide +kernel
theorem dd_Store_rootBy_23 : decode bm_Store_rootBy 23 = .ok (.invokestatic 19, 3) := by decide +kernel
theorem dd_Store_rootBy_26 : decode bm_Store_rootBy 26 = .ok (.invokestatic 23, 3) := by decide +kernel
theorem dd_Store_rootBy_29 : decode bm_Store_rootBy 29 = .ok (.aload_n 0, 1) := by decide +kernel
theorem dd_Store_rootBy_30 : decode bm_Store_rootBy 30 = .ok (.getfield 11, 3) := by decide +kernel
theorem dd_Store_rootBy_33 : decode bm_Store_rootBy 33 = .ok (.iload_n 3, 1) := by decide +kernel
theorem dd_Store_rootBy_34 : decode bm_Store_rootBy 34 = .ok (.iaload, 1) := by decide +kernel
theorem dd_Store_rootBy_35 : decode bm_Store_rootBy 35 = .ok (.invokestatic 23, 3) := by decide +kernel
theorem dd_Store_rootBy_38 : decode bm_Store_rootBy 38 = .ok (.iastore, 1) := by decide +kernel
theorem dd_Store_rootBy_39 : decode bm_Store_rootBy 39 = .ok (.iinc 2 1, 3) := by decide +kernel
theorem dd_Store_rootBy_42 : decode bm_Store_rootBy 42 = .ok (.iinc 3 1, 3) := by decide +kernel
theorem dd_Store_rootBy_45 : decode bm_Store_rootBy 45 = .ok (.goto (-41), 3) := by decide +kernel
theorem dd_Store_rootBy_48 : decode bm_Store_rootBy 48 = .ok (.iload_n 2, 1) := by decide +kernel
theorem dd_Store_rootBy_49 : decode bm_Store_rootBy 49 = .ok (.ifCond .ne 5, 3) := by decide +kernel
theorem dd_Store_rootBy_52 : decode bm_Store_rootBy 52 = .ok (.iconst 0, 1) := by decide +kernel
theorem dd_Store_rootBy_53 : decode bm_Store_rootBy 53 = .ok (.ireturn, 1) := by decide +kernel
theorem dd_Store_rootBy_54 : decode bm_Store_rootBy 54 = .ok (.iconst 1, 1) := by decide +kernel
theorem dd_Store_rootBy_55 : decode bm_Store_rootBy 55 = .ok (.istore_n 3, 1) := by decide +kernel
theorem dd_Store_rootBy_56 : decode bm_Store_rootBy 56 = .ok (.iload_n 3, 1) := by decide +kernel
theorem dd_Store_rootBy_57 : decode bm_Store_rootBy 57 = .ok (.iload_n 2, 1) := by decide +kernel
theorem dd_Store_rootBy_58 : decode bm_Store_rootBy 58 = .ok (.if_icmp .ge 53, 3) := by decide +kernel
theorem dd_Store_rootBy_61 : decode bm_Store_rootBy 61 = .ok (.iconst 0, 1) := by decide +kernel
theorem dd_Store_rootBy_62 : decode bm_Store_rootBy 62 = .ok (.istore 4, 2) := by decide +kernel
theorem dd_Store_rootBy_64 : decode bm_Store_rootBy 64 = .ok (.iload 4, 2) := by decide +kernel
theorem dd_Store_rootBy_66 : decode bm_Store_rootBy 66 = .ok (.iload_n 3, 1) := by decide +kernel
theorem dd_Store_rootBy_67 : decode bm_Store_rootBy 67 = .ok (.iadd, 1) := by decide +kernel
theorem dd_Store_rootBy_68 : decode bm_Store_rootBy 68 = .ok (.iload_n 2, 1) := by decide +kernel
theorem dd_Store_rootBy_69 : decode bm_Store_rootBy 69 = .ok (.if_icmp .ge 35, 3) := by decide +kernel
theorem dd_Store_rootBy_72 : decode bm_Store_rootBy 72 = .ok (.aload_n 1, 1) := by decide +kernel
theorem dd_Store_rootBy_73 : decode bm_Store_rootBy 73 = .ok (.iload 4, 2) := by decide +kernel
theorem dd_Store_rootBy_75 : decode bm_Store_rootBy 75 = .ok (.iconst 2, 1) := by decide +kernel
theorem dd_Store_rootBy_76 : decode bm_Store_rootBy 76 = .ok (.aload_n 1, 1) := by decide +kernel
theorem dd_Store_rootBy_77 : decode bm_Store_rootBy 77 = .ok (.iload 4, 2) := by decide +kernel
theorem dd_Store_rootBy_79 : decode bm_Store_rootBy 79 = .ok (.iaload, 1) := by decide +kernel
theorem dd_Store_rootBy_80 : decode bm_Store_rootBy 80 = .ok (.invokestatic 23, 3) := by decide +kernel
theorem dd_Store_rootBy_83 : decode bm_Store_rootBy 83 = .ok (.aload_n 1, 1) := by decide +kernel
theorem dd_Store_rootBy_84 : decode bm_Store_rootBy 84 = .ok (.iload 4, 2) := by decide +kernel
theorem dd_Store_rootBy_86 : decode bm_Store_rootBy 86 = .ok (.iload_n 3, 1) := by decide +kernel
theorem dd_Store_rootBy_87 : decode bm_Store_rootBy 87 = .ok (.iadd, 1) := by decide +kernel
theorem dd_Store_rootBy_88 : decode bm_Store_rootBy 88 = .ok (.iaload, 1) := by decide +kernel
theorem dd_Store_rootBy_89 : decode bm_Store_rootBy 89 = .ok (.invokestatic 23, 3) := by decide +kernel
theorem dd_Store_rootBy_92 : decode bm_Store_rootBy 92 = .ok (.iastore, 1) := by decide +kernel
theorem dd_Store_rootBy_93 : decode bm_Store_rootBy 93 = .ok (.iload 4, 2) := by decide +kernel
theorem dd_Store_rootBy_95 : decode bm_Store_rootBy 95 = .ok (.iconst 2, 1) := by decide +kernel
theorem dd_Store_rootBy_96 : decode bm_Store_rootBy 96 = .ok (.iload_n 3, 1) := by decide +kernel
theorem dd_Store_rootBy_97 : decode bm_Store_rootBy 97 = .ok (.imul, 1) := by decide +kernel
theorem dd_Store_rootBy_98 : decode bm_Store_rootBy 98 = .ok (.iadd, 1) := by decide +kernel
theorem dd_Store_rootBy_99 : decode bm_Store_rootBy 99 = .ok (.istore 4, 2) := by decide +kernel
theorem dd_Store_rootBy_101 : decode bm_Store_rootBy 101 = .ok (.goto (-37), 3) := by decide +kernel
theorem dd_Store_rootBy_104 : decode bm_Store_rootBy 104 = .ok (.iload_n 3, 1) := by decide +kernel
theorem dd_Store_rootBy_105 : decode bm_Store_rootBy 105 = .ok (.iconst 2, 1) := by decide +kernel
theorem dd_Store_rootBy_106 : decode bm_Store_rootBy 106 = .ok (.imul, 1) := by decide +kernel
theorem dd_Store_rootBy_107 : decode bm_Store_rootBy 107 = .ok (.istore_n 3, 1) := by decide +kernel
theorem dd_Store_rootBy_108 : decode bm_Store_rootBy 108 = .ok (.goto (-52), 3) := by decide +kernel
theorem dd_Store_rootBy_111 : decode bm_Store_rootBy 111 = .ok (.aload_n 1, 1) := by decide +kernel
theorem dd_Store_rootBy_112 : decode bm_Store_rootBy 112 = .ok (.iconst 0, 1) := by decide +kernel
theorem dd_Store_rootBy_113 : decode bm_Store_rootBy 113 = .ok (.iaload, 1) := by decide +kernel
theorem dd_Store_rootBy_114 : decode bm_Store_rootBy 114 = .ok (.ireturn, 1) := by decide +kernel
theorem dd_Client_ctor_0 : decode bm_Client_ctor 0 = .ok (.aload_n 0, 1) := by decide +kernel
theorem dd_Client_ctor_1 : decode bm_Client_ctor 1 = .ok (.invokespecial 3, 3) := by decide +kernel
theorem dd_Client_ctor_4 : decode bm_Client_ctor 4 = .ok (.aload_n 0, 1) := by decide +kernel
theorem dd_Client_ctor_5 : decode bm_Client_ctor 5 = .ok (.sipush 513, 3) := by decide +kernel
theorem dd_Client_ctor_8 : decode bm_Client_ctor 8 = .ok (.newarray .boolean, 2) := by decide +kernel
theorem dd_Client_ctor_10 : decode bm_Client_ctor 10 = .ok (.putfield 9, 3) := by decide +kernel
theorem dd_Client_ctor_13 : decode bm_Client_ctor 13 = .ok (.return_, 1) := by decide +kernel
theorem dd_Client_learn_0 : decode bm_Client_learn 0 = .ok (.iload_n 1, 1) := by decide +kernel
theorem dd_Client_learn_1 : decode bm_Client_learn 1 = .ok (.iconst 1, 1) := by decide +kernel
theorem dd_Client_learn_2 : decode bm_Client_learn 2 = .ok (.if_icmp .lt 10, 3) := by decide +kernel
theorem dd_Client_learn_5 : decode bm_Client_learn 5 = .ok (.iload_n 1, 1) := by decide +kernel
theorem dd_Client_learn_6 : decode bm_Client_learn 6 = .ok (.sipush 512, 3) := by decide +kernel
theorem dd_Client_learn_9 : decode bm_Client_learn 9 = .ok (.if_icmp .le 4, 3) := by decide +kernel
theorem dd_Client_learn_12 : decode bm_Client_learn 12 = .ok (.return_, 1) := by decide +kernel
theorem dd_Client_learn_13 : decode bm_Client_learn 13 = .ok (.aload_n 0, 1) := by decide +kernel
theorem dd_Client_learn_14 : decode bm_Client_learn 14 = .ok (.getfield 9, 3) := by decide +kernel
theorem dd_Client_learn_17 : decode bm_Client_learn 17 = .ok (.iload_n 1, 1) := by decide +kernel
theorem dd_Client_learn_18 : decode bm_Client_learn 18 = .ok (.iconst 1, 1) := by decide +kernel
theorem dd_Client_learn_19 : decode bm_Client_learn 19 = .ok (.bastore, 1) := by decide +kernel
theorem dd_Client_learn_20 : decode bm_Client_learn 20 = .ok (.aload_n 0, 1) := by decide +kernel
theorem dd_Client_learn_21 : decode bm_Client_learn 21 = .ok (.aload_n 0, 1) := by decide +kernel
theorem dd_Client_learn_22 : decode bm_Client_learn 22 = .ok (.getfield 15, 3) := by decide +kernel
theorem dd_Client_learn_25 : decode bm_Client_learn 25 = .ok (.iload_n 1, 1) := by decide +kernel
theorem dd_Client_learn_26 : decode bm_Client_learn 26 = .ok (.invokestatic 19, 3) := by decide +kernel
theorem dd_Client_learn_29 : decode bm_Client_learn 29 = .ok (.putfield 15, 3) := by decide +kernel
theorem dd_Client_learn_32 : decode bm_Client_learn 32 = .ok (.return_, 1) := by decide +kernel
theorem dd_Client_hasHeader_0 : decode bm_Client_hasHeader 0 = .ok (.iload_n 1, 1) := by decide +kernel
theorem dd_Client_hasHeader_1 : decode bm_Client_hasHeader 1 = .ok (.iconst 1, 1) := by decide +kernel
theorem dd_Client_hasHeader_2 : decode bm_Client_hasHeader 2 = .ok (.if_icmp .lt 23, 3) := by decide +kernel
theorem dd_Client_hasHeader_5 : decode bm_Client_hasHeader 5 = .ok (.iload_n 1, 1) := by decide +kernel
theorem dd_Client_hasHeader_6 : decode bm_Client_hasHeader 6 = .ok (.sipush 512, 3) := by decide +kernel
theorem dd_Client_hasHeader_9 : decode bm_Client_hasHeader 9 = .ok (.if_icmp .gt 16, 3) := by decide +kernel
theorem dd_Client_hasHeader_12 : decode bm_Client_hasHeader 12 = .ok (.aload_n 0, 1) := by decide +kernel
theorem dd_Client_hasHeader_13 : decode bm_Client_hasHeader 13 = .ok (.getfield 9, 3) := by decide +kernel
theorem dd_Client_hasHeader_16 : decode bm_Client_hasHeader 16 = .ok (.iload_n 1, 1) := by decide +kernel
theorem dd_Client_hasHeader_17 : decode bm_Client_hasHeader 17 = .ok (.baload, 1) := by decide +kernel
theorem dd_Client_hasHeader_18 : decode bm_Client_hasHeader 18 = .ok (.ifCond .eq 7, 3) := by decide +kernel
theorem dd_Client_hasHeader_21 : decode bm_Client_hasHeader 21 = .ok (.iconst 1, 1) := by decide +kernel
theorem dd_Client_hasHeader_22 : decode bm_Client_hasHeader 22 = .ok (.goto 4, 3) := by decide +kernel
theorem dd_Client_hasHeader_25 : decode bm_Client_hasHeader 25 = .ok (.iconst 0, 1) := by decide +kernel
theorem dd_Client_hasHeader_26 : decode bm_Client_hasHeader 26 = .ok (.ireturn, 1) := by decide +kernel
theorem dd_Bank_ctor_0 : decode bm_Bank_ctor 0 = .ok (.aload_n 0, 1) := by decide +kernel
theorem dd_Bank_ctor_1 : decode bm_Bank_ctor 1 = .ok (.invokespecial 3, 3) := by decide +kernel
theorem dd_Bank_ctor_4 : decode bm_Bank_ctor 4 = .ok (.aload_n 0, 1) := by decide +kernel
theorem dd_Bank_ctor_5 : decode bm_Bank_ctor 5 = .ok (.iconst 4, 1) := by decide +kernel
theorem dd_Bank_ctor_6 : decode bm_Bank_ctor 6 = .ok (.bipush 6, 2) := by decide +kernel
theorem dd_Bank_ctor_8 : decode bm_Bank_ctor 8 = .ok (.multianewarray 9 2, 4) := by decide +kernel
theorem dd_Bank_ctor_12 : decode bm_Bank_ctor 12 = .ok (.putfield 11, 3) := by decide +kernel
theorem dd_Bank_ctor_15 : decode bm_Bank_ctor 15 = .ok (.aload_n 0, 1) := by decide +kernel
theorem dd_Bank_ctor_16 : decode bm_Bank_ctor 16 = .ok (.iconst 3, 1) := by decide +kernel
theorem dd_Bank_ctor_17 : decode bm_Bank_ctor 17 = .ok (.bipush 6, 2) := by decide +kernel
theorem dd_Bank_ctor_19 : decode bm_Bank_ctor 19 = .ok (.multianewarray 9 2, 4) := by decide +kernel
theorem dd_Bank_ctor_23 : decode bm_Bank_ctor 23 = .ok (.putfield 16, 3) := by decide +kernel
theorem dd_Bank_ctor_26 : decode bm_Bank_ctor 26 = .ok (.aload_n 0, 1) := by decide +kernel
theorem dd_Bank_ctor_27 : decode bm_Bank_ctor 27 = .ok (.bipush 6, 2) := by decide +kernel
theorem dd_Bank_ctor_29 : decode bm_Bank_ctor 29 = .ok (.newarray .int, 2) := by decide +kernel
theorem dd_Bank_ctor_31 : decode bm_Bank_ctor 31 = .ok (.putfield 19, 3) := by decide +kernel
theorem dd_Bank_ctor_34 : decode bm_Bank_ctor 34 = .ok (.aload_n 0, 1) := by decide +kernel
theorem dd_Bank_ctor_35 : decode bm_Bank_ctor 35 = .ok (.bipush 6, 2) := by decide +kernel
theorem dd_Bank_ctor_37 : decode bm_Bank_ctor 37 = .ok (.newarray .int, 2) := by decide +kernel
theorem dd_Bank_ctor_39 : decode bm_Bank_ctor 39 = .ok (.putfield 23, 3) := by decide +kernel
theorem dd_Bank_ctor_42 : decode bm_Bank_ctor 42 = .ok (.iconst 0, 1) := by decide +kernel
theorem dd_Bank_ctor_43 : decode bm_Bank_ctor 43 = .ok (.istore_n 1, 1) := by decide +kernel
theorem dd_Bank_ctor_44 : decode bm_Bank_ctor 44 = .ok (.iload_n 1, 1) := by decide +kernel
theorem dd_Bank_ctor_45 : decode bm_Bank_ctor 45 = .ok (.iconst 4, 1) := by decide +kernel
theorem dd_Bank_ctor_46 : decode bm_Bank_ctor 46 = .ok (.if_icmp .ge 20, 3) := by decide +kernel
theorem dd_Bank_ctor_49 : decode bm_Bank_ctor 49 = .ok (.aload_n 0, 1) := by decide +kernel
theorem dd_Bank_ctor_50 : decode bm_Bank_ctor 50 = .ok (.getfield 11, 3) := by decide +kernel
theorem dd_Bank_ctor_53 : decode bm_Bank_ctor 53 = .ok (.iload_n 1, 1) := by decide +kernel
theorem dd_Bank_ctor_54 : decode bm_Bank_ctor 54 = .ok (.aaload, 1) := by decide +kernel
theorem dd_Bank_ctor_55 : decode bm_Bank_ctor 55 = .ok (.iconst 0, 1) := by decide +kernel
theorem dd_Bank_ctor_56 : decode bm_Bank_ctor 56 = .ok (.sipush 1000, 3) := by decide +kernel
theorem dd_Bank_ctor_59 : decode bm_Bank_ctor 59 = .ok (.iastore, 1) := by decide +kernel
theorem dd_Bank_ctor_60 : decode bm_Bank_ctor 60 = .ok (.iinc 1 1, 3) := by decide +kernel
theorem dd_Bank_ctor_63 : decode bm_Bank_ctor 63 = .ok (.goto (-19), 3) := by decide +kernel
theorem dd_Bank_ctor_66 : decode bm_Bank_ctor 66 = .ok (.return_, 1) := by decide +kernel
theorem dd_Bank_isKind_0 : decode bm_Bank_isKind 0 = .ok (.iload_n 1, 1) := by decide +kernel
theorem dd_Bank_isKind_1 : decode bm_Bank_isKind 1 = .ok (.ifCond .lt 15, 3) := by decide +kernel
theorem dd_Bank_isKind_4 : decode bm_Bank_isKind 4 = .ok (.iload_n 1, 1) := by decide +kernel
theorem dd_Bank_isKind_5 : decode bm_Bank_isKind 5 = .ok (.aload_n 0, 1) := by decide +kernel
theorem dd_Bank_isKind_6 : decode bm_Bank_isKind 6 = .ok (.getfield 26, 3) := by decide +kernel
theorem dd_Bank_isKind_9 : decode bm_Bank_isKind 9 = .ok (.if_icmp .gt 7, 3) := by decide +kernel
theorem dd_Bank_isKind_12 : decode bm_Bank_isKind 12 = .ok (.iconst 1, 1) := by decide +kernel
theorem dd_Bank_isKind_13 : decode bm_Bank_isKind 13 = .ok (.goto 4, 3) := by decide +kernel
theorem dd_Bank_isKind_16 : decode bm_Bank_isKind 16 = .ok (.iconst 0, 1) := by decide +kernel
theorem dd_Bank_isKind_17 : decode bm_Bank_isKind 17 = .ok (.ireturn, 1) := by decide +kernel
theorem dd_Bank_backBy_0 : decode bm_Bank_backBy 0 = .ok (.iload_n 1, 1) := by decide +kernel
theorem dd_Bank_backBy_1 : decode bm_Bank_backBy 1 = .ok (.ifCond .eq 24, 3) := by decide +kernel
theorem dd_Bank_backBy_4 : decode bm_Bank_backBy 4 = .ok (.aload_n 0, 1) := by decide +kernel
theorem dd_Bank_backBy_5 : decode bm_Bank_backBy 5 = .ok (.getfield 23, 3) := by decide +kernel
theorem dd_Bank_backBy_8 : decode bm_Bank_backBy 8 = .ok (.iload_n 1, 1) := by decide +kernel
theorem dd_Bank_backBy_9 : decode bm_Bank_backBy 9 = .ok (.iaload, 1) := by decide +kernel
theorem dd_Bank_backBy_10 : decode bm_Bank_backBy 10 = .ok (.iload_n 2, 1) := by decide +kernel
theorem dd_Bank_backBy_11 : decode bm_Bank_backBy 11 = .ok (.if_icmp .ne 14, 3) := by decide +kernel
theorem dd_Bank_backBy_14 : decode bm_Bank_backBy 14 = .ok (.iconst 1, 1) := by decide +kernel
theorem dd_Bank_backBy_15 : decode bm_Bank_backBy 15 = .ok (.aload_n 0, 1) := by decide +kernel
theorem dd_Bank_backBy_16 : decode bm_Bank_backBy 16 = .ok (.getfield 19, 3) := by decide +kernel
theorem dd_Bank_backBy_19 : decode bm_Bank_backBy 19 = .ok (.iload_n 1, 1) := by decide +kernel
theorem dd_Bank_backBy_20 : decode bm_Bank_backBy 20 = .ok (.iaload, 1) := by decide +kernel
theorem dd_Bank_backBy_21 : decode bm_Bank_backBy 21 = .ok (.iadd, 1) := by decide +kernel
theorem dd_Bank_backBy_22 : decode bm_Bank_backBy 22 = .ok (.goto 4, 3) := by decide +kernel
theorem dd_Bank_backBy_25 : decode bm_Bank_backBy 25 = .ok (.iconst 0, 1) := by decide +kernel
theorem dd_Bank_backBy_26 : decode bm_Bank_backBy 26 = .ok (.ireturn, 1) := by decide +kernel
theorem dd_Bank_charge_0 : decode bm_Bank_charge 0 = .ok (.aload_n 0, 1) := by decide +kernel
theorem dd_Bank_charge_1 : decode bm_Bank_charge 1 = .ok (.getfield 11, 3) := by decide +kernel
theorem dd_Bank_charge_4 : decode bm_Bank_charge 4 = .ok (.aload_n 1, 1) := by decide +kernel
theorem dd_Bank_charge_5 : decode bm_Bank_charge 5 = .ok (.getfield 30, 3) := by decide +kernel
theorem dd_Bank_charge_8 : decode bm_Bank_charge 8 = .ok (.aaload, 1) := by decide +kernel
theorem dd_Bank_charge_9 : decode bm_Bank_charge 9 = .ok (.aload_n 1, 1) := by decide +kernel
theorem dd_Bank_charge_10 : decode bm_Bank_charge 10 = .ok (.getfield 35, 3) := by decide +kernel
theorem dd_Bank_charge_13 : decode bm_Bank_charge 13 = .ok (.dup2, 1) := by decide +kernel
theorem dd_Bank_charge_14 : decode bm_Bank_charge 14 = .ok (.iaload, 1) := by decide +kernel
theorem dd_Bank_charge_15 : decode bm_Bank_charge 15 = .ok (.aload_n 1, 1) := by decide +kernel
theorem dd_Bank_charge_16 : decode bm_Bank_charge 16 = .ok (.getfield 38, 3) := by decide +kernel
theorem dd_Bank_charge_19 : decode bm_Bank_charge 19 = .ok (.isub, 1) := by decide +kernel
theorem dd_Bank_charge_20 : decode bm_Bank_charge 20 = .ok (.iastore, 1) := by decide +kernel
theorem dd_Bank_charge_21 : decode bm_Bank_charge 21 = .ok (.aload_n 1, 1) := by decide +kernel
theorem dd_Bank_charge_22 : decode bm_Bank_charge 22 = .ok (.invokevirtual 41, 3) := by decide +kernel
theorem dd_Bank_charge_25 : decode bm_Bank_charge 25 = .ok (.ifCond .ne 21, 3) := by decide +kernel
theorem dd_Bank_charge_28 : decode bm_Bank_charge 28 = .ok (.aload_n 0, 1) := by decide +kernel
theorem dd_Bank_charge_29 : decode bm_Bank_charge 29 = .ok (.getfield 16, 3) := by decide +kernel
theorem dd_Bank_charge_32 : decode bm_Bank_charge 32 = .ok (.iload_n 2, 1) := by decide +kernel
theorem dd_Bank_charge_33 : decode bm_Bank_charge 33 = .ok (.aaload, 1) := by decide +kernel
theorem dd_Bank_charge_34 : decode bm_Bank_charge 34 = .ok (.aload_n 1, 1) := by decide +kernel
theorem dd_Bank_charge_35 : decode bm_Bank_charge 35 = .ok (.getfield 35, 3) := by decide +kernel
theorem dd_Bank_charge_38 : decode bm_Bank_charge 38 = .ok (.dup2, 1) := by decide +kernel
theorem dd_Bank_charge_39 : decode bm_Bank_charge 39 = .ok (.iaload, 1) := by decide +kernel
theorem dd_Bank_charge_40 : decode bm_Bank_charge 40 = .ok (.aload_n 1, 1) := by decide +kernel
theorem dd_Bank_charge_41 : decode bm_Bank_charge 41 = .ok (.getfield 38, 3) := by decide +kernel
theorem dd_Bank_charge_44 : decode bm_Bank_charge 44 = .ok (.iadd, 1) := by decide +kernel
theorem dd_Bank_charge_45 : decode bm_Bank_charge 45 = .ok (.iastore, 1) := by decide +kernel
theorem dd_Bank_charge_46 : decode bm_Bank_charge 46 = .ok (.return_, 1) := by decide +kernel
theorem dd_Bank_refund_0 : decode bm_Bank_refund 0 = .ok (.aload_n 0, 1) := by decide +kernel
theorem dd_Bank_refund_1 : decode bm_Bank_refund 1 = .ok (.getfield 11, 3) := by decide +kernel
theorem dd_Bank_refund_4 : decode bm_Bank_refund 4 = .ok (.aload_n 1, 1) := by decide +kernel
theorem dd_Bank_refund_5 : decode bm_Bank_refund 5 = .ok (.getfield 30, 3) := by decide +kernel
theorem dd_Bank_refund_8 : decode bm_Bank_refund 8 = .ok (.aaload, 1) := by decide +kernel
theorem dd_Bank_refund_9 : decode bm_Bank_refund 9 = .ok (.aload_n 1, 1) := by decide +kernel
theorem dd_Bank_refund_10 : decode bm_Bank_refund 10 = .ok (.getfield 35, 3) := by decide +kernel
theorem dd_Bank_refund_13 : decode bm_Bank_refund 13 = .ok (.dup2, 1) := by decide +kernel
theorem dd_Bank_refund_14 : decode bm_Bank_refund 14 = .ok (.iaload, 1) := by decide +kernel
theorem dd_Bank_refund_15 : decode bm_Bank_refund 15 = .ok (.aload_n 1, 1) := by decide +kernel
theorem dd_Bank_refund_16 : decode bm_Bank_refund 16 = .ok (.getfield 38, 3) := by decide +kernel
theorem dd_Bank_refund_19 : decode bm_Bank_refund 19 = .ok (.iadd, 1) := by decide +kernel
theorem dd_Bank_refund_20 : decode bm_Bank_refund 20 = .ok (.iastore, 1) := by decide +kernel
theorem dd_Bank_refund_21 : decode bm_Bank_refund 21 = .ok (.aload_n 1, 1) := by decide +kernel
theorem dd_Bank_refund_22 : decode bm_Bank_refund 22 = .ok (.invokevirtual 41, 3) := by decide +kernel
theorem dd_Bank_refund_25 : decode bm_Bank_refund 25 = .ok (.ifCond .ne 21, 3) := by decide +kernel
theorem dd_Bank_refund_28 : decode bm_Bank_refund 28 = .ok (.aload_n 0, 1) := by decide +kernel
theorem dd_Bank_refund_29 : decode bm_Bank_refund 29 = .ok (.getfield 16, 3) := by decide +kernel
theorem dd_Bank_refund_32 : decode bm_Bank_refund 32 = .ok (.iload_n 2, 1) := by decide +kernel
theorem dd_Bank_refund_33 : decode bm_Bank_refund 33 = .ok (.aaload, 1) := by decide +kernel
theorem dd_Bank_refund_34 : decode bm_Bank_refund 34 = .ok (.aload_n 1, 1) := by decide +kernel
theorem dd_Bank_refund_35 : decode bm_Bank_refund 35 = .ok (.getfield 35, 3) := by decide +kernel
theorem dd_Bank_refund_38 : decode bm_Bank_refund 38 = .ok (.dup2, 1) := by decide +kernel
theorem dd_Bank_refund_39 : decode bm_Bank_refund 39 = .ok (.iaload, 1) := by decide +kernel
theorem dd_Bank_refund_40 : decode bm_Bank_refund 40 = .ok (.aload_n 1, 1) := by decide +kernel
theorem dd_Bank_refund_41 : decode bm_Bank_refund 41 = .ok (.getfield 38, 3) := by decide +kernel
theorem dd_Bank_refund_44 : decode bm_Bank_refund 44 = .ok (.isub, 1) := by decide +kernel
theorem dd_Bank_refund_45 : decode bm_Bank_refund 45 = .ok (.iastore, 1) := by decide +kernel
theorem dd_Bank_refund_46 : decode bm_Bank_refund 46 = .ok (.return_, 1) := by decide +kernel
theorem dd_Bank_take_0 : decode bm_Bank_take 0 = .ok (.aload_n 1, 1) := by decide +kernel
theorem dd_Bank_take_1 : decode bm_Bank_take 1 = .ok (.getfield 45, 3) := by decide +kernel
theorem dd_Bank_take_4 : decode bm_Bank_take 4 = .ok (.iconst 3, 1) := by decide +kernel
theorem dd_Bank_take_5 : decode bm_Bank_take 5 = .ok (.if_icmp .ne 5, 3) := by decide +kernel
theorem dd_Bank_take_8 : decode bm_Bank_take 8 = .ok (.iconst 0, 1) := by decide +kernel
theorem dd_Bank_take_9 : decode bm_Bank_take 9 = .ok (.ireturn, 1) := by decide +kernel
theorem dd_Bank_take_10 : decode bm_Bank_take 10 = .ok (.aload_n 1, 1) := by decide +kernel
theorem dd_Bank_take_11 : decode bm_Bank_take 11 = .ok (.invokevirtual 41, 3) := by decide +kernel
theorem dd_Bank_take_14 : decode bm_Bank_take 14 = .ok (.ifCond .eq 12, 3) := by decide +kernel
theorem dd_Bank_take_17 : decode bm_Bank_take 17 = .ok (.aload_n 0, 1) := by decide +kernel
theorem dd_Bank_take_18 : decode bm_Bank_take 18 = .ok (.aload_n 1, 1) := by decide +kernel
theorem dd_Bank_take_19 : decode bm_Bank_take 19 = .ok (.iload_n 2, 1) := by decide +kernel
theorem dd_Bank_take_20 : decode bm_Bank_take 20 = .ok (.invokevirtual 48, 3) := by decide +kernel
theorem dd_Bank_take_23 : decode bm_Bank_take 23 = .ok (.goto 9, 3) := by decide +kernel
theorem dd_Bank_take_26 : decode bm_Bank_take 26 = .ok (.aload_n 0, 1) := by decide +kernel
theorem dd_Bank_take_27 : decode bm_Bank_take 27 = .ok (.aload_n 1, 1) := by decide +kernel
theorem dd_Bank_take_28 : decode bm_Bank_take 28 = .ok (.iload_n 2, 1) := by decide +kernel
theorem dd_Bank_take_29 : decode bm_Bank_take 29 = .ok (.invokevirtual 52, 3) := by decide +kernel
theorem dd_Bank_take_32 : decode bm_Bank_take 32 = .ok (.ireturn, 1) := by decide +kernel
theorem dd_Bank_takeBack_0 : decode bm_Bank_takeBack 0 = .ok (.aload_n 1, 1) := by decide +kernel
theorem dd_Bank_takeBack_1 : decode bm_Bank_takeBack 1 = .ok (.getfield 55, 3) := by decide +kernel
theorem dd_Bank_takeBack_4 : decode bm_Bank_takeBack 4 = .ok (.iconst 1, 1) := by decide +kernel
theorem dd_Bank_takeBack_5 : decode bm_Bank_takeBack 5 = .ok (.isub, 1) := by decide +kernel
theorem dd_Bank_takeBack_6 : decode bm_Bank_takeBack 6 = .ok (.istore_n 3, 1) := by decide +kernel
theorem dd_Bank_takeBack_7 : decode bm_Bank_takeBack 7 = .ok (.aload_n 0, 1) := by decide +kernel
theorem dd_Bank_takeBack_8 : decode bm_Bank_takeBack 8 = .ok (.getfield 16, 3) := by decide +kernel
theorem dd_Bank_takeBack_11 : decode bm_Bank_takeBack 11 = .ok (.iload_n 2, 1) := by decide +kernel
theorem dd_Bank_takeBack_12 : decode bm_Bank_takeBack 12 = .ok (.aaload, 1) := by decide +kernel
theorem dd_Bank_takeBack_13 : decode bm_Bank_takeBack 13 = .ok (.iload_n 3, 1) := by decide +kernel
theorem dd_Bank_takeBack_14 : decode bm_Bank_takeBack 14 = .ok (.iaload, 1) := by decide +kernel
theorem dd_Bank_takeBack_15 : decode bm_Bank_takeBack 15 = .ok (.aload_n 1, 1) := by decide +kernel
theorem dd_Bank_takeBack_16 : decode bm_Bank_takeBack 16 = .ok (.getfield 38, 3) := by decide +kernel
theorem dd_Bank_takeBack_19 : decode bm_Bank_takeBack 19 = .ok (.if_icmp .ge 5, 3) := by decide +kernel
theorem dd_Bank_takeBack_22 : decode bm_Bank_takeBack 22 = .ok (.iconst 0, 1) := by decide +kernel
theorem dd_Bank_takeBack_23 : decode bm_Bank_takeBack 23 = .ok (.ireturn, 1) := by decide +kernel
theorem dd_Bank_takeBack_24 : decode bm_Bank_takeBack 24 = .ok (.aload_n 0, 1) := by decide +kernel
theorem dd_Bank_takeBack_25 : decode bm_Bank_takeBack 25 = .ok (.getfield 16, 3) := by decide +kernel
theorem dd_Bank_takeBack_28 : decode bm_Bank_takeBack 28 = .ok (.iload_n 2, 1) := by decide +kernel
theorem dd_Bank_takeBack_29 : decode bm_Bank_takeBack 29 = .ok (.aaload, 1) := by decide +kernel
theorem dd_Bank_takeBack_30 : decode bm_Bank_takeBack 30 = .ok (.iload_n 3, 1) := by decide +kernel
theorem dd_Bank_takeBack_31 : decode bm_Bank_takeBack 31 = .ok (.dup2, 1) := by decide +kernel
theorem dd_Bank_takeBack_32 : decode bm_Bank_takeBack 32 = .ok (.iaload, 1) := by decide +kernel
theorem dd_Bank_takeBack_33 : decode bm_Bank_takeBack 33 = .ok (.aload_n 1, 1) := by decide +kernel
theorem dd_Bank_takeBack_34 : decode bm_Bank_takeBack 34 = .ok (.getfield 38, 3) := by decide +kernel
theorem dd_Bank_takeBack_37 : decode bm_Bank_takeBack 37 = .ok (.isub, 1) := by decide +kernel
theorem dd_Bank_takeBack_38 : decode bm_Bank_takeBack 38 = .ok (.iastore, 1) := by decide +kernel
theorem dd_Bank_takeBack_39 : decode bm_Bank_takeBack 39 = .ok (.aload_n 0, 1) := by decide +kernel
theorem dd_Bank_takeBack_40 : decode bm_Bank_takeBack 40 = .ok (.getfield 11, 3) := by decide +kernel
theorem dd_Bank_takeBack_43 : decode bm_Bank_takeBack 43 = .ok (.aload_n 1, 1) := by decide +kernel
theorem dd_Bank_takeBack_44 : decode bm_Bank_takeBack 44 = .ok (.getfield 45, 3) := by decide +kernel
theorem dd_Bank_takeBack_47 : decode bm_Bank_takeBack 47 = .ok (.aaload, 1) := by decide +kernel
theorem dd_Bank_takeBack_48 : decode bm_Bank_takeBack 48 = .ok (.iload_n 3, 1) := by decide +kernel
theorem dd_Bank_takeBack_49 : decode bm_Bank_takeBack 49 = .ok (.dup2, 1) := by decide +kernel
theorem dd_Bank_takeBack_50 : decode bm_Bank_takeBack 50 = .ok (.iaload, 1) := by decide +kernel
theorem dd_Bank_takeBack_51 : decode bm_Bank_takeBack 51 = .ok (.aload_n 1, 1) := by decide +kernel
theorem dd_Bank_takeBack_52 : decode bm_Bank_takeBack 52 = .ok (.getfield 38, 3) := by decide +kernel
theorem dd_Bank_takeBack_55 : decode bm_Bank_takeBack 55 = .ok (.iadd, 1) := by decide +kernel
theorem dd_Bank_takeBack_56 : decode bm_Bank_takeBack 56 = .ok (.iastore, 1) := by decide +kernel
theorem dd_Bank_takeBack_57 : decode bm_Bank_takeBack 57 = .ok (.iconst 1, 1) := by decide +kernel
theorem dd_Bank_takeBack_58 : decode bm_Bank_takeBack 58 = .ok (.ireturn, 1) := by decide +kernel
theorem dd_Bank_takeVoucher_0 : decode bm_Bank_takeVoucher 0 = .ok (.aload_n 0, 1) := by decide +kernel
theorem dd_Bank_takeVoucher_1 : decode bm_Bank_takeVoucher 1 = .ok (.aload_n 1, 1) := by decide +kernel
theorem dd_Bank_takeVoucher_2 : decode bm_Bank_takeVoucher 2 = .ok (.getfield 35, 3) := by decide +kernel
theorem dd_Bank_takeVoucher_5 : decode bm_Bank_takeVoucher 5 = .ok (.iload_n 2, 1) := by decide +kernel
theorem dd_Bank_takeVoucher_6 : decode bm_Bank_takeVoucher 6 = .ok (.invokevirtual 58, 3) := by decide +kernel
theorem dd_Bank_takeVoucher_9 : decode bm_Bank_takeVoucher 9 = .ok (.istore_n 3, 1) := by decide +kernel
theorem dd_Bank_takeVoucher_10 : decode bm_Bank_takeVoucher 10 = .ok (.iload_n 3, 1) := by decide +kernel
theorem dd_Bank_takeVoucher_11 : decode bm_Bank_takeVoucher 11 = .ok (.ifCond .ne 45, 3) := by decide +kernel
theorem dd_Bank_takeVoucher_14 : decode bm_Bank_takeVoucher 14 = .ok (.aload_n 0, 1) := by decide +kernel
theorem dd_Bank_takeVoucher_15 : decode bm_Bank_takeVoucher 15 = .ok (.getfield 26, 3) := by decide +kernel
theorem dd_Bank_takeVoucher_18 : decode bm_Bank_takeVoucher 18 = .ok (.iconst 5, 1) := by decide +kernel
theorem dd_Bank_takeVoucher_19 : decode bm_Bank_takeVoucher 19 = .ok (.if_icmp .lt 5, 3) := by decide +kernel
theorem dd_Bank_takeVoucher_22 : decode bm_Bank_takeVoucher 22 = .ok (.iconst 0, 1) := by decide +kernel
theorem dd_Bank_takeVoucher_23 : decode bm_Bank_takeVoucher 23 = .ok (.ireturn, 1) := by decide +kernel
theorem dd_Bank_takeVoucher_24 : decode bm_Bank_takeVoucher 24 = .ok (.aload_n 0, 1) := by decide +kernel
theorem dd_Bank_takeVoucher_25 : decode bm_Bank_takeVoucher 25 = .ok (.dup, 1) := by decide +kernel
theorem dd_Bank_takeVoucher_26 : decode bm_Bank_takeVoucher 26 = .ok (.getfield 26, 3) := by decide +kernel
theorem dd_Bank_takeVoucher_29 : decode bm_Bank_takeVoucher 29 = .ok (.iconst 1, 1) := by decide +kernel
theorem dd_Bank_takeVoucher_30 : decode bm_Bank_takeVoucher 30 = .ok (.iadd, 1) := by decide +kernel
theorem dd_Bank_takeVoucher_31 : decode bm_Bank_takeVoucher 31 = .ok (.putfield 26, 3) := by decide +kernel
theorem dd_Bank_takeVoucher_34 : decode bm_Bank_takeVoucher 34 = .ok (.aload_n 0, 1) := by decide +kernel
theorem dd_Bank_takeVoucher_35 : decode bm_Bank_takeVoucher 35 = .ok (.getfield 26, 3) := by decide +kernel
theorem dd_Bank_takeVoucher_38 : decode bm_Bank_takeVoucher 38 = .ok (.istore_n 3, 1) := by decide +kernel
theorem dd_Bank_takeVoucher_39 : decode bm_Bank_takeVoucher 39 = .ok (.aload_n 0, 1) := by decide +kernel
theorem dd_Bank_takeVoucher_40 : decode bm_Bank_takeVoucher 40 = .ok (.getfield 19, 3) := by decide +kernel
theorem dd_Bank_takeVoucher_43 : decode bm_Bank_takeVoucher 43 = .ok (.iload_n 3, 1) := by decide +kernel
theorem dd_Bank_takeVoucher_44 : decode bm_Bank_takeVoucher 44 = .ok (.aload_n 1, 1) := by decide +kernel
theorem dd_Bank_takeVoucher_45 : decode bm_Bank_takeVoucher 45 = .ok (.getfield 35, 3) := by decide +kernel
theorem dd_Bank_takeVoucher_48 : decode bm_Bank_takeVoucher 48 = .ok (.iastore, 1) := by decide +kernel
theorem dd_Bank_takeVoucher_49 : decode bm_Bank_takeVoucher 49 = .ok (.aload_n 0, 1) := by decide +kernel
theorem dd_Bank_takeVoucher_50 : decode bm_Bank_takeVoucher 50 = .ok (.getfield 23, 3) := by decide +kernel
theorem dd_Bank_takeVoucher_53 : decode bm_Bank_takeVoucher 53 = .ok (.iload_n 3, 1) := by decide +kernel
theorem dd_Bank_takeVoucher_54 : decode bm_Bank_takeVoucher 54 = .ok (.iload_n 2, 1) := by decide +kernel
theorem dd_Bank_takeVoucher_55 : decode bm_Bank_takeVoucher 55 = .ok (.iastore, 1) := by decide +kernel
theorem dd_Bank_takeVoucher_56 : decode bm_Bank_takeVoucher 56 = .ok (.aload_n 0, 1) := by decide +kernel
theorem dd_Bank_takeVoucher_57 : decode bm_Bank_takeVoucher 57 = .ok (.getfield 11, 3) := by decide +kernel
theorem dd_Bank_takeVoucher_60 : decode bm_Bank_takeVoucher 60 = .ok (.aload_n 1, 1) := by decide +kernel
theorem dd_Bank_takeVoucher_61 : decode bm_Bank_takeVoucher 61 = .ok (.getfield 45, 3) := by decide +kernel
theorem dd_Bank_takeVoucher_64 : decode bm_Bank_takeVoucher 64 = .ok (.aaload, 1) := by decide +kernel
theorem dd_Bank_takeVoucher_65 : decode bm_Bank_takeVoucher 65 = .ok (.iload_n 3, 1) := by decide +kernel
theorem dd_Bank_takeVoucher_66 : decode bm_Bank_takeVoucher 66 = .ok (.dup2, 1) := by decide +kernel
theorem dd_Bank_takeVoucher_67 : decode bm_Bank_takeVoucher 67 = .ok (.iaload, 1) := by decide +kernel
theorem dd_Bank_takeVoucher_68 : decode bm_Bank_takeVoucher 68 = .ok (.aload_n 1, 1) := by decide +kernel
theorem dd_Bank_takeVoucher_69 : decode bm_Bank_takeVoucher 69 = .ok (.getfield 38, 3) := by decide +kernel
theorem dd_Bank_takeVoucher_72 : decode bm_Bank_takeVoucher 72 = .ok (.iadd, 1) := by decide +kernel
theorem dd_Bank_takeVoucher_73 : decode bm_Bank_takeVoucher 73 = .ok (.iastore, 1) := by decide +kernel
theorem dd_Bank_takeVoucher_74 : decode bm_Bank_takeVoucher 74 = .ok (.iconst 1, 1) := by decide +kernel
theorem dd_Bank_takeVoucher_75 : decode bm_Bank_takeVoucher 75 = .ok (.ireturn, 1) := by decide +kernel
theorem dd_Bank_findVoucher_0 : decode bm_Bank_findVoucher 0 = .ok (.iconst 1, 1) := by decide +kernel
theorem dd_Bank_findVoucher_1 : decode bm_Bank_findVoucher 1 = .ok (.istore_n 3, 1) := by decide +kernel
theorem dd_Bank_findVoucher_2 : decode bm_Bank_findVoucher 2 = .ok (.iload_n 3, 1) := by decide +kernel
theorem dd_Bank_findVoucher_3 : decode bm_Bank_findVoucher 3 = .ok (.aload_n 0, 1) := by decide +kernel
theorem dd_Bank_findVoucher_4 : decode bm_Bank_findVoucher 4 = .ok (.getfield 26, 3) := by decide +kernel
theorem dd_Bank_findVoucher_7 : decode bm_Bank_findVoucher 7 = .ok (.if_icmp .gt 31, 3) := by decide +kernel
theorem dd_Bank_findVoucher_10 : decode bm_Bank_findVoucher 10 = .ok (.aload_n 0, 1) := by decide +kernel
theorem dd_Bank_findVoucher_11 : decode bm_Bank_findVoucher 11 = .ok (.getfield 19, 3) := by decide +kernel
theorem dd_Bank_findVoucher_14 : decode bm_Bank_findVoucher 14 = .ok (.iload_n 3, 1) := by decide +kernel
theorem dd_Bank_findVoucher_15 : decode bm_Bank_findVoucher 15 = .ok (.iaload, 1) := by decide +kernel
theorem dd_Bank_findVoucher_16 : decode bm_Bank_findVoucher 16 = .ok (.iload_n 1, 1) := by decide +kernel
theorem dd_Bank_findVoucher_17 : decode bm_Bank_findVoucher 17 = .ok (.if_icmp .ne 15, 3) := by decide +kernel
theorem dd_Bank_findVoucher_20 : decode bm_Bank_findVoucher 20 = .ok (.aload_n 0, 1) := by decide +kernel
theorem dd_Bank_findVoucher_21 : decode bm_Bank_findVoucher 21 = .ok (.getfield 23, 3) := by decide +kernel
theorem dd_Bank_findVoucher_24 : decode bm_Bank_findVoucher 24 = .ok (.iload_n 3, 1) := by decide +kernel
theorem dd_Bank_findVoucher_25 : decode bm_Bank_findVoucher 25 = .ok (.iaload, 1) := by decide +kernel
theorem dd_Bank_findVoucher_26 : decode bm_Bank_findVoucher 26 = .ok (.iload_n 2, 1) := by decide +kernel
theorem dd_Bank_findVoucher_27 : decode bm_Bank_findVoucher 27 = .ok (.if_icmp .ne 5, 3) := by decide +kernel
theorem dd_Bank_findVoucher_30 : decode bm_Bank_findVoucher 30 = .ok (.iload_n 3, 1) := by decide +kernel
theorem dd_Bank_findVoucher_31 : decode bm_Bank_findVoucher 31 = .ok (.ireturn, 1) := by decide +kernel
theorem dd_Bank_findVoucher_32 : decode bm_Bank_findVoucher 32 = .ok (.iinc 3 1, 3) := by decide +kernel
theorem dd_Bank_findVoucher_35 : decode bm_Bank_findVoucher 35 = .ok (.goto (-33), 3) := by decide +kernel
theorem dd_Bank_findVoucher_38 : decode bm_Bank_findVoucher 38 = .ok (.iconst 0, 1) := by decide +kernel
theorem dd_Bank_findVoucher_39 : decode bm_Bank_findVoucher 39 = .ok (.ireturn, 1) := by decide +kernel
theorem dd_End_ctor_0 : decode bm_End_ctor 0 = .ok (.aload_n 0, 1) := by decide +kernel
theorem dd_End_ctor_1 : decode bm_End_ctor 1 = .ok (.invokespecial 3, 3) := by decide +kernel
theorem dd_End_ctor_4 : decode bm_End_ctor 4 = .ok (.aload_n 0, 1) := by decide +kernel
theorem dd_End_ctor_5 : decode bm_End_ctor 5 = .ok (.bipush 12, 2) := by decide +kernel
theorem dd_End_ctor_7 : decode bm_End_ctor 7 = .ok (.anewarray 9, 3) := by decide +kernel
theorem dd_End_ctor_10 : decode bm_End_ctor 10 = .ok (.putfield 11, 3) := by decide +kernel
theorem dd_End_ctor_13 : decode bm_End_ctor 13 = .ok (.aload_n 0, 1) := by decide +kernel
theorem dd_End_ctor_14 : decode bm_End_ctor 14 = .ok (.iconst 1, 1) := by decide +kernel
theorem dd_End_ctor_15 : decode bm_End_ctor 15 = .ok (.putfield 17, 3) := by decide +kernel
theorem dd_End_ctor_18 : decode bm_End_ctor 18 = .ok (.iconst 0, 1) := by decide +kernel
theorem dd_End_ctor_19 : decode bm_End_ctor 19 = .ok (.istore_n 1, 1) := by decide +kernel
theorem dd_End_ctor_20 : decode bm_End_ctor 20 = .ok (.iload_n 1, 1) := by decide +kernel
theorem dd_End_ctor_21 : decode bm_End_ctor 21 = .ok (.bipush 12, 2) := by decide +kernel
theorem dd_End_ctor_23 : decode bm_End_ctor 23 = .ok (.if_icmp .ge 22, 3) := by decide +kernel
theorem dd_End_ctor_26 : decode bm_End_ctor 26 = .ok (.aload_n 0, 1) := by decide +kernel
theorem dd_End_ctor_27 : decode bm_End_ctor 27 = .ok (.getfield 11, 3) := by decide +kernel
theorem dd_End_ctor_30 : decode bm_End_ctor 30 = .ok (.iload_n 1, 1) := by decide +kernel
theorem dd_End_ctor_31 : decode bm_End_ctor 31 = .ok (.new 9, 3) := by decide +kernel
theorem dd_End_ctor_34 : decode bm_End_ctor 34 = .ok (.dup, 1) := by decide +kernel
theorem dd_End_ctor_35 : decode bm_End_ctor 35 = .ok (.invokespecial 21, 3) := by decide +kernel
theorem dd_End_ctor_38 : decode bm_End_ctor 38 = .ok (.aastore, 1) := by decide +kernel
theorem dd_End_ctor_39 : decode bm_End_ctor 39 = .ok (.iinc 1 1, 3) := by decide +kernel
theorem dd_End_ctor_42 : decode bm_End_ctor 42 = .ok (.goto (-22), 3) := by decide +kernel
theorem dd_End_ctor_45 : decode bm_End_ctor 45 = .ok (.return_, 1) := by decide +kernel
theorem dd_Packet_ctor_0 : decode bm_Packet_ctor 0 = .ok (.aload_n 0, 1) := by decide +kernel
theorem dd_Packet_ctor_1 : decode bm_Packet_ctor 1 = .ok (.invokespecial 3, 3) := by decide +kernel
theorem dd_Packet_ctor_4 : decode bm_Packet_ctor 4 = .ok (.return_, 1) := by decide +kernel
theorem dd_Packet_goesBack_0 : decode bm_Packet_goesBack 0 = .ok (.aload_n 0, 1) := by decide +kernel
theorem dd_Packet_goesBack_1 : decode bm_Packet_goesBack 1 = .ok (.getfield 9, 3) := by decide +kernel
theorem dd_Packet_goesBack_4 : decode bm_Packet_goesBack 4 = .ok (.ifCond .le 7, 3) := by decide +kernel
theorem dd_Packet_goesBack_7 : decode bm_Packet_goesBack 7 = .ok (.iconst 1, 1) := by decide +kernel
theorem dd_Packet_goesBack_8 : decode bm_Packet_goesBack 8 = .ok (.goto 4, 3) := by decide +kernel
theorem dd_Packet_goesBack_11 : decode bm_Packet_goesBack 11 = .ok (.iconst 0, 1) := by decide +kernel
theorem dd_Packet_goesBack_12 : decode bm_Packet_goesBack 12 = .ok (.ireturn, 1) := by decide +kernel
theorem dd_Packet_printWith_0 : decode bm_Packet_printWith 0 = .ok (.iconst 3, 1) := by decide +kernel
theorem dd_Packet_printWith_1 : decode bm_Packet_printWith 1 = .ok (.aload_n 0, 1) := by decide +kernel
theorem dd_Packet_printWith_2 : decode bm_Packet_printWith 2 = .ok (.getfield 15, 3) := by decide +kernel
theorem dd_Packet_printWith_5 : decode bm_Packet_printWith 5 = .ok (.invokestatic 18, 3) := by decide +kernel
theorem dd_Packet_printWith_8 : decode bm_Packet_printWith 8 = .ok (.aload_n 0, 1) := by decide +kernel
theorem dd_Packet_printWith_9 : decode bm_Packet_printWith 9 = .ok (.getfield 22, 3) := by decide +kernel
theorem dd_Packet_printWith_12 : decode bm_Packet_printWith 12 = .ok (.iload_n 1, 1) := by decide +kernel
theorem dd_Packet_printWith_13 : decode bm_Packet_printWith 13 = .ok (.iadd, 1) := by decide +kernel
theorem dd_Packet_printWith_14 : decode bm_Packet_printWith 14 = .ok (.invokestatic 18, 3) := by decide +kernel
theorem dd_Packet_printWith_17 : decode bm_Packet_printWith 17 = .ok (.istore_n 2, 1) := by decide +kernel
theorem dd_Packet_printWith_18 : decode bm_Packet_printWith 18 = .ok (.iload_n 2, 1) := by decide +kernel
theorem dd_Packet_printWith_19 : decode bm_Packet_printWith 19 = .ok (.iconst 4, 1) := by decide +kernel
theorem dd_Packet_printWith_20 : decode bm_Packet_printWith 20 = .ok (.aload_n 0, 1) := by decide +kernel
theorem dd_Packet_printWith_21 : decode bm_Packet_printWith 21 = .ok (.getfield 25, 3) := by decide +kernel
theorem dd_Packet_printWith_24 : decode bm_Packet_printWith 24 = .ok (.imul, 1) := by decide +kernel
theorem dd_Packet_printWith_25 : decode bm_Packet_printWith 25 = .ok (.aload_n 0, 1) := by decide +kernel
theorem dd_Packet_printWith_26 : decode bm_Packet_printWith 26 = .ok (.getfield 28, 3) := by decide +kernel
theorem dd_Packet_printWith_29 : decode bm_Packet_printWith 29 = .ok (.iadd, 1) := by decide +kernel
theorem dd_Packet_printWith_30 : decode bm_Packet_printWith 30 = .ok (.invokestatic 18, 3) := by decide +kernel
theorem dd_Packet_printWith_33 : decode bm_Packet_printWith 33 = .ok (.istore_n 2, 1) := by decide +kernel
theorem dd_Packet_printWith_34 : decode bm_Packet_printWith 34 = .ok (.iload_n 2, 1) := by decide +kernel
theorem dd_Packet_printWith_35 : decode bm_Packet_printWith 35 = .ok (.aload_n 0, 1) := by decide +kernel
theorem dd_Packet_printWith_36 : decode bm_Packet_printWith 36 = .ok (.getfield 31, 3) := by decide +kernel
theorem dd_Packet_printWith_39 : decode bm_Packet_printWith 39 = .ok (.invokestatic 18, 3) := by decide +kernel
theorem dd_Packet_printWith_42 : decode bm_Packet_printWith 42 = .ok (.aload_n 0, 1) := by decide +kernel
theorem dd_Packet_printWith_43 : decode bm_Packet_printWith 43 = .ok (.getfield 9, 3) := by decide +kernel
theorem dd_Packet_printWith_46 : decode bm_Packet_printWith 46 = .ok (.invokestatic 18, 3) := by decide +kernel
theorem dd_Packet_printWith_49 : decode bm_Packet_printWith 49 = .ok (.ireturn, 1) := by decide +kernel
theorem dd_Mo_ctor_0 : decode bm_Mo_ctor 0 = .ok (.aload_n 0, 1) := by decide +kernel
theorem dd_Mo_ctor_1 : decode bm_Mo_ctor 1 = .ok (.invokespecial 1, 3) := by decide +kernel
theorem dd_Mo_ctor_4 : decode bm_Mo_ctor 4 = .ok (.aload_n 0, 1) := by decide +kernel
theorem dd_Mo_ctor_5 : decode bm_Mo_ctor 5 = .ok (.iconst 2, 1) := by decide +kernel
theorem dd_Mo_ctor_6 : decode bm_Mo_ctor 6 = .ok (.newarray .int, 2) := by decide +kernel
theorem dd_Mo_ctor_8 : decode bm_Mo_ctor 8 = .ok (.putfield 7, 3) := by decide +kernel
theorem dd_Mo_ctor_11 : decode bm_Mo_ctor 11 = .ok (.aload_n 0, 1) := by decide +kernel
theorem dd_Mo_ctor_12 : decode bm_Mo_ctor 12 = .ok (.sipush 2200, 3) := by decide +kernel
theorem dd_Mo_ctor_15 : decode bm_Mo_ctor 15 = .ok (.newarray .boolean, 2) := by decide +kernel
theorem dd_Mo_ctor_17 : decode bm_Mo_ctor 17 = .ok (.putfield 13, 3) := by decide +kernel
theorem dd_Mo_ctor_20 : decode bm_Mo_ctor 20 = .ok (.aload_n 0, 1) := by decide +kernel
theorem dd_Mo_ctor_21 : decode bm_Mo_ctor 21 = .ok (.iconst 2, 1) := by decide +kernel
theorem dd_Mo_ctor_22 : decode bm_Mo_ctor 22 = .ok (.newarray .int, 2) := by decide +kernel
theorem dd_Mo_ctor_24 : decode bm_Mo_ctor 24 = .ok (.putfield 17, 3) := by decide +kernel
theorem dd_Mo_ctor_27 : decode bm_Mo_ctor 27 = .ok (.aload_n 0, 1) := by decide +kernel
theorem dd_Mo_ctor_28 : decode bm_Mo_ctor 28 = .ok (.bipush 16, 2) := by decide +kernel
theorem dd_Mo_ctor_30 : decode bm_Mo_ctor 30 = .ok (.newarray .int, 2) := by decide +kernel
theorem dd_Mo_ctor_32 : decode bm_Mo_ctor 32 = .ok (.putfield 20, 3) := by decide +kernel
theorem dd_Mo_ctor_35 : decode bm_Mo_ctor 35 = .ok (.aload_n 0, 1) := by decide +kernel
theorem dd_Mo_ctor_36 : decode bm_Mo_ctor 36 = .ok (.sipush 2048, 3) := by decide +kernel
theorem dd_Mo_ctor_39 : decode bm_Mo_ctor 39 = .ok (.newarray .int, 2) := by decide +kernel
theorem dd_Mo_ctor_41 : decode bm_Mo_ctor 41 = .ok (.putfield 23, 3) := by decide +kernel
theorem dd_Mo_ctor_44 : decode bm_Mo_ctor 44 = .ok (.aload_n 0, 1) := by decide +kernel
theorem dd_Mo_ctor_45 : decode bm_Mo_ctor 45 = .ok (.sipush 2048, 3) := by decide +kernel
theorem dd_Mo_ctor_48 : decode bm_Mo_ctor 48 = .ok (.newarray .int, 2) := by decide +kernel
theorem dd_Mo_ctor_50 : decode bm_Mo_ctor 50 = .ok (.putfield 26, 3) := by decide +kernel
theorem dd_Mo_ctor_53 : decode bm_Mo_ctor 53 = .ok (.aload_n 0, 1) := by decide +kernel
theorem dd_Mo_ctor_54 : decode bm_Mo_ctor 54 = .ok (.bipush 6, 2) := by decide +kernel
theorem dd_Mo_ctor_56 : decode bm_Mo_ctor 56 = .ok (.newarray .int, 2) := by decide +kernel
theorem dd_Mo_ctor_58 : decode bm_Mo_ctor 58 = .ok (.putfield 29, 3) := by decide +kernel
theorem dd_Mo_ctor_61 : decode bm_Mo_ctor 61 = .ok (.aload_n 0, 1) := by decide +kernel
theorem dd_Mo_ctor_62 : decode bm_Mo_ctor 62 = .ok (.bipush 6, 2) := by decide +kernel
theorem dd_Mo_ctor_64 : decode bm_Mo_ctor 64 = .ok (.newarray .boolean, 2) := by decide +kernel
theorem dd_Mo_ctor_66 : decode bm_Mo_ctor 66 = .ok (.putfield 32, 3) := by decide +kernel
theorem dd_Mo_ctor_69 : decode bm_Mo_ctor 69 = .ok (.aload_n 0, 1) := by decide +kernel
theorem dd_Mo_ctor_70 : decode bm_Mo_ctor 70 = .ok (.bipush 6, 2) := by decide +kernel
theorem dd_Mo_ctor_72 : decode bm_Mo_ctor 72 = .ok (.newarray .int, 2) := by decide +kernel
theorem dd_Mo_ctor_74 : decode bm_Mo_ctor 74 = .ok (.putfield 35, 3) := by decide +kernel
theorem dd_Mo_ctor_77 : decode bm_Mo_ctor 77 = .ok (.aload_n 0, 1) := by decide +kernel
theorem dd_Mo_ctor_78 : decode bm_Mo_ctor 78 = .ok (.bipush 6, 2) := by decide +kernel
theorem dd_Mo_ctor_80 : decode bm_Mo_ctor 80 = .ok (.newarray .int, 2) := by decide +kernel
theorem dd_Mo_ctor_82 : decode bm_Mo_ctor 82 = .ok (.dup, 1) := by decide +kernel
theorem dd_Mo_ctor_83 : decode bm_Mo_ctor 83 = .ok (.iconst 0, 1) := by decide +kernel
theorem dd_Mo_ctor_84 : decode bm_Mo_ctor 84 = .ok (.iconst 1, 1) := by decide +kernel
theorem dd_Mo_ctor_85 : decode bm_Mo_ctor 85 = .ok (.iastore, 1) := by decide +kernel
theorem dd_Mo_ctor_86 : decode bm_Mo_ctor 86 = .ok (.dup, 1) := by decide +kernel
theorem dd_Mo_ctor_87 : decode bm_Mo_ctor 87 = .ok (.iconst 1, 1) := by decide +kernel
theorem dd_Mo_ctor_88 : decode bm_Mo_ctor 88 = .ok (.iconst 1, 1) := by decide +kernel
theorem dd_Mo_ctor_89 : decode bm_Mo_ctor 89 = .ok (.iastore, 1) := by decide +kernel
theorem dd_Mo_ctor_90 : decode bm_Mo_ctor 90 = .ok (.dup, 1) := by decide +kernel
theorem dd_Mo_ctor_91 : decode bm_Mo_ctor 91 = .ok (.iconst 2, 1) := by decide +kernel
theorem dd_Mo_ctor_92 : decode bm_Mo_ctor 92 = .ok (.iconst 1, 1) := by decide +kernel
theorem dd_Mo_ctor_93 : decode bm_Mo_ctor 93 = .ok (.iastore, 1) := by decide +kernel
theorem dd_Mo_ctor_94 : decode bm_Mo_ctor 94 = .ok (.dup, 1) := by decide +kernel
theorem dd_Mo_ctor_95 : decode bm_Mo_ctor 95 = .ok (.iconst 3, 1) := by decide +kernel
theorem dd_Mo_ctor_96 : decode bm_Mo_ctor 96 = .ok (.iconst 1, 1) := by decide +kernel
theorem dd_Mo_ctor_97 : decode bm_Mo_ctor 97 = .ok (.iastore, 1) := by decide +kernel
theorem dd_Mo_ctor_98 : decode bm_Mo_ctor 98 = .ok (.dup, 1) := by decide +kernel
theorem dd_Mo_ctor_99 : decode bm_Mo_ctor 99 = .ok (.iconst 4, 1) := by decide +kernel
theorem dd_Mo_ctor_100 : decode bm_Mo_ctor 100 = .ok (.iconst 1, 1) := by decide +kernel
theorem dd_Mo_ctor_101 : decode bm_Mo_ctor 101 = .ok (.iastore, 1) := by decide +kernel
theorem dd_Mo_ctor_102 : decode bm_Mo_ctor 102 = .ok (.dup, 1) := by decide +kernel
theorem dd_Mo_ctor_103 : decode bm_Mo_ctor 103 = .ok (.iconst 5, 1) := by decide +kernel
theorem dd_Mo_ctor_104 : decode bm_Mo_ctor 104 = .ok (.iconst 1, 1) := by decide +kernel
theorem dd_Mo_ctor_105 : decode bm_Mo_ctor 105 = .ok (.iastore, 1) := by decide +kernel
theorem dd_Mo_ctor_106 : decode bm_Mo_ctor 106 = .ok (.putfield 38, 3) := by decide +kernel
theorem dd_Mo_ctor_109 : decode bm_Mo_ctor 109 = .ok (.aload_n 0, 1) := by decide +kernel
theorem dd_Mo_ctor_110 : decode bm_Mo_ctor 110 = .ok (.bipush 6, 2) := by decide +kernel
theorem dd_Mo_ctor_112 : decode bm_Mo_ctor 112 = .ok (.newarray .int, 2) := by decide +kernel
theorem dd_Mo_ctor_114 : decode bm_Mo_ctor 114 = .ok (.dup, 1) := by decide +kernel
theorem dd_Mo_ctor_115 : decode bm_Mo_ctor 115 = .ok (.iconst 0, 1) := by decide +kernel
theorem dd_Mo_ctor_116 : decode bm_Mo_ctor 116 = .ok (.iconst 1, 1) := by decide +kernel
theorem dd_Mo_ctor_117 : decode bm_Mo_ctor 117 = .ok (.iastore, 1) := by decide +kernel
theorem dd_Mo_ctor_118 : decode bm_Mo_ctor 118 = .ok (.dup, 1) := by decide +kernel
theorem dd_Mo_ctor_119 : decode bm_Mo_ctor 119 = .ok (.iconst 1, 1) := by decide +kernel
theorem dd_Mo_ctor_120 : decode bm_Mo_ctor 120 = .ok (.iconst 1, 1) := by decide +kernel
theorem dd_Mo_ctor_121 : decode bm_Mo_ctor 121 = .ok (.iastore, 1) := by decide +kernel
theorem dd_Mo_ctor_122 : decode bm_Mo_ctor 122 = .ok (.dup, 1) := by decide +kernel
theorem dd_Mo_ctor_123 : decode bm_Mo_ctor 123 = .ok (.iconst 2, 1) := by decide +kernel
theorem dd_Mo_ctor_124 : decode bm_Mo_ctor 124 = .ok (.iconst 1, 1) := by decide +kernel
theorem dd_Mo_ctor_125 : decode bm_Mo_ctor 125 = .ok (.iastore, 1) := by decide +kernel
theorem dd_Mo_ctor_126 : decode bm_Mo_ctor 126 = .ok (.dup, 1) := by decide +kernel
theorem dd_Mo_ctor_127 : decode bm_Mo_ctor 127 = .ok (.iconst 3, 1) := by decide +kernel
theorem dd_Mo_ctor_128 : decode bm_Mo_ctor 128 = .ok (.iconst 1, 1) := by decide +kernel
theorem dd_Mo_ctor_129 : decode bm_Mo_ctor 129 = .ok (.iastore, 1) := by decide +kernel
theorem dd_Mo_ctor_130 : decode bm_Mo_ctor 130 = .ok (.dup, 1) := by decide +kernel
theorem dd_Mo_ctor_131 : decode bm_Mo_ctor 131 = .ok (.iconst 4, 1) := by decide +kernel
theorem dd_Mo_ctor_132 : decode bm_Mo_ctor 132 = .ok (.iconst 1, 1) := by decide +kernel
theorem dd_Mo_ctor_133 : decode bm_Mo_ctor 133 = .ok (.iastore, 1) := by decide +kernel
theorem dd_Mo_ctor_134 : decode bm_Mo_ctor 134 = .ok (.dup, 1) := by decide +kernel
theorem dd_Mo_ctor_135 : decode bm_Mo_ctor 135 = .ok (.iconst 5, 1) := by decide +kernel
theorem dd_Mo_ctor_136 : decode bm_Mo_ctor 136 = .ok (.iconst 1, 1) := by decide +kernel
theorem dd_Mo_ctor_137 : decode bm_Mo_ctor 137 = .ok (.iastore, 1) := by decide +kernel
theorem dd_Mo_ctor_138 : decode bm_Mo_ctor 138 = .ok (.putfield 41, 3) := by decide +kernel
theorem dd_Mo_ctor_141 : decode bm_Mo_ctor 141 = .ok (.aload_n 0, 1) := by decide +kernel
theorem dd_Mo_ctor_142 : decode bm_Mo_ctor 142 = .ok (.bipush 78, 2) := by decide +kernel
theorem dd_Mo_ctor_144 : decode bm_Mo_ctor 144 = .ok (.newarray .int, 2) := by decide +kernel
theorem dd_Mo_ctor_146 : decode bm_Mo_ctor 146 = .ok (.putfield 44, 3) := by decide +kernel
theorem dd_Mo_ctor_149 : decode bm_Mo_ctor 149 = .ok (.aload_n 0, 1) := by decide +kernel
theorem dd_Mo_ctor_150 : decode bm_Mo_ctor 150 = .ok (.bipush 78, 2) := by decide +kernel
theorem dd_Mo_ctor_152 : decode bm_Mo_ctor 152 = .ok (.newarray .int, 2) := by decide +kernel
theorem dd_Mo_ctor_154 : decode bm_Mo_ctor 154 = .ok (.putfield 47, 3) := by decide +kernel
theorem dd_Mo_ctor_157 : decode bm_Mo_ctor 157 = .ok (.aload_n 0, 1) := by decide +kernel
theorem dd_Mo_ctor_158 : decode bm_Mo_ctor 158 = .ok (.bipush 78, 2) := by decide +kernel
theorem dd_Mo_ctor_160 : decode bm_Mo_ctor 160 = .ok (.newarray .int, 2) := by decide +kernel
theorem dd_Mo_ctor_162 : decode bm_Mo_ctor 162 = .ok (.putfield 50, 3) := by decide +kernel
theorem dd_Mo_ctor_165 : decode bm_Mo_ctor 165 = .ok (.aload_n 0, 1) := by decide +kernel
theorem dd_Mo_ctor_166 : decode bm_Mo_ctor 166 = .ok (.bipush 78, 2) := by decide +kernel
theorem dd_Mo_ctor_168 : decode bm_Mo_ctor 168 = .ok (.newarray .int, 2) := by decide +kernel
theorem dd_Mo_ctor_170 : decode bm_Mo_ctor 170 = .ok (.putfield 53, 3) := by decide +kernel
theorem dd_Mo_ctor_173 : decode bm_Mo_ctor 173 = .ok (.aload_n 0, 1) := by decide +kernel
theorem dd_Mo_ctor_174 : decode bm_Mo_ctor 174 = .ok (.bipush 78, 2) := by decide +kernel
theorem dd_Mo_ctor_176 : decode bm_Mo_ctor 176 = .ok (.newarray .int, 2) := by decide +kernel
theorem dd_Mo_ctor_178 : decode bm_Mo_ctor 178 = .ok (.putfield 56, 3) := by decide +kernel
theorem dd_Mo_ctor_181 : decode bm_Mo_ctor 181 = .ok (.aload_n 0, 1) := by decide +kernel
theorem dd_Mo_ctor_182 : decode bm_Mo_ctor 182 = .ok (.bipush 78, 2) := by decide +kernel
theorem dd_Mo_ctor_184 : decode bm_Mo_ctor 184 = .ok (.newarray .int, 2) := by decide +kernel
theorem dd_Mo_ctor_186 : decode bm_Mo_ctor 186 = .ok (.putfield 59, 3) := by decide +kernel
theorem dd_Mo_ctor_189 : decode bm_Mo_ctor 189 = .ok (.aload_n 0, 1) := by decide +kernel
theorem dd_Mo_ctor_190 : decode bm_Mo_ctor 190 = .ok (.bipush 78, 2) := by decide +kernel
theorem dd_Mo_ctor_192 : decode bm_Mo_ctor 192 = .ok (.newarray .int, 2) := by decide +kernel
theorem dd_Mo_ctor_194 : decode bm_Mo_ctor 194 = .ok (.putfield 62, 3) := by decide +kernel
theorem dd_Mo_ctor_197 : decode bm_Mo_ctor 197 = .ok (.aload_n 0, 1) := by decide +kernel
theorem dd_Mo_ctor_198 : decode bm_Mo_ctor 198 = .ok (.bipush 48, 2) := by decide +kernel
theorem dd_Mo_ctor_200 : decode bm_Mo_ctor 200 = .ok (.newarray .int, 2) := by decide +kernel
theorem dd_Mo_ctor_202 : decode bm_Mo_ctor 202 = .ok (.putfield 65, 3) := by decide +kernel
theorem dd_Mo_ctor_205 : decode bm_Mo_ctor 205 = .ok (.aload_n 0, 1) := by decide +kernel
theorem dd_Mo_ctor_206 : decode bm_Mo_ctor 206 = .ok (.bipush 36, 2) := by decide +kernel
theorem dd_Mo_ctor_208 : decode bm_Mo_ctor 208 = .ok (.newarray .int, 2) := by decide +kernel
theorem dd_Mo_ctor_210 : decode bm_Mo_ctor 210 = .ok (.putfield 68, 3) := by decide +kernel
theorem dd_Mo_ctor_213 : decode bm_Mo_ctor 213 = .ok (.aload_n 0, 1) := by decide +kernel
theorem dd_Mo_ctor_214 : decode bm_Mo_ctor 214 = .ok (.iconst 2, 1) := by decide +kernel
theorem dd_Mo_ctor_215 : decode bm_Mo_ctor 215 = .ok (.newarray .int, 2) := by decide +kernel
theorem dd_Mo_ctor_217 : decode bm_Mo_ctor 217 = .ok (.putfield 71, 3) := by decide +kernel
theorem dd_Mo_ctor_220 : decode bm_Mo_ctor 220 = .ok (.aload_n 0, 1) := by decide +kernel
theorem dd_Mo_ctor_221 : decode bm_Mo_ctor 221 = .ok (.bipush 12, 2) := by decide +kernel
theorem dd_Mo_ctor_223 : decode bm_Mo_ctor 223 = .ok (.newarray .int, 2) := by decide +kernel
theorem dd_Mo_ctor_225 : decode bm_Mo_ctor 225 = .ok (.putfield 74, 3) := by decide +kernel
theorem dd_Mo_ctor_228 : decode bm_Mo_ctor 228 = .ok (.aload_n 0, 1) := by decide +kernel
theorem dd_Mo_ctor_229 : decode bm_Mo_ctor 229 = .ok (.bipush 12, 2) := by decide +kernel
theorem dd_Mo_ctor_231 : decode bm_Mo_ctor 231 = .ok (.newarray .int, 2) := by decide +kernel
theorem dd_Mo_ctor_233 : decode bm_Mo_ctor 233 = .ok (.putfield 77, 3) := by decide +kernel
theorem dd_Mo_ctor_236 : decode bm_Mo_ctor 236 = .ok (.aload_n 0, 1) := by decide +kernel
theorem dd_Mo_ctor_237 : decode bm_Mo_ctor 237 = .ok (.bipush 16, 2) := by decide +kernel
theorem dd_Mo_ctor_239 : decode bm_Mo_ctor 239 = .ok (.newarray .int, 2) := by decide +kernel
theorem dd_Mo_ctor_241 : decode bm_Mo_ctor 241 = .ok (.putfield 80, 3) := by decide +kernel
theorem dd_Mo_ctor_244 : decode bm_Mo_ctor 244 = .ok (.aload_n 0, 1) := by decide +kernel
theorem dd_Mo_ctor_245 : decode bm_Mo_ctor 245 = .ok (.bipush 16, 2) := by decide +kernel
theorem dd_Mo_ctor_247 : decode bm_Mo_ctor 247 = .ok (.newarray .int, 2) := by decide +kernel
theorem dd_Mo_ctor_249 : decode bm_Mo_ctor 249 = .ok (.putfield 83, 3) := by decide +kernel
theorem dd_Mo_ctor_252 : decode bm_Mo_ctor 252 = .ok (.aload_n 0, 1) := by decide +kernel
theorem dd_Mo_ctor_253 : decode bm_Mo_ctor 253 = .ok (.iload_n 1, 1) := by decide +kernel
theorem dd_Mo_ctor_254 : decode bm_Mo_ctor 254 = .ok (.iconst 1, 1) := by decide +kernel
theorem dd_Mo_ctor_255 : decode bm_Mo_ctor 255 = .ok (.if_icmp .lt 9, 3) := by decide +kernel
theorem dd_Mo_ctor_258 : decode bm_Mo_ctor 258 = .ok (.iload_n 1, 1) := by decide +kernel
theorem dd_Mo_ctor_259 : decode bm_Mo_ctor 259 = .ok (.bipush 16, 2) := by decide +kernel
theorem dd_Mo_ctor_261 : decode bm_Mo_ctor 261 = .ok (.if_icmp .le 7, 3) := by decide +kernel
theorem dd_Mo_ctor_264 : decode bm_Mo_ctor 264 = .ok (.iconst 4, 1) := by decide +kernel
theorem dd_Mo_ctor_265 : decode bm_Mo_ctor 265 = .ok (.goto 4, 3) := by decide +kernel
theorem dd_Mo_ctor_268 : decode bm_Mo_ctor 268 = .ok (.iload_n 1, 1) := by decide +kernel
theorem dd_Mo_ctor_269 : decode bm_Mo_ctor 269 = .ok (.putfield 86, 3) := by decide +kernel
theorem dd_Mo_ctor_272 : decode bm_Mo_ctor 272 = .ok (.iconst 0, 1) := by decide +kernel
theorem dd_Mo_ctor_273 : decode bm_Mo_ctor 273 = .ok (.istore_n 2, 1) := by decide +kernel
theorem dd_Mo_ctor_274 : decode bm_Mo_ctor 274 = .ok (.iload_n 2, 1) := by decide +kernel
theorem dd_Mo_ctor_275 : decode bm_Mo_ctor 275 = .ok (.iconst 2, 1) := by decide +kernel
theorem dd_Mo_ctor_276 : decode bm_Mo_ctor 276 = .ok (.if_icmp .ge 39, 3) := by decide +kernel
theorem dd_Mo_ctor_279 : decode bm_Mo_ctor 279 = .ok (.iconst 0, 1) := by decide +kernel
theorem dd_Mo_ctor_280 : decode bm_Mo_ctor 280 = .ok (.istore_n 3, 1) := by decide +kernel
theorem dd_Mo_ctor_281 : decode bm_Mo_ctor 281 = .ok (.iload_n 3, 1) := by decide +kernel
theorem dd_Mo_ctor_282 : decode bm_Mo_ctor 282 = .ok (.iconst 4, 1) := by decide +kernel
theorem dd_Mo_ctor_283 : decode bm_Mo_ctor 283 = .ok (.if_icmp .ge 26, 3) := by decide +kernel
theorem dd_Mo_ctor_286 : decode bm_Mo_ctor 286 = .ok (.aload_n 0, 1) := by decide +kernel
theorem dd_Mo_ctor_287 : decode bm_Mo_ctor 287 = .ok (.getfield 65, 3) := by decide +kernel
theorem dd_Mo_ctor_290 : decode bm_Mo_ctor 290 = .ok (.bipush 24, 2) := by decide +kernel
theorem dd_Mo_ctor_292 : decode bm_Mo_ctor 292 = .ok (.iload_n 2, 1) := by decide +kernel
theorem dd_Mo_ctor_293 : decode bm_Mo_ctor 293 = .ok (.imul, 1) := by decide +kernel
theorem dd_Mo_ctor_294 : decode bm_Mo_ctor 294 = .ok (.bipush 6, 2) := by decide +kernel
theorem dd_Mo_ctor_296 : decode bm_Mo_ctor 296 = .ok (.iload_n 3, 1) := by decide +kernel
theorem dd_Mo_ctor_297 : decode bm_Mo_ctor 297 = .ok (.imul, 1) := by decide +kernel
theorem dd_Mo_ctor_298 : decode bm_Mo_ctor 298 = .ok (.iadd, 1) := by decide +kernel
theorem dd_Mo_ctor_299 : decode bm_Mo_ctor 299 = .ok (.sipush 1000, 3) := by decide +kernel
theorem dd_Mo_ctor_302 : decode bm_Mo_ctor 302 = .ok (.iastore, 1) := by decide +kernel
theorem dd_Mo_ctor_303 : decode bm_Mo_ctor 303 = .ok (.iinc 3 1, 3) := by decide +kernel
theorem dd_Mo_ctor_306 : decode bm_Mo_ctor 306 = .ok (.goto (-25), 3) := by decide +kernel
theorem dd_Mo_ctor_309 : decode bm_Mo_ctor 309 = .ok (.iinc 2 1, 3) := by decide +kernel
theorem dd_Mo_ctor_312 : decode bm_Mo_ctor 312 = .ok (.goto (-38), 3) := by decide +kernel
theorem dd_Mo_ctor_315 : decode bm_Mo_ctor 315 = .ok (.return_, 1) := by decide +kernel
