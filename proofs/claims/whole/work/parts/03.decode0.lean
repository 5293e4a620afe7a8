theorem dd_TL_ctor_0 : decode bm_TL_ctor 0 = .ok (.aload_n 0, 1) := by decide +kernel
theorem dd_TL_ctor_1 : decode bm_TL_ctor 1 = .ok (.invokespecial 1, 3) := by decide +kernel
theorem dd_TL_ctor_4 : decode bm_TL_ctor 4 = .ok (.aload_n 0, 1) := by decide +kernel
theorem dd_TL_ctor_5 : decode bm_TL_ctor 5 = .ok (.iconst 2, 1) := by decide +kernel
theorem dd_TL_ctor_6 : decode bm_TL_ctor 6 = .ok (.anewarray 9, 3) := by decide +kernel
theorem dd_TL_ctor_9 : decode bm_TL_ctor 9 = .ok (.putfield 11, 3) := by decide +kernel
theorem dd_TL_ctor_12 : decode bm_TL_ctor 12 = .ok (.aload_n 0, 1) := by decide +kernel
theorem dd_TL_ctor_13 : decode bm_TL_ctor 13 = .ok (.iload_n 1, 1) := by decide +kernel
theorem dd_TL_ctor_14 : decode bm_TL_ctor 14 = .ok (.iconst 1, 1) := by decide +kernel
theorem dd_TL_ctor_15 : decode bm_TL_ctor 15 = .ok (.if_icmp .lt 13, 3) := by decide +kernel
theorem dd_TL_ctor_18 : decode bm_TL_ctor 18 = .ok (.iload_n 1, 1) := by decide +kernel
theorem dd_TL_ctor_19 : decode bm_TL_ctor 19 = .ok (.bipush 16, 2) := by decide +kernel
theorem dd_TL_ctor_21 : decode bm_TL_ctor 21 = .ok (.if_icmp .gt 7, 3) := by decide +kernel
theorem dd_TL_ctor_24 : decode bm_TL_ctor 24 = .ok (.iload_n 1, 1) := by decide +kernel
theorem dd_TL_ctor_25 : decode bm_TL_ctor 25 = .ok (.goto 4, 3) := by decide +kernel
theorem dd_TL_ctor_28 : decode bm_TL_ctor 28 = .ok (.iconst 4, 1) := by decide +kernel
theorem dd_TL_ctor_29 : decode bm_TL_ctor 29 = .ok (.putfield 15, 3) := by decide +kernel
theorem dd_TL_ctor_32 : decode bm_TL_ctor 32 = .ok (.iconst 0, 1) := by decide +kernel
theorem dd_TL_ctor_33 : decode bm_TL_ctor 33 = .ok (.istore_n 2, 1) := by decide +kernel
theorem dd_TL_ctor_34 : decode bm_TL_ctor 34 = .ok (.iload_n 2, 1) := by decide +kernel
theorem dd_TL_ctor_35 : decode bm_TL_ctor 35 = .ok (.iconst 2, 1) := by decide +kernel
theorem dd_TL_ctor_36 : decode bm_TL_ctor 36 = .ok (.if_icmp .ge 22, 3) := by decide +kernel
theorem dd_TL_ctor_39 : decode bm_TL_ctor 39 = .ok (.aload_n 0, 1) := by decide +kernel
theorem dd_TL_ctor_40 : decode bm_TL_ctor 40 = .ok (.getfield 11, 3) := by decide +kernel
theorem dd_TL_ctor_43 : decode bm_TL_ctor 43 = .ok (.iload_n 2, 1) := by decide +kernel
theorem dd_TL_ctor_44 : decode bm_TL_ctor 44 = .ok (.new 9, 3) := by decide +kernel
theorem dd_TL_ctor_47 : decode bm_TL_ctor 47 = .ok (.dup, 1) := by decide +kernel
theorem dd_TL_ctor_48 : decode bm_TL_ctor 48 = .ok (.invokespecial 19, 3) := by decide +kernel
theorem dd_TL_ctor_51 : decode bm_TL_ctor 51 = .ok (.aastore, 1) := by decide +kernel
theorem dd_TL_ctor_52 : decode bm_TL_ctor 52 = .ok (.iinc 2 1, 3) := by decide +kernel
theorem dd_TL_ctor_55 : decode bm_TL_ctor 55 = .ok (.goto (-21), 3) := by decide +kernel
theorem dd_TL_ctor_58 : decode bm_TL_ctor 58 = .ok (.return_, 1) := by decide +kernel
theorem dd_TL_tick_0 : decode bm_TL_tick 0 = .ok (.iload_n 1, 1) := by decide +kernel
theorem dd_TL_tick_1 : decode bm_TL_tick 1 = .ok (.invokestatic 20, 3) := by decide +kernel
theorem dd_TL_tick_4 : decode bm_TL_tick 4 = .ok (.ifCond .eq 15, 3) := by decide +kernel
theorem dd_TL_tick_7 : decode bm_TL_tick 7 = .ok (.aload_n 0, 1) := by decide +kernel
theorem dd_TL_tick_8 : decode bm_TL_tick 8 = .ok (.getfield 11, 3) := by decide +kernel
theorem dd_TL_tick_11 : decode bm_TL_tick 11 = .ok (.iload_n 1, 1) := by decide +kernel
theorem dd_TL_tick_12 : decode bm_TL_tick 12 = .ok (.aaload, 1) := by decide +kernel
theorem dd_TL_tick_13 : decode bm_TL_tick 13 = .ok (.invokevirtual 24, 3) := by decide +kernel
theorem dd_TL_tick_16 : decode bm_TL_tick 16 = .ok (.goto 4, 3) := by decide +kernel
theorem dd_TL_tick_19 : decode bm_TL_tick 19 = .ok (.iconst (-1), 1) := by decide +kernel
theorem dd_TL_tick_20 : decode bm_TL_tick 20 = .ok (.ireturn, 1) := by decide +kernel
theorem dd_TL_update_0 : decode bm_TL_update 0 = .ok (.iload_n 1, 1) := by decide +kernel
theorem dd_TL_update_1 : decode bm_TL_update 1 = .ok (.invokestatic 20, 3) := by decide +kernel
theorem dd_TL_update_4 : decode bm_TL_update 4 = .ok (.ifCond .eq 23, 3) := by decide +kernel
theorem dd_TL_update_7 : decode bm_TL_update 7 = .ok (.iload_n 2, 1) := by decide +kernel
theorem dd_TL_update_8 : decode bm_TL_update 8 = .ok (.iconst 1, 1) := by decide +kernel
theorem dd_TL_update_9 : decode bm_TL_update 9 = .ok (.if_icmp .lt 18, 3) := by decide +kernel
theorem dd_TL_update_12 : decode bm_TL_update 12 = .ok (.iload_n 2, 1) := by decide +kernel
theorem dd_TL_update_13 : decode bm_TL_update 13 = .ok (.aload_n 0, 1) := by decide +kernel
theorem dd_TL_update_14 : decode bm_TL_update 14 = .ok (.getfield 11, 3) := by decide +kernel
theorem dd_TL_update_17 : decode bm_TL_update 17 = .ok (.iconst 1, 1) := by decide +kernel
theorem dd_TL_update_18 : decode bm_TL_update 18 = .ok (.iload_n 1, 1) := by decide +kernel
theorem dd_TL_update_19 : decode bm_TL_update 19 = .ok (.isub, 1) := by decide +kernel
theorem dd_TL_update_20 : decode bm_TL_update 20 = .ok (.aaload, 1) := by decide +kernel
theorem dd_TL_update_21 : decode bm_TL_update 21 = .ok (.getfield 28, 3) := by decide +kernel
theorem dd_TL_update_24 : decode bm_TL_update 24 = .ok (.if_icmp .le 5, 3) := by decide +kernel
theorem dd_TL_update_27 : decode bm_TL_update 27 = .ok (.iconst (-1), 1) := by decide +kernel
theorem dd_TL_update_28 : decode bm_TL_update 28 = .ok (.ireturn, 1) := by decide +kernel
theorem dd_TL_update_29 : decode bm_TL_update 29 = .ok (.iload 4, 2) := by decide +kernel
theorem dd_TL_update_31 : decode bm_TL_update 31 = .ok (.ifCond .ne 14, 3) := by decide +kernel
theorem dd_TL_update_34 : decode bm_TL_update 34 = .ok (.iload_n 3, 1) := by decide +kernel
theorem dd_TL_update_35 : decode bm_TL_update 35 = .ok (.bipush 15, 2) := by decide +kernel
theorem dd_TL_update_37 : decode bm_TL_update 37 = .ok (.iand, 1) := by decide +kernel
theorem dd_TL_update_38 : decode bm_TL_update 38 = .ok (.invokestatic 31, 3) := by decide +kernel
theorem dd_TL_update_41 : decode bm_TL_update 41 = .ok (.iconst 3, 1) := by decide +kernel
theorem dd_TL_update_42 : decode bm_TL_update 42 = .ok (.if_icmp .ge 6, 3) := by decide +kernel
theorem dd_TL_update_45 : decode bm_TL_update 45 = .ok (.bipush (-6), 2) := by decide +kernel
theorem dd_TL_update_47 : decode bm_TL_update 47 = .ok (.ireturn, 1) := by decide +kernel
theorem dd_TL_update_48 : decode bm_TL_update 48 = .ok (.aload_n 0, 1) := by decide +kernel
theorem dd_TL_update_49 : decode bm_TL_update 49 = .ok (.getfield 11, 3) := by decide +kernel
theorem dd_TL_update_52 : decode bm_TL_update 52 = .ok (.iload_n 1, 1) := by decide +kernel
theorem dd_TL_update_53 : decode bm_TL_update 53 = .ok (.aaload, 1) := by decide +kernel
theorem dd_TL_update_54 : decode bm_TL_update 54 = .ok (.getfield 37, 3) := by decide +kernel
theorem dd_TL_update_57 : decode bm_TL_update 57 = .ok (.iload_n 2, 1) := by decide +kernel
theorem dd_TL_update_58 : decode bm_TL_update 58 = .ok (.invokevirtual 41, 3) := by decide +kernel
theorem dd_TL_update_61 : decode bm_TL_update 61 = .ok (.iconst 0, 1) := by decide +kernel
theorem dd_TL_update_62 : decode bm_TL_update 62 = .ok (.ireturn, 1) := by decide +kernel
theorem dd_TL_init_0 : decode bm_TL_init 0 = .ok (.iload_n 1, 1) := by decide +kernel
theorem dd_TL_init_1 : decode bm_TL_init 1 = .ok (.iload_n 2, 1) := by decide +kernel
theorem dd_TL_init_2 : decode bm_TL_init 2 = .ok (.invokestatic 47, 3) := by decide +kernel
theorem dd_TL_init_5 : decode bm_TL_init 5 = .ok (.ifCond .eq 17, 3) := by decide +kernel
theorem dd_TL_init_8 : decode bm_TL_init 8 = .ok (.aload_n 0, 1) := by decide +kernel
theorem dd_TL_init_9 : decode bm_TL_init 9 = .ok (.getfield 11, 3) := by decide +kernel
theorem dd_TL_init_12 : decode bm_TL_init 12 = .ok (.iload_n 1, 1) := by decide +kernel
theorem dd_TL_init_13 : decode bm_TL_init 13 = .ok (.aaload, 1) := by decide +kernel
theorem dd_TL_init_14 : decode bm_TL_init 14 = .ok (.iload_n 2, 1) := by decide +kernel
theorem dd_TL_init_15 : decode bm_TL_init 15 = .ok (.iload_n 3, 1) := by decide +kernel
theorem dd_TL_init_16 : decode bm_TL_init 16 = .ok (.invokevirtual 51, 3) := by decide +kernel
theorem dd_TL_init_19 : decode bm_TL_init 19 = .ok (.goto 4, 3) := by decide +kernel
theorem dd_TL_init_22 : decode bm_TL_init 22 = .ok (.iconst (-1), 1) := by decide +kernel
theorem dd_TL_init_23 : decode bm_TL_init 23 = .ok (.ireturn, 1) := by decide +kernel
theorem dd_TL_attempt_0 : decode bm_TL_attempt 0 = .ok (.iload_n 1, 1) := by decide +kernel
theorem dd_TL_attempt_1 : decode bm_TL_attempt 1 = .ok (.iload_n 2, 1) := by decide +kernel
theorem dd_TL_attempt_2 : decode bm_TL_attempt 2 = .ok (.invokestatic 47, 3) := by decide +kernel
theorem dd_TL_attempt_5 : decode bm_TL_attempt 5 = .ok (.ifCond .eq 27, 3) := by decide +kernel
theorem dd_TL_attempt_8 : decode bm_TL_attempt 8 = .ok (.aload_n 0, 1) := by decide +kernel
theorem dd_TL_attempt_9 : decode bm_TL_attempt 9 = .ok (.getfield 11, 3) := by decide +kernel
theorem dd_TL_attempt_12 : decode bm_TL_attempt 12 = .ok (.iload_n 1, 1) := by decide +kernel
theorem dd_TL_attempt_13 : decode bm_TL_attempt 13 = .ok (.aaload, 1) := by decide +kernel
theorem dd_TL_attempt_14 : decode bm_TL_attempt 14 = .ok (.aload_n 0, 1) := by decide +kernel
theorem dd_TL_attempt_15 : decode bm_TL_attempt 15 = .ok (.getfield 11, 3) := by decide +kernel
theorem dd_TL_attempt_18 : decode bm_TL_attempt 18 = .ok (.iconst 1, 1) := by decide +kernel
theorem dd_TL_attempt_19 : decode bm_TL_attempt 19 = .ok (.iload_n 1, 1) := by decide +kernel
theorem dd_TL_attempt_20 : decode bm_TL_attempt 20 = .ok (.isub, 1) := by decide +kernel
theorem dd_TL_attempt_21 : decode bm_TL_attempt 21 = .ok (.aaload, 1) := by decide +kernel
theorem dd_TL_attempt_22 : decode bm_TL_attempt 22 = .ok (.iload_n 2, 1) := by decide +kernel
theorem dd_TL_attempt_23 : decode bm_TL_attempt 23 = .ok (.iload_n 3, 1) := by decide +kernel
theorem dd_TL_attempt_24 : decode bm_TL_attempt 24 = .ok (.iload 4, 2) := by decide +kernel
theorem dd_TL_attempt_26 : decode bm_TL_attempt 26 = .ok (.invokevirtual 55, 3) := by decide +kernel
theorem dd_TL_attempt_29 : decode bm_TL_attempt 29 = .ok (.goto 4, 3) := by decide +kernel
theorem dd_TL_attempt_32 : decode bm_TL_attempt 32 = .ok (.iconst (-1), 1) := by decide +kernel
theorem dd_TL_attempt_33 : decode bm_TL_attempt 33 = .ok (.ireturn, 1) := by decide +kernel
theorem dd_TL_open_0 : decode bm_TL_open 0 = .ok (.iload_n 1, 1) := by decide +kernel
theorem dd_TL_open_1 : decode bm_TL_open 1 = .ok (.iload_n 2, 1) := by decide +kernel
theorem dd_TL_open_2 : decode bm_TL_open 2 = .ok (.invokestatic 47, 3) := by decide +kernel
theorem dd_TL_open_5 : decode bm_TL_open 5 = .ok (.ifCond .ne 5, 3) := by decide +kernel
theorem dd_TL_open_8 : decode bm_TL_open 8 = .ok (.iconst (-1), 1) := by decide +kernel
theorem dd_TL_open_9 : decode bm_TL_open 9 = .ok (.ireturn, 1) := by decide +kernel
theorem dd_TL_open_10 : decode bm_TL_open 10 = .ok (.aload_n 0, 1) := by decide +kernel
theorem dd_TL_open_11 : decode bm_TL_open 11 = .ok (.getfield 11, 3) := by decide +kernel
theorem dd_TL_open_14 : decode bm_TL_open 14 = .ok (.iload_n 1, 1) := by decide +kernel
theorem dd_TL_open_15 : decode bm_TL_open 15 = .ok (.aaload, 1) := by decide +kernel
theorem dd_TL_open_16 : decode bm_TL_open 16 = .ok (.astore 5, 2) := by decide +kernel
theorem dd_TL_open_18 : decode bm_TL_open 18 = .ok (.aload_n 0, 1) := by decide +kernel
theorem dd_TL_open_19 : decode bm_TL_open 19 = .ok (.getfield 11, 3) := by decide +kernel
theorem dd_TL_open_22 : decode bm_TL_open 22 = .ok (.iconst 1, 1) := by decide +kernel
theorem dd_TL_open_23 : decode bm_TL_open 23 = .ok (.iload_n 1, 1) := by decide +kernel
theorem dd_TL_open_24 : decode bm_TL_open 24 = .ok (.isub, 1) := by decide +kernel
theorem dd_TL_open_25 : decode bm_TL_open 25 = .ok (.aaload, 1) := by decide +kernel
theorem dd_TL_open_26 : decode bm_TL_open 26 = .ok (.astore 6, 2) := by decide +kernel
theorem dd_TL_open_28 : decode bm_TL_open 28 = .ok (.iload_n 3, 1) := by decide +kernel
theorem dd_TL_open_29 : decode bm_TL_open 29 = .ok (.tableswitch 69 0 2 #[27, 41, 55], 27) := by decide +kernel
theorem dd_TL_open_56 : decode bm_TL_open 56 = .ok (.aload 5, 2) := by decide +kernel
theorem dd_TL_open_58 : decode bm_TL_open 58 = .ok (.aload 6, 2) := by decide +kernel
theorem dd_TL_open_60 : decode bm_TL_open 60 = .ok (.iload_n 2, 1) := by decide +kernel
theorem dd_TL_open_61 : decode bm_TL_open 61 = .ok (.iload 4, 2) := by decide +kernel
theorem dd_TL_open_63 : decode bm_TL_open 63 = .ok (.iconst 1, 1) := by decide +kernel
theorem dd_TL_open_64 : decode bm_TL_open 64 = .ok (.iconst 2, 1) := by decide +kernel
theorem dd_TL_open_65 : decode bm_TL_open 65 = .ok (.iconst 3, 1) := by decide +kernel
theorem dd_TL_open_66 : decode bm_TL_open 66 = .ok (.invokevirtual 59, 3) := by decide +kernel
theorem dd_TL_open_69 : decode bm_TL_open 69 = .ok (.ireturn, 1) := by decide +kernel
theorem dd_TL_open_70 : decode bm_TL_open 70 = .ok (.aload 5, 2) := by decide +kernel
theorem dd_TL_open_72 : decode bm_TL_open 72 = .ok (.aload 6, 2) := by decide +kernel
theorem dd_TL_open_74 : decode bm_TL_open 74 = .ok (.iload_n 2, 1) := by decide +kernel
theorem dd_TL_open_75 : decode bm_TL_open 75 = .ok (.iload 4, 2) := by decide +kernel
theorem dd_TL_open_77 : decode bm_TL_open 77 = .ok (.iconst 2, 1) := by decide +kernel
theorem dd_TL_open_78 : decode bm_TL_open 78 = .ok (.iconst 3, 1) := by decide +kernel
theorem dd_TL_open_79 : decode bm_TL_open 79 = .ok (.iconst 3, 1) := by decide +kernel
theorem dd_TL_open_80 : decode bm_TL_open 80 = .ok (.invokevirtual 59, 3) := by decide +kernel
theorem dd_TL_open_83 : decode bm_TL_open 83 = .ok (.ireturn, 1) := by decide +kernel
theorem dd_TL_open_84 : decode bm_TL_open 84 = .ok (.aload 5, 2) := by decide +kernel
theorem dd_TL_open_86 : decode bm_TL_open 86 = .ok (.aload 6, 2) := by decide +kernel
theorem dd_TL_open_88 : decode bm_TL_open 88 = .ok (.iload_n 2, 1) := by decide +kernel
theorem dd_TL_open_89 : decode bm_TL_open 89 = .ok (.iload 4, 2) := by decide +kernel
theorem dd_TL_open_91 : decode bm_TL_open 91 = .ok (.iconst 3, 1) := by decide +kernel
theorem dd_TL_open_92 : decode bm_TL_open 92 = .ok (.iconst 4, 1) := by decide +kernel
theorem dd_TL_open_93 : decode bm_TL_open 93 = .ok (.iconst 4, 1) := by decide +kernel
theorem dd_TL_open_94 : decode bm_TL_open 94 = .ok (.invokevirtual 59, 3) := by decide +kernel
theorem dd_TL_open_97 : decode bm_TL_open 97 = .ok (.ireturn, 1) := by decide +kernel
theorem dd_TL_open_98 : decode bm_TL_open 98 = .ok (.iconst (-1), 1) := by decide +kernel
theorem dd_TL_open_99 : decode bm_TL_open 99 = .ok (.ireturn, 1) := by decide +kernel
theorem dd_TL_close_0 : decode bm_TL_close 0 = .ok (.iload_n 1, 1) := by decide +kernel
theorem dd_TL_close_1 : decode bm_TL_close 1 = .ok (.iload_n 2, 1) := by decide +kernel
theorem dd_TL_close_2 : decode bm_TL_close 2 = .ok (.invokestatic 47, 3) := by decide +kernel
theorem dd_TL_close_5 : decode bm_TL_close 5 = .ok (.ifCond .eq 16, 3) := by decide +kernel
theorem dd_TL_close_8 : decode bm_TL_close 8 = .ok (.aload_n 0, 1) := by decide +kernel
theorem dd_TL_close_9 : decode bm_TL_close 9 = .ok (.getfield 11, 3) := by decide +kernel
theorem dd_TL_close_12 : decode bm_TL_close 12 = .ok (.iload_n 1, 1) := by decide +kernel
theorem dd_TL_close_13 : decode bm_TL_close 13 = .ok (.aaload, 1) := by decide +kernel
theorem dd_TL_close_14 : decode bm_TL_close 14 = .ok (.iload_n 2, 1) := by decide +kernel
theorem dd_TL_close_15 : decode bm_TL_close 15 = .ok (.invokevirtual 63, 3) := by decide +kernel
theorem dd_TL_close_18 : decode bm_TL_close 18 = .ok (.goto 4, 3) := by decide +kernel
theorem dd_TL_close_21 : decode bm_TL_close 21 = .ok (.iconst (-1), 1) := by decide +kernel
theorem dd_TL_close_22 : decode bm_TL_close 22 = .ok (.ireturn, 1) := by decide +kernel
theorem dd_TL_send_0 : decode bm_TL_send 0 = .ok (.iload_n 1, 1) := by decide +kernel
theorem dd_TL_send_1 : decode bm_TL_send 1 = .ok (.iload_n 2, 1) := by decide +kernel
theorem dd_TL_send_2 : decode bm_TL_send 2 = .ok (.invokestatic 47, 3) := by decide +kernel
theorem dd_TL_send_5 : decode bm_TL_send 5 = .ok (.ifCond .eq 27, 3) := by decide +kernel
theorem dd_TL_send_8 : decode bm_TL_send 8 = .ok (.iload_n 3, 1) := by decide +kernel
theorem dd_TL_send_9 : decode bm_TL_send 9 = .ok (.ifCond .lt 23, 3) := by decide +kernel
theorem dd_TL_send_12 : decode bm_TL_send 12 = .ok (.iload_n 3, 1) := by decide +kernel
theorem dd_TL_send_13 : decode bm_TL_send 13 = .ok (.bipush 16, 2) := by decide +kernel
theorem dd_TL_send_15 : decode bm_TL_send 15 = .ok (.if_icmp .ge 17, 3) := by decide +kernel
theorem dd_TL_send_18 : decode bm_TL_send 18 = .ok (.iload 5, 2) := by decide +kernel
theorem dd_TL_send_20 : decode bm_TL_send 20 = .ok (.iconst 1, 1) := by decide +kernel
theorem dd_TL_send_21 : decode bm_TL_send 21 = .ok (.if_icmp .lt 11, 3) := by decide +kernel
theorem dd_TL_send_24 : decode bm_TL_send 24 = .ok (.iload 5, 2) := by decide +kernel
theorem dd_TL_send_26 : decode bm_TL_send 26 = .ok (.sipush 1000, 3) := by decide +kernel
theorem dd_TL_send_29 : decode bm_TL_send 29 = .ok (.if_icmp .le 5, 3) := by decide +kernel
theorem dd_TL_send_32 : decode bm_TL_send 32 = .ok (.iconst (-1), 1) := by decide +kernel
theorem dd_TL_send_33 : decode bm_TL_send 33 = .ok (.ireturn, 1) := by decide +kernel
theorem dd_TL_send_34 : decode bm_TL_send 34 = .ok (.aload_n 0, 1) := by decide +kernel
theorem dd_TL_send_35 : decode bm_TL_send 35 = .ok (.getfield 11, 3) := by decide +kernel
theorem dd_TL_send_38 : decode bm_TL_send 38 = .ok (.iload_n 1, 1) := by decide +kernel
theorem dd_TL_send_39 : decode bm_TL_send 39 = .ok (.aaload, 1) := by decide +kernel
theorem dd_TL_send_40 : decode bm_TL_send 40 = .ok (.getfield 66, 3) := by decide +kernel
theorem dd_TL_send_43 : decode bm_TL_send 43 = .ok (.iload 4, 2) := by decide +kernel
theorem dd_TL_send_45 : decode bm_TL_send 45 = .ok (.invokevirtual 70, 3) := by decide +kernel
theorem dd_TL_send_48 : decode bm_TL_send 48 = .ok (.ifCond .ne 5, 3) := by decide +kernel
theorem dd_TL_send_51 : decode bm_TL_send 51 = .ok (.iconst (-1), 1) := by decide +kernel
theorem dd_TL_send_52 : decode bm_TL_send 52 = .ok (.ireturn, 1) := by decide +kernel
theorem dd_TL_send_53 : decode bm_TL_send 53 = .ok (.aload_n 0, 1) := by decide +kernel
theorem dd_TL_send_54 : decode bm_TL_send 54 = .ok (.getfield 11, 3) := by decide +kernel
theorem dd_TL_send_57 : decode bm_TL_send 57 = .ok (.iload_n 1, 1) := by decide +kernel
theorem dd_TL_send_58 : decode bm_TL_send 58 = .ok (.aaload, 1) := by decide +kernel
theorem dd_TL_send_59 : decode bm_TL_send 59 = .ok (.iload_n 2, 1) := by decide +kernel
theorem dd_TL_send_60 : decode bm_TL_send 60 = .ok (.iload_n 3, 1) := by decide +kernel
theorem dd_TL_send_61 : decode bm_TL_send 61 = .ok (.iload 4, 2) := by decide +kernel
theorem dd_TL_send_63 : decode bm_TL_send 63 = .ok (.iload 5, 2) := by decide +kernel
theorem dd_TL_send_65 : decode bm_TL_send 65 = .ok (.aload_n 0, 1) := by decide +kernel
theorem dd_TL_send_66 : decode bm_TL_send 66 = .ok (.getfield 15, 3) := by decide +kernel
theorem dd_TL_send_69 : decode bm_TL_send 69 = .ok (.invokevirtual 75, 3) := by decide +kernel
theorem dd_TL_send_72 : decode bm_TL_send 72 = .ok (.ireturn, 1) := by decide +kernel
theorem dd_TL_receive_0 : decode bm_TL_receive 0 = .ok (.iload_n 1, 1) := by decide +kernel
theorem dd_TL_receive_1 : decode bm_TL_receive 1 = .ok (.iload_n 2, 1) := by decide +kernel
theorem dd_TL_receive_2 : decode bm_TL_receive 2 = .ok (.invokestatic 47, 3) := by decide +kernel
theorem dd_TL_receive_5 : decode bm_TL_receive 5 = .ok (.ifCond .eq 15, 3) := by decide +kernel
theorem dd_TL_receive_8 : decode bm_TL_receive 8 = .ok (.aload_n 0, 1) := by decide +kernel
theorem dd_TL_receive_9 : decode bm_TL_receive 9 = .ok (.iconst 1, 1) := by decide +kernel
theorem dd_TL_receive_10 : decode bm_TL_receive 10 = .ok (.iload_n 1, 1) := by decide +kernel
theorem dd_TL_receive_11 : decode bm_TL_receive 11 = .ok (.isub, 1) := by decide +kernel
theorem dd_TL_receive_12 : decode bm_TL_receive 12 = .ok (.iload_n 2, 1) := by decide +kernel
theorem dd_TL_receive_13 : decode bm_TL_receive 13 = .ok (.iload_n 3, 1) := by decide +kernel
theorem dd_TL_receive_14 : decode bm_TL_receive 14 = .ok (.invokevirtual 79, 3) := by decide +kernel
theorem dd_TL_receive_17 : decode bm_TL_receive 17 = .ok (.ifCond .ne 5, 3) := by decide +kernel
theorem dd_TL_receive_20 : decode bm_TL_receive 20 = .ok (.iconst (-1), 1) := by decide +kernel
theorem dd_TL_receive_21 : decode bm_TL_receive 21 = .ok (.ireturn, 1) := by decide +kernel
theorem dd_TL_receive_22 : decode bm_TL_receive 22 = .ok (.aload_n 0, 1) := by decide +kernel
theorem dd_TL_receive_23 : decode bm_TL_receive 23 = .ok (.getfield 11, 3) := by decide +kernel
theorem dd_TL_receive_26 : decode bm_TL_receive 26 = .ok (.iload_n 1, 1) := by decide +kernel
theorem dd_TL_receive_27 : decode bm_TL_receive 27 = .ok (.aaload, 1) := by decide +kernel
theorem dd_TL_receive_28 : decode bm_TL_receive 28 = .ok (.aload_n 0, 1) := by decide +kernel
theorem dd_TL_receive_29 : decode bm_TL_receive 29 = .ok (.getfield 11, 3) := by decide +kernel
theorem dd_TL_receive_32 : decode bm_TL_receive 32 = .ok (.iconst 1, 1) := by decide +kernel
theorem dd_TL_receive_33 : decode bm_TL_receive 33 = .ok (.iload_n 1, 1) := by decide +kernel
theorem dd_TL_receive_34 : decode bm_TL_receive 34 = .ok (.isub, 1) := by decide +kernel
theorem dd_TL_receive_35 : decode bm_TL_receive 35 = .ok (.aaload, 1) := by decide +kernel
theorem dd_TL_receive_36 : decode bm_TL_receive 36 = .ok (.iload_n 2, 1) := by decide +kernel
theorem dd_TL_receive_37 : decode bm_TL_receive 37 = .ok (.iload_n 3, 1) := by decide +kernel
theorem dd_TL_receive_38 : decode bm_TL_receive 38 = .ok (.iload 4, 2) := by decide +kernel
theorem dd_TL_receive_40 : decode bm_TL_receive 40 = .ok (.iload 5, 2) := by decide +kernel
theorem dd_TL_receive_42 : decode bm_TL_receive 42 = .ok (.invokevirtual 83, 3) := by decide +kernel
theorem dd_TL_receive_45 : decode bm_TL_receive 45 = .ok (.ireturn, 1) := by decide +kernel
theorem dd_TL_acknowledge_0 : decode bm_TL_acknowledge 0 = .ok (.aload_n 0, 1) := by decide +kernel
theorem dd_TL_acknowledge_1 : decode bm_TL_acknowledge 1 = .ok (.iload_n 1, 1) := by decide +kernel
theorem dd_TL_acknowledge_2 : decode bm_TL_acknowledge 2 = .ok (.iload_n 2, 1) := by decide +kernel
theorem dd_TL_acknowledge_3 : decode bm_TL_acknowledge 3 = .ok (.iload_n 3, 1) := by decide +kernel
theorem dd_TL_acknowledge_4 : decode bm_TL_acknowledge 4 = .ok (.invokevirtual 79, 3) := by decide +kernel
theorem dd_TL_acknowledge_7 : decode bm_TL_acknowledge 7 = .ok (.ifCond .eq 27, 3) := by decide +kernel
theorem dd_TL_acknowledge_10 : decode bm_TL_acknowledge 10 = .ok (.aload_n 0, 1) := by decide +kernel
theorem dd_TL_acknowledge_11 : decode bm_TL_acknowledge 11 = .ok (.getfield 11, 3) := by decide +kernel
theorem dd_TL_acknowledge_14 : decode bm_TL_acknowledge 14 = .ok (.iload_n 1, 1) := by decide +kernel
theorem dd_TL_acknowledge_15 : decode bm_TL_acknowledge 15 = .ok (.aaload, 1) := by decide +kernel
theorem dd_TL_acknowledge_16 : decode bm_TL_acknowledge 16 = .ok (.aload_n 0, 1) := by decide +kernel
theorem dd_TL_acknowledge_17 : decode bm_TL_acknowledge 17 = .ok (.getfield 11, 3) := by decide +kernel
theorem dd_TL_acknowledge_20 : decode bm_TL_acknowledge 20 = .ok (.iconst 1, 1) := by decide +kernel
theorem dd_TL_acknowledge_21 : decode bm_TL_acknowledge 21 = .ok (.iload_n 1, 1) := by decide +kernel
theorem dd_TL_acknowledge_22 : decode bm_TL_acknowledge 22 = .ok (.isub, 1) := by decide +kernel
theorem dd_TL_acknowledge_23 : decode bm_TL_acknowledge 23 = .ok (.aaload, 1) := by decide +kernel
theorem dd_TL_acknowledge_24 : decode bm_TL_acknowledge 24 = .ok (.iload_n 2, 1) := by decide +kernel
theorem dd_TL_acknowledge_25 : decode bm_TL_acknowledge 25 = .ok (.iload_n 3, 1) := by decide +kernel
theorem dd_TL_acknowledge_26 : decode bm_TL_acknowledge 26 = .ok (.iload 4, 2) := by decide +kernel
theorem dd_TL_acknowledge_28 : decode bm_TL_acknowledge 28 = .ok (.invokevirtual 87, 3) := by decide +kernel
theorem dd_TL_acknowledge_31 : decode bm_TL_acknowledge 31 = .ok (.goto 4, 3) := by decide +kernel
theorem dd_TL_acknowledge_34 : decode bm_TL_acknowledge 34 = .ok (.iconst (-1), 1) := by decide +kernel
theorem dd_TL_acknowledge_35 : decode bm_TL_acknowledge 35 = .ok (.ireturn, 1) := by decide +kernel
theorem dd_TL_timeout_0 : decode bm_TL_timeout 0 = .ok (.aload_n 0, 1) := by decide +kernel
theorem dd_TL_timeout_1 : decode bm_TL_timeout 1 = .ok (.iload_n 1, 1) := by decide +kernel
theorem dd_TL_timeout_2 : decode bm_TL_timeout 2 = .ok (.iload_n 2, 1) := by decide +kernel
theorem dd_TL_timeout_3 : decode bm_TL_timeout 3 = .ok (.iload_n 3, 1) := by decide +kernel
theorem dd_TL_timeout_4 : decode bm_TL_timeout 4 = .ok (.invokevirtual 79, 3) := by decide +kernel
theorem dd_TL_timeout_7 : decode bm_TL_timeout 7 = .ok (.ifCond .ne 5, 3) := by decide +kernel
theorem dd_TL_timeout_10 : decode bm_TL_timeout 10 = .ok (.iconst (-1), 1) := by decide +kernel
theorem dd_TL_timeout_11 : decode bm_TL_timeout 11 = .ok (.ireturn, 1) := by decide +kernel
theorem dd_TL_timeout_12 : decode bm_TL_timeout 12 = .ok (.aload_n 0, 1) := by decide +kernel
theorem dd_TL_timeout_13 : decode bm_TL_timeout 13 = .ok (.getfield 11, 3) := by decide +kernel
theorem dd_TL_timeout_16 : decode bm_TL_timeout 16 = .ok (.iload_n 1, 1) := by decide +kernel
theorem dd_TL_timeout_17 : decode bm_TL_timeout 17 = .ok (.aaload, 1) := by decide +kernel
theorem dd_TL_timeout_18 : decode bm_TL_timeout 18 = .ok (.aload_n 0, 1) := by decide +kernel
theorem dd_TL_timeout_19 : decode bm_TL_timeout 19 = .ok (.getfield 11, 3) := by decide +kernel
theorem dd_TL_timeout_22 : decode bm_TL_timeout 22 = .ok (.iconst 1, 1) := by decide +kernel
theorem dd_TL_timeout_23 : decode bm_TL_timeout 23 = .ok (.iload_n 1, 1) := by decide +kernel
theorem dd_TL_timeout_24 : decode bm_TL_timeout 24 = .ok (.isub, 1) := by decide +kernel
theorem dd_TL_timeout_25 : decode bm_TL_timeout 25 = .ok (.aaload, 1) := by decide +kernel
theorem dd_TL_timeout_26 : decode bm_TL_timeout 26 = .ok (.iload_n 2, 1) := by decide +kernel
theorem dd_TL_timeout_27 : decode bm_TL_timeout 27 = .ok (.iload_n 3, 1) := by decide +kernel
theorem dd_TL_timeout_28 : decode bm_TL_timeout 28 = .ok (.iload 4, 2) := by decide +kernel
theorem dd_TL_timeout_30 : decode bm_TL_timeout 30 = .ok (.iload 5, 2) := by decide +kernel
theorem dd_TL_timeout_32 : decode bm_TL_timeout 32 = .ok (.invokevirtual 91, 3) := by decide +kernel
theorem dd_TL_timeout_35 : decode bm_TL_timeout 35 = .ok (.ireturn, 1) := by decide +kernel
theorem dd_TL_round_0 : decode bm_TL_round 0 = .ok (.iconst 0, 1) := by decide +kernel
theorem dd_TL_round_1 : decode bm_TL_round 1 = .ok (.istore_n 1, 1) := by decide +kernel
theorem dd_TL_round_2 : decode bm_TL_round 2 = .ok (.iload_n 1, 1) := by decide +kernel
theorem dd_TL_round_3 : decode bm_TL_round 3 = .ok (.iconst 2, 1) := by decide +kernel
theorem dd_TL_round_4 : decode bm_TL_round 4 = .ok (.if_icmp .ge 19, 3) := by decide +kernel
theorem dd_TL_round_7 : decode bm_TL_round 7 = .ok (.aload_n 0, 1) := by decide +kernel
theorem dd_TL_round_8 : decode bm_TL_round 8 = .ok (.getfield 11, 3) := by decide +kernel
theorem dd_TL_round_11 : decode bm_TL_round 11 = .ok (.iload_n 1, 1) := by decide +kernel
theorem dd_TL_round_12 : decode bm_TL_round 12 = .ok (.aaload, 1) := by decide +kernel
theorem dd_TL_round_13 : decode bm_TL_round 13 = .ok (.invokevirtual 24, 3) := by decide +kernel
theorem dd_TL_round_16 : decode bm_TL_round 16 = .ok (.pop, 1) := by decide +kernel
theorem dd_TL_round_17 : decode bm_TL_round 17 = .ok (.iinc 1 1, 3) := by decide +kernel
theorem dd_TL_round_20 : decode bm_TL_round 20 = .ok (.goto (-18), 3) := by decide +kernel
theorem dd_TL_round_23 : decode bm_TL_round 23 = .ok (.iconst 0, 1) := by decide +kernel
theorem dd_TL_round_24 : decode bm_TL_round 24 = .ok (.istore_n 1, 1) := by decide +kernel
theorem dd_TL_round_25 : decode bm_TL_round 25 = .ok (.iload_n 1, 1) := by decide +kernel
theorem dd_TL_round_26 : decode bm_TL_round 26 = .ok (.iconst 2, 1) := by decide +kernel
theorem dd_TL_round_27 : decode bm_TL_round 27 = .ok (.if_icmp .ge 32, 3) := by decide +kernel
theorem dd_TL_round_30 : decode bm_TL_round 30 = .ok (.aload_n 0, 1) := by decide +kernel
theorem dd_TL_round_31 : decode bm_TL_round 31 = .ok (.getfield 11, 3) := by decide +kernel
theorem dd_TL_round_34 : decode bm_TL_round 34 = .ok (.iload_n 1, 1) := by decide +kernel
theorem dd_TL_round_35 : decode bm_TL_round 35 = .ok (.aaload, 1) := by decide +kernel
theorem dd_TL_round_36 : decode bm_TL_round 36 = .ok (.getfield 37, 3) := by decide +kernel
theorem dd_TL_round_39 : decode bm_TL_round 39 = .ok (.aload_n 0, 1) := by decide +kernel
theorem dd_TL_round_40 : decode bm_TL_round 40 = .ok (.getfield 11, 3) := by decide +kernel
theorem dd_TL_round_43 : decode bm_TL_round 43 = .ok (.iconst 1, 1) := by decide +kernel
theorem dd_TL_round_44 : decode bm_TL_round 44 = .ok (.iload_n 1, 1) := by decide +kernel
theorem dd_TL_round_45 : decode bm_TL_round 45 = .ok (.isub, 1) := by decide +kernel
theorem dd_TL_round_46 : decode bm_TL_round 46 = .ok (.aaload, 1) := by decide +kernel
theorem dd_TL_round_47 : decode bm_TL_round 47 = .ok (.getfield 28, 3) := by decide +kernel
theorem dd_TL_round_50 : decode bm_TL_round 50 = .ok (.invokevirtual 41, 3) := by decide +kernel
theorem dd_TL_round_53 : decode bm_TL_round 53 = .ok (.iinc 1 1, 3) := by decide +kernel
theorem dd_TL_round_56 : decode bm_TL_round 56 = .ok (.goto (-31), 3) := by decide +kernel
theorem dd_TL_round_59 : decode bm_TL_round 59 = .ok (.iconst 0, 1) := by decide +kernel
theorem dd_TL_round_60 : decode bm_TL_round 60 = .ok (.istore_n 1, 1) := by decide +kernel
theorem dd_TL_round_61 : decode bm_TL_round 61 = .ok (.iconst 0, 1) := by decide +kernel
theorem dd_TL_round_62 : decode bm_TL_round 62 = .ok (.istore_n 2, 1) := by decide +kernel
theorem dd_TL_round_63 : decode bm_TL_round 63 = .ok (.iload_n 2, 1) := by decide +kernel
theorem dd_TL_round_64 : decode bm_TL_round 64 = .ok (.iconst 2, 1) := by decide +kernel
theorem dd_TL_round_65 : decode bm_TL_round 65 = .ok (.if_icmp .ge 69, 3) := by decide +kernel
theorem dd_TL_round_68 : decode bm_TL_round 68 = .ok (.iload_n 1, 1) := by decide +kernel
theorem dd_TL_round_69 : decode bm_TL_round 69 = .ok (.aload_n 0, 1) := by decide +kernel
theorem dd_TL_round_70 : decode bm_TL_round 70 = .ok (.getfield 11, 3) := by decide +kernel
theorem dd_TL_round_73 : decode bm_TL_round 73 = .ok (.iload_n 2, 1) := by decide +kernel
theorem dd_TL_round_74 : decode bm_TL_round 74 = .ok (.aaload, 1) := by decide +kernel
theorem dd_TL_round_75 : decode bm_TL_round 75 = .ok (.aload_n 0, 1) := by decide +kernel
theorem dd_TL_round_76 : decode bm_TL_round 76 = .ok (.getfield 11, 3) := by decide +kernel
theorem dd_TL_round_79 : decode bm_TL_round 79 = .ok (.iconst 1, 1) := by decide +kernel
theorem dd_TL_round_80 : decode bm_TL_round 80 = .ok (.iload_n 2, 1) := by decide +kernel
theorem dd_TL_round_81 : decode bm_TL_round 81 = .ok (.isub, 1) := by decide +kernel
theorem dd_TL_round_82 : decode bm_TL_round 82 = .ok (.aaload, 1) := by decide +kernel
theorem dd_TL_round_83 : decode bm_TL_round 83 = .ok (.invokestatic 94, 3) := by decide +kernel
theorem dd_TL_round_86 : decode bm_TL_round 86 = .ok (.iadd, 1) := by decide +kernel
theorem dd_TL_round_87 : decode bm_TL_round 87 = .ok (.istore_n 1, 1) := by decide +kernel
theorem dd_TL_round_88 : decode bm_TL_round 88 = .ok (.iload_n 1, 1) := by decide +kernel
theorem dd_TL_round_89 : decode bm_TL_round 89 = .ok (.aload_n 0, 1) := by decide +kernel
theorem dd_TL_round_90 : decode bm_TL_round 90 = .ok (.getfield 11, 3) := by decide +kernel
theorem dd_TL_round_93 : decode bm_TL_round 93 = .ok (.iload_n 2, 1) := by decide +kernel
theorem dd_TL_round_94 : decode bm_TL_round 94 = .ok (.aaload, 1) := by decide +kernel
theorem dd_TL_round_95 : decode bm_TL_round 95 = .ok (.aload_n 0, 1) := by decide +kernel
theorem dd_TL_round_96 : decode bm_TL_round 96 = .ok (.getfield 11, 3) := by decide +kernel
theorem dd_TL_round_99 : decode bm_TL_round 99 = .ok (.iconst 1, 1) := by decide +kernel
theorem dd_TL_round_100 : decode bm_TL_round 100 = .ok (.iload_n 2, 1) := by decide +kernel
theorem dd_TL_round_101 : decode bm_TL_round 101 = .ok (.isub, 1) := by decide +kernel
theorem dd_TL_round_102 : decode bm_TL_round 102 = .ok (.aaload, 1) := by decide +kernel
theorem dd_TL_round_103 : decode bm_TL_round 103 = .ok (.invokestatic 98, 3) := by decide +kernel
theorem dd_TL_round_106 : decode bm_TL_round 106 = .ok (.iadd, 1) := by decide +kernel
theorem dd_TL_round_107 : decode bm_TL_round 107 = .ok (.istore_n 1, 1) := by decide +kernel
theorem dd_TL_round_108 : decode bm_TL_round 108 = .ok (.iload_n 1, 1) := by decide +kernel
theorem dd_TL_round_109 : decode bm_TL_round 109 = .ok (.aload_n 0, 1) := by decide +kernel
theorem dd_TL_round_110 : decode bm_TL_round 110 = .ok (.getfield 11, 3) := by decide +kernel
theorem dd_TL_round_113 : decode bm_TL_round 113 = .ok (.iload_n 2, 1) := by decide +kernel
theorem dd_TL_round_114 : decode bm_TL_round 114 = .ok (.aaload, 1) := by decide +kernel
theorem dd_TL_round_115 : decode bm_TL_round 115 = .ok (.aload_n 0, 1) := by decide +kernel
theorem dd_TL_round_116 : decode bm_TL_round 116 = .ok (.getfield 11, 3) := by decide +kernel
theorem dd_TL_round_119 : decode bm_TL_round 119 = .ok (.iconst 1, 1) := by decide +kernel
theorem dd_TL_round_120 : decode bm_TL_round 120 = .ok (.iload_n 2, 1) := by decide +kernel
theorem dd_TL_round_121 : decode bm_TL_round 121 = .ok (.isub, 1) := by decide +kernel
theorem dd_TL_round_122 : decode bm_TL_round 122 = .ok (.aaload, 1) := by decide +kernel
theorem dd_TL_round_123 : decode bm_TL_round 123 = .ok (.invokestatic 101, 3) := by decide +kernel
theorem dd_TL_round_126 : decode bm_TL_round 126 = .ok (.iadd, 1) := by decide +kernel
theorem dd_TL_round_127 : decode bm_TL_round 127 = .ok (.istore_n 1, 1) := by decide +kernel
theorem dd_TL_round_128 : decode bm_TL_round 128 = .ok (.iinc 2 1, 3) := by decide +kernel
theorem dd_TL_round_131 : decode bm_TL_round 131 = .ok (.goto (-68), 3) := by decide +kernel
theorem dd_TL_round_134 : decode bm_TL_round 134 = .ok (.iload_n 1, 1) := by decide +kernel
theorem dd_TL_round_135 : decode bm_TL_round 135 = .ok (.ireturn, 1) := by decide +kernel
theorem dd_TL_height_0 : decode bm_TL_height 0 = .ok (.iload_n 1, 1) := by decide +kernel
theorem dd_TL_height_1 : decode bm_TL_height 1 = .ok (.invokestatic 20, 3) := by decide +kernel
theorem dd_TL_height_4 : decode bm_TL_height 4 = .ok (.ifCond .eq 15, 3) := by decide +kernel
theorem dd_TL_height_7 : decode bm_TL_height 7 = .ok (.aload_n 0, 1) := by decide +kernel
theorem dd_TL_height_8 : decode bm_TL_height 8 = .ok (.getfield 11, 3) := by decide +kernel
theorem dd_TL_height_11 : decode bm_TL_height 11 = .ok (.iload_n 1, 1) := by decide +kernel
theorem dd_TL_height_12 : decode bm_TL_height 12 = .ok (.aaload, 1) := by decide +kernel
theorem dd_TL_height_13 : decode bm_TL_height 13 = .ok (.getfield 28, 3) := by decide +kernel
theorem dd_TL_height_16 : decode bm_TL_height 16 = .ok (.goto 4, 3) := by decide +kernel
theorem dd_TL_height_19 : decode bm_TL_height 19 = .ok (.iconst (-1), 1) := by decide +kernel
theorem dd_TL_height_20 : decode bm_TL_height 20 = .ok (.ireturn, 1) := by decide +kernel
theorem dd_TL_root_0 : decode bm_TL_root 0 = .ok (.iload_n 1, 1) := by decide +kernel
theorem dd_TL_root_1 : decode bm_TL_root 1 = .ok (.invokestatic 20, 3) := by decide +kernel
theorem dd_TL_root_4 : decode bm_TL_root 4 = .ok (.ifCond .eq 16, 3) := by decide +kernel
theorem dd_TL_root_7 : decode bm_TL_root 7 = .ok (.aload_n 0, 1) := by decide +kernel
theorem dd_TL_root_8 : decode bm_TL_root 8 = .ok (.getfield 11, 3) := by decide +kernel
theorem dd_TL_root_11 : decode bm_TL_root 11 = .ok (.iload_n 1, 1) := by decide +kernel
theorem dd_TL_root_12 : decode bm_TL_root 12 = .ok (.aaload, 1) := by decide +kernel
theorem dd_TL_root_13 : decode bm_TL_root 13 = .ok (.iload_n 2, 1) := by decide +kernel
theorem dd_TL_root_14 : decode bm_TL_root 14 = .ok (.invokevirtual 104, 3) := by decide +kernel
theorem dd_TL_root_17 : decode bm_TL_root 17 = .ok (.goto 4, 3) := by decide +kernel
theorem dd_TL_root_20 : decode bm_TL_root 20 = .ok (.iconst 0, 1) := by decide +kernel
theorem dd_TL_root_21 : decode bm_TL_root 21 = .ok (.ireturn, 1) := by decide +kernel
theorem dd_TL_knows_0 : decode bm_TL_knows 0 = .ok (.iload_n 1, 1) := by decide +kernel
theorem dd_TL_knows_1 : decode bm_TL_knows 1 = .ok (.invokestatic 20, 3) := by decide +kernel
theorem dd_TL_knows_4 : decode bm_TL_knows 4 = .ok (.ifCond .eq 23, 3) := by decide +kernel
theorem dd_TL_knows_7 : decode bm_TL_knows 7 = .ok (.aload_n 0, 1) := by decide +kernel
theorem dd_TL_knows_8 : decode bm_TL_knows 8 = .ok (.getfield 11, 3) := by decide +kernel
theorem dd_TL_knows_11 : decode bm_TL_knows 11 = .ok (.iload_n 1, 1) := by decide +kernel
theorem dd_TL_knows_12 : decode bm_TL_knows 12 = .ok (.aaload, 1) := by decide +kernel
theorem dd_TL_knows_13 : decode bm_TL_knows 13 = .ok (.getfield 37, 3) := by decide +kernel
theorem dd_TL_knows_16 : decode bm_TL_knows 16 = .ok (.iload_n 2, 1) := by decide +kernel
theorem dd_TL_knows_17 : decode bm_TL_knows 17 = .ok (.invokevirtual 107, 3) := by decide +kernel
theorem dd_TL_knows_20 : decode bm_TL_knows 20 = .ok (.ifCond .eq 7, 3) := by decide +kernel
theorem dd_TL_knows_23 : decode bm_TL_knows 23 = .ok (.iconst 1, 1) := by decide +kernel
theorem dd_TL_knows_24 : decode bm_TL_knows 24 = .ok (.goto 4, 3) := by decide +kernel
theorem dd_TL_knows_27 : decode bm_TL_knows 27 = .ok (.iconst 0, 1) := by decide +kernel
theorem dd_TL_knows_28 : decode bm_TL_knows 28 = .ok (.ireturn, 1) := by decide +kernel
theorem dd_TL_end_0 : decode bm_TL_end 0 = .ok (.iload_n 1, 1) := by decide +kernel
theorem dd_TL_end_1 : decode bm_TL_end 1 = .ok (.iload_n 2, 1) := by decide +kernel
theorem dd_TL_end_2 : decode bm_TL_end 2 = .ok (.invokestatic 47, 3) := by decide +kernel
theorem dd_TL_end_5 : decode bm_TL_end 5 = .ok (.ifCond .ne 5, 3) := by decide +kernel
theorem dd_TL_end_8 : decode bm_TL_end 8 = .ok (.iconst (-1), 1) := by decide +kernel
theorem dd_TL_end_9 : decode bm_TL_end 9 = .ok (.ireturn, 1) := by decide +kernel
theorem dd_TL_end_10 : decode bm_TL_end 10 = .ok (.aload_n 0, 1) := by decide +kernel
theorem dd_TL_end_11 : decode bm_TL_end 11 = .ok (.getfield 11, 3) := by decide +kernel
theorem dd_TL_end_14 : decode bm_TL_end 14 = .ok (.iload_n 1, 1) := by decide +kernel
theorem dd_TL_end_15 : decode bm_TL_end 15 = .ok (.aaload, 1) := by decide +kernel
theorem dd_TL_end_16 : decode bm_TL_end 16 = .ok (.astore 4, 2) := by decide +kernel
theorem dd_TL_end_18 : decode bm_TL_end 18 = .ok (.iload_n 3, 1) := by decide +kernel
theorem dd_TL_end_19 : decode bm_TL_end 19 = .ok (.tableswitch 76 0 4 #[33, 40, 47, 58, 65], 33) := by decide +kernel
theorem dd_TL_end_52 : decode bm_TL_end 52 = .ok (.aload 4, 2) := by decide +kernel
theorem dd_TL_end_54 : decode bm_TL_end 54 = .ok (.iload_n 2, 1) := by decide +kernel
theorem dd_TL_end_55 : decode bm_TL_end 55 = .ok (.invokevirtual 110, 3) := by decide +kernel
theorem dd_TL_end_58 : decode bm_TL_end 58 = .ok (.ireturn, 1) := by decide +kernel
theorem dd_TL_end_59 : decode bm_TL_end 59 = .ok (.aload 4, 2) := by decide +kernel
theorem dd_TL_end_61 : decode bm_TL_end 61 = .ok (.iload_n 2, 1) := by decide +kernel
theorem dd_TL_end_62 : decode bm_TL_end 62 = .ok (.invokevirtual 113, 3) := by decide +kernel
theorem dd_TL_end_65 : decode bm_TL_end 65 = .ok (.ireturn, 1) := by decide +kernel
theorem dd_TL_end_66 : decode bm_TL_end 66 = .ok (.aload 4, 2) := by decide +kernel
theorem dd_TL_end_68 : decode bm_TL_end 68 = .ok (.getfield 116, 3) := by decide +kernel
theorem dd_TL_end_71 : decode bm_TL_end 71 = .ok (.iload_n 2, 1) := by decide +kernel
theorem dd_TL_end_72 : decode bm_TL_end 72 = .ok (.aaload, 1) := by decide +kernel
theorem dd_TL_end_73 : decode bm_TL_end 73 = .ok (.getfield 120, 3) := by decide +kernel
theorem dd_TL_end_76 : decode bm_TL_end 76 = .ok (.ireturn, 1) := by decide +kernel
theorem dd_TL_end_77 : decode bm_TL_end 77 = .ok (.aload 4, 2) := by decide +kernel
theorem dd_TL_end_79 : decode bm_TL_end 79 = .ok (.iload_n 2, 1) := by decide +kernel
theorem dd_TL_end_80 : decode bm_TL_end 80 = .ok (.invokevirtual 125, 3) := by decide +kernel
theorem dd_TL_end_83 : decode bm_TL_end 83 = .ok (.ireturn, 1) := by decide +kernel
theorem dd_TL_end_84 : decode bm_TL_end 84 = .ok (.aload 4, 2) := by decide +kernel
theorem dd_TL_end_86 : decode bm_TL_end 86 = .ok (.getfield 116, 3) := by decide +kernel
theorem dd_TL_end_89 : decode bm_TL_end 89 = .ok (.iload_n 2, 1) := by decide +kernel
theorem dd_TL_end_90 : decode bm_TL_end 90 = .ok (.aaload, 1) := by decide +kernel
theorem dd_TL_end_91 : decode bm_TL_end 91 = .ok (.getfield 128, 3) := by decide +kernel
theorem dd_TL_end_94 : decode bm_TL_end 94 = .ok (.ireturn, 1) := by decide +kernel
theorem dd_TL_end_95 : decode bm_TL_end 95 = .ok (.iconst (-1), 1) := by decide +kernel
theorem dd_TL_end_96 : decode bm_TL_end 96 = .ok (.ireturn, 1) := by decide +kernel
theorem dd_TL_packet_0 : decode bm_TL_packet 0 = .ok (.aload_n 0, 1) := by decide +kernel
theorem dd_TL_packet_1 : decode bm_TL_packet 1 = .ok (.iload_n 1, 1) := by decide +kernel
theorem dd_TL_packet_2 : decode bm_TL_packet 2 = .ok (.iload_n 2, 1) := by decide +kernel
theorem dd_TL_packet_3 : decode bm_TL_packet 3 = .ok (.iload_n 3, 1) := by decide +kernel
theorem dd_TL_packet_4 : decode bm_TL_packet 4 = .ok (.invokevirtual 79, 3) := by decide +kernel
theorem dd_TL_packet_7 : decode bm_TL_packet 7 = .ok (.ifCond .eq 27, 3) := by decide +kernel
theorem dd_TL_packet_10 : decode bm_TL_packet 10 = .ok (.aload_n 0, 1) := by decide +kernel
theorem dd_TL_packet_11 : decode bm_TL_packet 11 = .ok (.getfield 11, 3) := by decide +kernel
theorem dd_TL_packet_14 : decode bm_TL_packet 14 = .ok (.iload_n 1, 1) := by decide +kernel
theorem dd_TL_packet_15 : decode bm_TL_packet 15 = .ok (.aaload, 1) := by decide +kernel
theorem dd_TL_packet_16 : decode bm_TL_packet 16 = .ok (.getfield 116, 3) := by decide +kernel
theorem dd_TL_packet_19 : decode bm_TL_packet 19 = .ok (.iload_n 2, 1) := by decide +kernel
theorem dd_TL_packet_20 : decode bm_TL_packet 20 = .ok (.aaload, 1) := by decide +kernel
theorem dd_TL_packet_21 : decode bm_TL_packet 21 = .ok (.getfield 131, 3) := by decide +kernel
theorem dd_TL_packet_24 : decode bm_TL_packet 24 = .ok (.iload_n 3, 1) := by decide +kernel
theorem dd_TL_packet_25 : decode bm_TL_packet 25 = .ok (.iconst 1, 1) := by decide +kernel
theorem dd_TL_packet_26 : decode bm_TL_packet 26 = .ok (.isub, 1) := by decide +kernel
theorem dd_TL_packet_27 : decode bm_TL_packet 27 = .ok (.aaload, 1) := by decide +kernel
theorem dd_TL_packet_28 : decode bm_TL_packet 28 = .ok (.getfield 135, 3) := by decide +kernel
theorem dd_TL_packet_31 : decode bm_TL_packet 31 = .ok (.goto 4, 3) := by decide +kernel
theorem dd_TL_packet_34 : decode bm_TL_packet 34 = .ok (.iconst (-1), 1) := by decide +kernel
theorem dd_TL_packet_35 : decode bm_TL_packet 35 = .ok (.ireturn, 1) := by decide +kernel
theorem dd_TL_limit_0 : decode bm_TL_limit 0 = .ok (.aload_n 0, 1) := by decide +kernel
theorem dd_TL_limit_1 : decode bm_TL_limit 1 = .ok (.iload_n 1, 1) := by decide +kernel
theorem dd_TL_limit_2 : decode bm_TL_limit 2 = .ok (.iload_n 2, 1) := by decide +kernel
theorem dd_TL_limit_3 : decode bm_TL_limit 3 = .ok (.iload_n 3, 1) := by decide +kernel
theorem dd_TL_limit_4 : decode bm_TL_limit 4 = .ok (.invokevirtual 79, 3) := by decide +kernel
theorem dd_TL_limit_7 : decode bm_TL_limit 7 = .ok (.ifCond .eq 27, 3) := by decide +kernel
theorem dd_TL_limit_10 : decode bm_TL_limit 10 = .ok (.aload_n 0, 1) := by decide +kernel
theorem dd_TL_limit_11 : decode bm_TL_limit 11 = .ok (.getfield 11, 3) := by decide +kernel
theorem dd_TL_limit_14 : decode bm_TL_limit 14 = .ok (.iload_n 1, 1) := by decide +kernel
theorem dd_TL_limit_15 : decode bm_TL_limit 15 = .ok (.aaload, 1) := by decide +kernel
theorem dd_TL_limit_16 : decode bm_TL_limit 16 = .ok (.getfield 116, 3) := by decide +kernel
theorem dd_TL_limit_19 : decode bm_TL_limit 19 = .ok (.iload_n 2, 1) := by decide +kernel
theorem dd_TL_limit_20 : decode bm_TL_limit 20 = .ok (.aaload, 1) := by decide +kernel
theorem dd_TL_limit_21 : decode bm_TL_limit 21 = .ok (.getfield 131, 3) := by decide +kernel
theorem dd_TL_limit_24 : decode bm_TL_limit 24 = .ok (.iload_n 3, 1) := by decide +kernel
theorem dd_TL_limit_25 : decode bm_TL_limit 25 = .ok (.iconst 1, 1) := by decide +kernel
theorem dd_TL_limit_26 : decode bm_TL_limit 26 = .ok (.isub, 1) := by decide +kernel
theorem dd_TL_limit_27 : decode bm_TL_limit 27 = .ok (.aaload, 1) := by decide +kernel
theorem dd_TL_limit_28 : decode bm_TL_limit 28 = .ok (.getfield 140, 3) := by decide +kernel
theorem dd_TL_limit_31 : decode bm_TL_limit 31 = .ok (.goto 4, 3) := by decide +kernel
theorem dd_TL_limit_34 : decode bm_TL_limit 34 = .ok (.iconst (-1), 1) := by decide +kernel
theorem dd_TL_limit_35 : decode bm_TL_limit 35 = .ok (.ireturn, 1) := by decide +kernel
theorem dd_TL_balance_0 : decode bm_TL_balance 0 = .ok (.iload_n 1, 1) := by decide +kernel
theorem dd_TL_balance_1 : decode bm_TL_balance 1 = .ok (.invokestatic 20, 3) := by decide +kernel
theorem dd_TL_balance_4 : decode bm_TL_balance 4 = .ok (.ifCond .eq 28, 3) := by decide +kernel
theorem dd_TL_balance_7 : decode bm_TL_balance 7 = .ok (.iload_n 2, 1) := by decide +kernel
theorem dd_TL_balance_8 : decode bm_TL_balance 8 = .ok (.ifCond .lt 24, 3) := by decide +kernel
theorem dd_TL_balance_11 : decode bm_TL_balance 11 = .ok (.iload_n 2, 1) := by decide +kernel
theorem dd_TL_balance_12 : decode bm_TL_balance 12 = .ok (.iconst 4, 1) := by decide +kernel
theorem dd_TL_balance_13 : decode bm_TL_balance 13 = .ok (.if_icmp .ge 19, 3) := by decide +kernel
theorem dd_TL_balance_16 : decode bm_TL_balance 16 = .ok (.aload_n 0, 1) := by decide +kernel
theorem dd_TL_balance_17 : decode bm_TL_balance 17 = .ok (.getfield 11, 3) := by decide +kernel
theorem dd_TL_balance_20 : decode bm_TL_balance 20 = .ok (.iload_n 1, 1) := by decide +kernel
theorem dd_TL_balance_21 : decode bm_TL_balance 21 = .ok (.aaload, 1) := by decide +kernel
theorem dd_TL_balance_22 : decode bm_TL_balance 22 = .ok (.getfield 66, 3) := by decide +kernel
theorem dd_TL_balance_25 : decode bm_TL_balance 25 = .ok (.iload_n 3, 1) := by decide +kernel
theorem dd_TL_balance_26 : decode bm_TL_balance 26 = .ok (.invokevirtual 70, 3) := by decide +kernel
theorem dd_TL_balance_29 : decode bm_TL_balance 29 = .ok (.ifCond .ne 5, 3) := by decide +kernel
theorem dd_TL_balance_32 : decode bm_TL_balance 32 = .ok (.iconst 0, 1) := by decide +kernel
theorem dd_TL_balance_33 : decode bm_TL_balance 33 = .ok (.ireturn, 1) := by decide +kernel
theorem dd_TL_balance_34 : decode bm_TL_balance 34 = .ok (.aload_n 0, 1) := by decide +kernel
theorem dd_TL_balance_35 : decode bm_TL_balance 35 = .ok (.getfield 11, 3) := by decide +kernel
theorem dd_TL_balance_38 : decode bm_TL_balance 38 = .ok (.iload_n 1, 1) := by decide +kernel
theorem dd_TL_balance_39 : decode bm_TL_balance 39 = .ok (.aaload, 1) := by decide +kernel
theorem dd_TL_balance_40 : decode bm_TL_balance 40 = .ok (.getfield 66, 3) := by decide +kernel
theorem dd_TL_balance_43 : decode bm_TL_balance 43 = .ok (.getfield 143, 3) := by decide +kernel
theorem dd_TL_balance_46 : decode bm_TL_balance 46 = .ok (.iload_n 2, 1) := by decide +kernel
theorem dd_TL_balance_47 : decode bm_TL_balance 47 = .ok (.aaload, 1) := by decide +kernel
theorem dd_TL_balance_48 : decode bm_TL_balance 48 = .ok (.iload_n 3, 1) := by decide +kernel
theorem dd_TL_balance_49 : decode bm_TL_balance 49 = .ok (.iaload, 1) := by decide +kernel
theorem dd_TL_balance_50 : decode bm_TL_balance 50 = .ok (.ireturn, 1) := by decide +kernel
theorem dd_TL_escrow_0 : decode bm_TL_escrow 0 = .ok (.iload_n 1, 1) := by decide +kernel
theorem dd_TL_escrow_1 : decode bm_TL_escrow 1 = .ok (.iload_n 2, 1) := by decide +kernel
theorem dd_TL_escrow_2 : decode bm_TL_escrow 2 = .ok (.invokestatic 47, 3) := by decide +kernel
theorem dd_TL_escrow_5 : decode bm_TL_escrow 5 = .ok (.ifCond .eq 19, 3) := by decide +kernel
theorem dd_TL_escrow_8 : decode bm_TL_escrow 8 = .ok (.aload_n 0, 1) := by decide +kernel
theorem dd_TL_escrow_9 : decode bm_TL_escrow 9 = .ok (.getfield 11, 3) := by decide +kernel
theorem dd_TL_escrow_12 : decode bm_TL_escrow 12 = .ok (.iload_n 1, 1) := by decide +kernel
theorem dd_TL_escrow_13 : decode bm_TL_escrow 13 = .ok (.aaload, 1) := by decide +kernel
theorem dd_TL_escrow_14 : decode bm_TL_escrow 14 = .ok (.getfield 66, 3) := by decide +kernel
theorem dd_TL_escrow_17 : decode bm_TL_escrow 17 = .ok (.iload_n 3, 1) := by decide +kernel
theorem dd_TL_escrow_18 : decode bm_TL_escrow 18 = .ok (.invokevirtual 70, 3) := by decide +kernel
theorem dd_TL_escrow_21 : decode bm_TL_escrow 21 = .ok (.ifCond .ne 5, 3) := by decide +kernel
theorem dd_TL_escrow_24 : decode bm_TL_escrow 24 = .ok (.iconst 0, 1) := by decide +kernel
theorem dd_TL_escrow_25 : decode bm_TL_escrow 25 = .ok (.ireturn, 1) := by decide +kernel
theorem dd_TL_escrow_26 : decode bm_TL_escrow 26 = .ok (.aload_n 0, 1) := by decide +kernel
theorem dd_TL_escrow_27 : decode bm_TL_escrow 27 = .ok (.getfield 11, 3) := by decide +kernel
theorem dd_TL_escrow_30 : decode bm_TL_escrow 30 = .ok (.iload_n 1, 1) := by decide +kernel
theorem dd_TL_escrow_31 : decode bm_TL_escrow 31 = .ok (.aaload, 1) := by decide +kernel
theorem dd_TL_escrow_32 : decode bm_TL_escrow 32 = .ok (.getfield 66, 3) := by decide +kernel
theorem dd_TL_escrow_35 : decode bm_TL_escrow 35 = .ok (.getfield 147, 3) := by decide +kernel
theorem dd_TL_escrow_38 : decode bm_TL_escrow 38 = .ok (.iload_n 2, 1) := by decide +kernel
theorem dd_TL_escrow_39 : decode bm_TL_escrow 39 = .ok (.aaload, 1) := by decide +kernel
theorem dd_TL_escrow_40 : decode bm_TL_escrow 40 = .ok (.iload_n 3, 1) := by decide +kernel
theorem dd_TL_escrow_41 : decode bm_TL_escrow 41 = .ok (.iaload, 1) := by decide +kernel
theorem dd_TL_escrow_42 : decode bm_TL_escrow 42 = .ok (.ireturn, 1) := by decide +kernel
theorem dd_TL_voucher_0 : decode bm_TL_voucher 0 = .ok (.iload_n 1, 1) := by decide +kernel
theorem dd_TL_voucher_1 : decode bm_TL_voucher 1 = .ok (.invokestatic 20, 3) := by decide +kernel
theorem dd_TL_voucher_4 : decode bm_TL_voucher 4 = .ok (.ifCond .eq 24, 3) := by decide +kernel
theorem dd_TL_voucher_7 : decode bm_TL_voucher 7 = .ok (.iload_n 2, 1) := by decide +kernel
theorem dd_TL_voucher_8 : decode bm_TL_voucher 8 = .ok (.iconst 1, 1) := by decide +kernel
theorem dd_TL_voucher_9 : decode bm_TL_voucher 9 = .ok (.if_icmp .lt 19, 3) := by decide +kernel
theorem dd_TL_voucher_12 : decode bm_TL_voucher 12 = .ok (.aload_n 0, 1) := by decide +kernel
theorem dd_TL_voucher_13 : decode bm_TL_voucher 13 = .ok (.getfield 11, 3) := by decide +kernel
theorem dd_TL_voucher_16 : decode bm_TL_voucher 16 = .ok (.iload_n 1, 1) := by decide +kernel
theorem dd_TL_voucher_17 : decode bm_TL_voucher 17 = .ok (.aaload, 1) := by decide +kernel
theorem dd_TL_voucher_18 : decode bm_TL_voucher 18 = .ok (.getfield 66, 3) := by decide +kernel
theorem dd_TL_voucher_21 : decode bm_TL_voucher 21 = .ok (.iload_n 2, 1) := by decide +kernel
theorem dd_TL_voucher_22 : decode bm_TL_voucher 22 = .ok (.invokevirtual 70, 3) := by decide +kernel
theorem dd_TL_voucher_25 : decode bm_TL_voucher 25 = .ok (.ifCond .ne 5, 3) := by decide +kernel
theorem dd_TL_voucher_28 : decode bm_TL_voucher 28 = .ok (.iconst (-1), 1) := by decide +kernel
theorem dd_TL_voucher_29 : decode bm_TL_voucher 29 = .ok (.ireturn, 1) := by decide +kernel
theorem dd_TL_voucher_30 : decode bm_TL_voucher 30 = .ok (.iconst 4, 1) := by decide +kernel
theorem dd_TL_voucher_31 : decode bm_TL_voucher 31 = .ok (.aload_n 0, 1) := by decide +kernel
theorem dd_TL_voucher_32 : decode bm_TL_voucher 32 = .ok (.getfield 11, 3) := by decide +kernel
theorem dd_TL_voucher_35 : decode bm_TL_voucher 35 = .ok (.iload_n 1, 1) := by decide +kernel
theorem dd_TL_voucher_36 : decode bm_TL_voucher 36 = .ok (.aaload, 1) := by decide +kernel
theorem dd_TL_voucher_37 : decode bm_TL_voucher 37 = .ok (.getfield 66, 3) := by decide +kernel
theorem dd_TL_voucher_40 : decode bm_TL_voucher 40 = .ok (.getfield 150, 3) := by decide +kernel
theorem dd_TL_voucher_43 : decode bm_TL_voucher 43 = .ok (.iload_n 2, 1) := by decide +kernel
theorem dd_TL_voucher_44 : decode bm_TL_voucher 44 = .ok (.iaload, 1) := by decide +kernel
theorem dd_TL_voucher_45 : decode bm_TL_voucher 45 = .ok (.imul, 1) := by decide +kernel
theorem dd_TL_voucher_46 : decode bm_TL_voucher 46 = .ok (.aload_n 0, 1) := by decide +kernel
theorem dd_TL_voucher_47 : decode bm_TL_voucher 47 = .ok (.getfield 11, 3) := by decide +kernel
theorem dd_TL_voucher_50 : decode bm_TL_voucher 50 = .ok (.iload_n 1, 1) := by decide +kernel
theorem dd_TL_voucher_51 : decode bm_TL_voucher 51 = .ok (.aaload, 1) := by decide +kernel
theorem dd_TL_voucher_52 : decode bm_TL_voucher 52 = .ok (.getfield 66, 3) := by decide +kernel
theorem dd_TL_voucher_55 : decode bm_TL_voucher 55 = .ok (.getfield 154, 3) := by decide +kernel
theorem dd_TL_voucher_58 : decode bm_TL_voucher 58 = .ok (.iload_n 2, 1) := by decide +kernel
theorem dd_TL_voucher_59 : decode bm_TL_voucher 59 = .ok (.iaload, 1) := by decide +kernel
theorem dd_TL_voucher_60 : decode bm_TL_voucher 60 = .ok (.iadd, 1) := by decide +kernel
theorem dd_TL_voucher_61 : decode bm_TL_voucher 61 = .ok (.ireturn, 1) := by decide +kernel
theorem dd_TL_isLedger_0 : decode bm_TL_isLedger 0 = .ok (.iload_n 0, 1) := by decide +kernel
theorem dd_TL_isLedger_1 : decode bm_TL_isLedger 1 = .ok (.ifCond .lt 12, 3) := by decide +kernel
theorem dd_TL_isLedger_4 : decode bm_TL_isLedger 4 = .ok (.iload_n 0, 1) := by decide +kernel
theorem dd_TL_isLedger_5 : decode bm_TL_isLedger 5 = .ok (.iconst 2, 1) := by decide +kernel
theorem dd_TL_isLedger_6 : decode bm_TL_isLedger 6 = .ok (.if_icmp .ge 7, 3) := by decide +kernel
theorem dd_TL_isLedger_9 : decode bm_TL_isLedger 9 = .ok (.iconst 1, 1) := by decide +kernel
theorem dd_TL_isLedger_10 : decode bm_TL_isLedger 10 = .ok (.goto 4, 3) := by decide +kernel
theorem dd_TL_isLedger_13 : decode bm_TL_isLedger 13 = .ok (.iconst 0, 1) := by decide +kernel
theorem dd_TL_isLedger_14 : decode bm_TL_isLedger 14 = .ok (.ireturn, 1) := by decide +kernel
theorem dd_TL_isEnd_0 : decode bm_TL_isEnd 0 = .ok (.iload_n 0, 1) := by decide +kernel
theorem dd_TL_isEnd_1 : decode bm_TL_isEnd 1 = .ok (.invokestatic 20, 3) := by decide +kernel
theorem dd_TL_isEnd_4 : decode bm_TL_isEnd 4 = .ok (.ifCond .eq 16, 3) := by decide +kernel
theorem dd_TL_isEnd_7 : decode bm_TL_isEnd 7 = .ok (.iload_n 1, 1) := by decide +kernel
theorem dd_TL_isEnd_8 : decode bm_TL_isEnd 8 = .ok (.ifCond .lt 12, 3) := by decide +kernel
theorem dd_TL_isEnd_11 : decode bm_TL_isEnd 11 = .ok (.iload_n 1, 1) := by decide +kernel
theorem dd_TL_isEnd_12 : decode bm_TL_isEnd 12 = .ok (.iconst 3, 1) := by decide +kernel
theorem dd_TL_isEnd_13 : decode bm_TL_isEnd 13 = .ok (.if_icmp .ge 7, 3) := by decide +kernel
theorem dd_TL_isEnd_16 : decode bm_TL_isEnd 16 = .ok (.iconst 1, 1) := by decide +kernel
theorem dd_TL_isEnd_17 : decode bm_TL_isEnd 17 = .ok (.goto 4, 3) := by decide +kernel
theorem dd_TL_isEnd_20 : decode bm_TL_isEnd 20 = .ok (.iconst 0, 1) := by decide +kernel
theorem dd_TL_isEnd_21 : decode bm_TL_isEnd 21 = .ok (.ireturn, 1) := by decide +kernel
theorem dd_TL_isPacket_0 : decode bm_TL_isPacket 0 = .ok (.iload_n 1, 1) := by decide +kernel
theorem dd_TL_isPacket_1 : decode bm_TL_isPacket 1 = .ok (.iload_n 2, 1) := by decide +kernel
theorem dd_TL_isPacket_2 : decode bm_TL_isPacket 2 = .ok (.invokestatic 47, 3) := by decide +kernel
theorem dd_TL_isPacket_5 : decode bm_TL_isPacket 5 = .ok (.ifCond .eq 30, 3) := by decide +kernel
theorem dd_TL_isPacket_8 : decode bm_TL_isPacket 8 = .ok (.iload_n 3, 1) := by decide +kernel
theorem dd_TL_isPacket_9 : decode bm_TL_isPacket 9 = .ok (.iconst 1, 1) := by decide +kernel
theorem dd_TL_isPacket_10 : decode bm_TL_isPacket 10 = .ok (.if_icmp .lt 25, 3) := by decide +kernel
theorem dd_TL_isPacket_13 : decode bm_TL_isPacket 13 = .ok (.iload_n 3, 1) := by decide +kernel
theorem dd_TL_isPacket_14 : decode bm_TL_isPacket 14 = .ok (.aload_n 0, 1) := by decide +kernel
theorem dd_TL_isPacket_15 : decode bm_TL_isPacket 15 = .ok (.getfield 11, 3) := by decide +kernel
theorem dd_TL_isPacket_18 : decode bm_TL_isPacket 18 = .ok (.iload_n 1, 1) := by decide +kernel
theorem dd_TL_isPacket_19 : decode bm_TL_isPacket 19 = .ok (.aaload, 1) := by decide +kernel
theorem dd_TL_isPacket_20 : decode bm_TL_isPacket 20 = .ok (.getfield 116, 3) := by decide +kernel
theorem dd_TL_isPacket_23 : decode bm_TL_isPacket 23 = .ok (.iload_n 2, 1) := by decide +kernel
theorem dd_TL_isPacket_24 : decode bm_TL_isPacket 24 = .ok (.aaload, 1) := by decide +kernel
theorem dd_TL_isPacket_25 : decode bm_TL_isPacket 25 = .ok (.getfield 120, 3) := by decide +kernel
theorem dd_TL_isPacket_28 : decode bm_TL_isPacket 28 = .ok (.if_icmp .gt 7, 3) := by decide +kernel
theorem dd_TL_isPacket_31 : decode bm_TL_isPacket 31 = .ok (.iconst 1, 1) := by decide +kernel
theorem dd_TL_isPacket_32 : decode bm_TL_isPacket 32 = .ok (.goto 4, 3) := by decide +kernel
theorem dd_TL_isPacket_35 : decode bm_TL_isPacket 35 = .ok (.iconst 0, 1) := by decide +kernel
theorem dd_TL_isPacket_36 : decode bm_TL_isPacket 36 = .ok (.ireturn, 1) := by decide +kernel
theorem dd_TL_relayPackets_0 : decode bm_TL_relayPackets 0 = .ok (.iconst 0, 1) := by decide +kernel
theorem dd_TL_relayPackets_1 : decode bm_TL_relayPackets 1 = .ok (.istore_n 2, 1) := by decide +kernel
theorem dd_TL_relayPackets_2 : decode bm_TL_relayPackets 2 = .ok (.iconst 0, 1) := by decide +kernel
theorem dd_TL_relayPackets_3 : decode bm_TL_relayPackets 3 = .ok (.istore_n 3, 1) := by decide +kernel
theorem dd_TL_relayPackets_4 : decode bm_TL_relayPackets 4 = .ok (.iload_n 3, 1) := by decide +kernel
theorem dd_TL_relayPackets_5 : decode bm_TL_relayPackets 5 = .ok (.iconst 3, 1) := by decide +kernel
theorem dd_TL_relayPackets_6 : decode bm_TL_relayPackets 6 = .ok (.if_icmp .ge 55, 3) := by decide +kernel
theorem dd_TL_relayPackets_9 : decode bm_TL_relayPackets 9 = .ok (.aload_n 1, 1) := by decide +kernel
theorem dd_TL_relayPackets_10 : decode bm_TL_relayPackets 10 = .ok (.getfield 116, 3) := by decide +kernel
theorem dd_TL_relayPackets_13 : decode bm_TL_relayPackets 13 = .ok (.iload_n 3, 1) := by decide +kernel
theorem dd_TL_relayPackets_14 : decode bm_TL_relayPackets 14 = .ok (.aaload, 1) := by decide +kernel
theorem dd_TL_relayPackets_15 : decode bm_TL_relayPackets 15 = .ok (.getfield 120, 3) := by decide +kernel
theorem dd_TL_relayPackets_18 : decode bm_TL_relayPackets 18 = .ok (.istore 4, 2) := by decide +kernel
theorem dd_TL_relayPackets_20 : decode bm_TL_relayPackets 20 = .ok (.iconst 1, 1) := by decide +kernel
theorem dd_TL_relayPackets_21 : decode bm_TL_relayPackets 21 = .ok (.istore 5, 2) := by decide +kernel
theorem dd_TL_relayPackets_23 : decode bm_TL_relayPackets 23 = .ok (.iload 5, 2) := by decide +kernel
theorem dd_TL_relayPackets_25 : decode bm_TL_relayPackets 25 = .ok (.iload 4, 2) := by decide +kernel
theorem dd_TL_relayPackets_27 : decode bm_TL_relayPackets 27 = .ok (.if_icmp .gt 28, 3) := by decide +kernel
theorem dd_TL_relayPackets_30 : decode bm_TL_relayPackets 30 = .ok (.aload_n 0, 1) := by decide +kernel
theorem dd_TL_relayPackets_31 : decode bm_TL_relayPackets 31 = .ok (.aload_n 1, 1) := by decide +kernel
theorem dd_TL_relayPackets_32 : decode bm_TL_relayPackets 32 = .ok (.iload_n 3, 1) := by decide +kernel
theorem dd_TL_relayPackets_33 : decode bm_TL_relayPackets 33 = .ok (.iload 5, 2) := by decide +kernel
theorem dd_TL_relayPackets_35 : decode bm_TL_relayPackets 35 = .ok (.aload_n 1, 1) := by decide +kernel
theorem dd_TL_relayPackets_36 : decode bm_TL_relayPackets 36 = .ok (.getfield 28, 3) := by decide +kernel
theorem dd_TL_relayPackets_39 : decode bm_TL_relayPackets 39 = .ok (.iconst 0, 1) := by decide +kernel
theorem dd_TL_relayPackets_40 : decode bm_TL_relayPackets 40 = .ok (.invokevirtual 83, 3) := by decide +kernel
theorem dd_TL_relayPackets_43 : decode bm_TL_relayPackets 43 = .ok (.ifCond .le 6, 3) := by decide +kernel
theorem dd_TL_relayPackets_46 : decode bm_TL_relayPackets 46 = .ok (.iinc 2 1, 3) := by decide +kernel
theorem dd_TL_relayPackets_49 : decode bm_TL_relayPackets 49 = .ok (.iinc 5 1, 3) := by decide +kernel
theorem dd_TL_relayPackets_52 : decode bm_TL_relayPackets 52 = .ok (.goto (-29), 3) := by decide +kernel
theorem dd_TL_relayPackets_55 : decode bm_TL_relayPackets 55 = .ok (.iinc 3 1, 3) := by decide +kernel
theorem dd_TL_relayPackets_58 : decode bm_TL_relayPackets 58 = .ok (.goto (-54), 3) := by decide +kernel
theorem dd_TL_relayPackets_61 : decode bm_TL_relayPackets 61 = .ok (.iload_n 2, 1) := by decide +kernel
theorem dd_TL_relayPackets_62 : decode bm_TL_relayPackets 62 = .ok (.ireturn, 1) := by decide +kernel
theorem dd_TL_relayAnswers_0 : decode bm_TL_relayAnswers 0 = .ok (.iconst 0, 1) := by decide +kernel
theorem dd_TL_relayAnswers_1 : decode bm_TL_relayAnswers 1 = .ok (.istore_n 2, 1) := by decide +kernel
theorem dd_TL_relayAnswers_2 : decode bm_TL_relayAnswers 2 = .ok (.iconst 0, 1) := by decide +kernel
theorem dd_TL_relayAnswers_3 : decode bm_TL_relayAnswers 3 = .ok (.istore_n 3, 1) := by decide +kernel
theorem dd_TL_relayAnswers_4 : decode bm_TL_relayAnswers 4 = .ok (.iload_n 3, 1) := by decide +kernel
theorem dd_TL_relayAnswers_5 : decode bm_TL_relayAnswers 5 = .ok (.iconst 3, 1) := by decide +kernel
theorem dd_TL_relayAnswers_6 : decode bm_TL_relayAnswers 6 = .ok (.if_icmp .ge 54, 3) := by decide +kernel
theorem dd_TL_relayAnswers_9 : decode bm_TL_relayAnswers 9 = .ok (.aload_n 0, 1) := by decide +kernel
theorem dd_TL_relayAnswers_10 : decode bm_TL_relayAnswers 10 = .ok (.getfield 116, 3) := by decide +kernel
theorem dd_TL_relayAnswers_13 : decode bm_TL_relayAnswers 13 = .ok (.iload_n 3, 1) := by decide +kernel
theorem dd_TL_relayAnswers_14 : decode bm_TL_relayAnswers 14 = .ok (.aaload, 1) := by decide +kernel
theorem dd_TL_relayAnswers_15 : decode bm_TL_relayAnswers 15 = .ok (.getfield 120, 3) := by decide +kernel
theorem dd_TL_relayAnswers_18 : decode bm_TL_relayAnswers 18 = .ok (.istore 4, 2) := by decide +kernel
theorem dd_TL_relayAnswers_20 : decode bm_TL_relayAnswers 20 = .ok (.iconst 1, 1) := by decide +kernel
theorem dd_TL_relayAnswers_21 : decode bm_TL_relayAnswers 21 = .ok (.istore 5, 2) := by decide +kernel
theorem dd_TL_relayAnswers_23 : decode bm_TL_relayAnswers 23 = .ok (.iload 5, 2) := by decide +kernel
theorem dd_TL_relayAnswers_25 : decode bm_TL_relayAnswers 25 = .ok (.iload 4, 2) := by decide +kernel
theorem dd_TL_relayAnswers_27 : decode bm_TL_relayAnswers 27 = .ok (.if_icmp .gt 27, 3) := by decide +kernel
theorem dd_TL_relayAnswers_30 : decode bm_TL_relayAnswers 30 = .ok (.aload_n 0, 1) := by decide +kernel
theorem dd_TL_relayAnswers_31 : decode bm_TL_relayAnswers 31 = .ok (.aload_n 1, 1) := by decide +kernel
theorem dd_TL_relayAnswers_32 : decode bm_TL_relayAnswers 32 = .ok (.iload_n 3, 1) := by decide +kernel
theorem dd_TL_relayAnswers_33 : decode bm_TL_relayAnswers 33 = .ok (.iload 5, 2) := by decide +kernel
theorem dd_TL_relayAnswers_35 : decode bm_TL_relayAnswers 35 = .ok (.aload_n 1, 1) := by decide +kernel
theorem dd_TL_relayAnswers_36 : decode bm_TL_relayAnswers 36 = .ok (.getfield 28, 3) := by decide +kernel
theorem dd_TL_relayAnswers_39 : decode bm_TL_relayAnswers 39 = .ok (.invokevirtual 87, 3) := by decide +kernel
theorem dd_TL_relayAnswers_42 : decode bm_TL_relayAnswers 42 = .ok (.ifCond .le 6, 3) := by decide +kernel
theorem dd_TL_relayAnswers_45 : decode bm_TL_relayAnswers 45 = .ok (.iinc 2 1, 3) := by decide +kernel
theorem dd_TL_relayAnswers_48 : decode bm_TL_relayAnswers 48 = .ok (.iinc 5 1, 3) := by decide +kernel
theorem dd_TL_relayAnswers_51 : decode bm_TL_relayAnswers 51 = .ok (.goto (-28), 3) := by decide +kernel
theorem dd_TL_relayAnswers_54 : decode bm_TL_relayAnswers 54 = .ok (.iinc 3 1, 3) := by decide +kernel
theorem dd_TL_relayAnswers_57 : decode bm_TL_relayAnswers 57 = .ok (.goto (-53), 3) := by decide +kernel
theorem dd_TL_relayAnswers_60 : decode bm_TL_relayAnswers 60 = .ok (.iload_n 2, 1) := by decide +kernel
theorem dd_TL_relayAnswers_61 : decode bm_TL_relayAnswers 61 = .ok (.ireturn, 1) := by decide +kernel
theorem dd_TL_relayTimeouts_0 : decode bm_TL_relayTimeouts 0 = .ok (.iconst 0, 1) := by decide +kernel
theorem dd_TL_relayTimeouts_1 : decode bm_TL_relayTimeouts 1 = .ok (.istore_n 2, 1) := by decide +kernel
theorem dd_TL_relayTimeouts_2 : decode bm_TL_relayTimeouts 2 = .ok (.iconst 0, 1) := by decide +kernel
theorem dd_TL_relayTimeouts_3 : decode bm_TL_relayTimeouts 3 = .ok (.istore_n 3, 1) := by decide +kernel
theorem dd_TL_relayTimeouts_4 : decode bm_TL_relayTimeouts 4 = .ok (.iload_n 3, 1) := by decide +kernel
theorem dd_TL_relayTimeouts_5 : decode bm_TL_relayTimeouts 5 = .ok (.iconst 3, 1) := by decide +kernel
theorem dd_TL_relayTimeouts_6 : decode bm_TL_relayTimeouts 6 = .ok (.if_icmp .ge 55, 3) := by decide +kernel
theorem dd_TL_relayTimeouts_9 : decode bm_TL_relayTimeouts 9 = .ok (.aload_n 0, 1) := by decide +kernel
theorem dd_TL_relayTimeouts_10 : decode bm_TL_relayTimeouts 10 = .ok (.getfield 116, 3) := by decide +kernel
theorem dd_TL_relayTimeouts_13 : decode bm_TL_relayTimeouts 13 = .ok (.iload_n 3, 1) := by decide +kernel
theorem dd_TL_relayTimeouts_14 : decode bm_TL_relayTimeouts 14 = .ok (.aaload, 1) := by decide +kernel
theorem dd_TL_relayTimeouts_15 : decode bm_TL_relayTimeouts 15 = .ok (.getfield 120, 3) := by decide +kernel
theorem dd_TL_relayTimeouts_18 : decode bm_TL_relayTimeouts 18 = .ok (.istore 4, 2) := by decide +kernel
theorem dd_TL_relayTimeouts_20 : decode bm_TL_relayTimeouts 20 = .ok (.iconst 1, 1) := by decide +kernel
theorem dd_TL_relayTimeouts_21 : decode bm_TL_relayTimeouts 21 = .ok (.istore 5, 2) := by decide +kernel
theorem dd_TL_relayTimeouts_23 : decode bm_TL_relayTimeouts 23 = .ok (.iload 5, 2) := by decide +kernel
theorem dd_TL_relayTimeouts_25 : decode bm_TL_relayTimeouts 25 = .ok (.iload 4, 2) := by decide +kernel
theorem dd_TL_relayTimeouts_27 : decode bm_TL_relayTimeouts 27 = .ok (.if_icmp .gt 28, 3) := by decide +kernel
theorem dd_TL_relayTimeouts_30 : decode bm_TL_relayTimeouts 30 = .ok (.aload_n 0, 1) := by decide +kernel
theorem dd_TL_relayTimeouts_31 : decode bm_TL_relayTimeouts 31 = .ok (.aload_n 1, 1) := by decide +kernel
theorem dd_TL_relayTimeouts_32 : decode bm_TL_relayTimeouts 32 = .ok (.iload_n 3, 1) := by decide +kernel
theorem dd_TL_relayTimeouts_33 : decode bm_TL_relayTimeouts 33 = .ok (.iload 5, 2) := by decide +kernel
theorem dd_TL_relayTimeouts_35 : decode bm_TL_relayTimeouts 35 = .ok (.aload_n 1, 1) := by decide +kernel
theorem dd_TL_relayTimeouts_36 : decode bm_TL_relayTimeouts 36 = .ok (.getfield 28, 3) := by decide +kernel
theorem dd_TL_relayTimeouts_39 : decode bm_TL_relayTimeouts 39 = .ok (.iconst 0, 1) := by decide +kernel
theorem dd_TL_relayTimeouts_40 : decode bm_TL_relayTimeouts 40 = .ok (.invokevirtual 91, 3) := by decide +kernel
theorem dd_TL_relayTimeouts_43 : decode bm_TL_relayTimeouts 43 = .ok (.ifCond .ne 6, 3) := by decide +kernel
theorem dd_TL_relayTimeouts_46 : decode bm_TL_relayTimeouts 46 = .ok (.iinc 2 1, 3) := by decide +kernel
theorem dd_TL_relayTimeouts_49 : decode bm_TL_relayTimeouts 49 = .ok (.iinc 5 1, 3) := by decide +kernel
theorem dd_TL_relayTimeouts_52 : decode bm_TL_relayTimeouts 52 = .ok (.goto (-29), 3) := by decide +kernel
theorem dd_TL_relayTimeouts_55 : decode bm_TL_relayTimeouts 55 = .ok (.iinc 3 1, 3) := by decide +kernel
theorem dd_TL_relayTimeouts_58 : decode bm_TL_relayTimeouts 58 = .ok (.goto (-54), 3) := by decide +kernel
theorem dd_TL_relayTimeouts_61 : decode bm_TL_relayTimeouts 61 = .ok (.iload_n 2, 1) := by decide +kernel
theorem dd_TL_relayTimeouts_62 : decode bm_TL_relayTimeouts 62 = .ok (.ireturn, 1) := by decide +kernel
