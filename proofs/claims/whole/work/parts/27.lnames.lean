def ym_Law_cell : MethodName := ⟨"TwinLedgersLaw", "cell", "([II)I"⟩
abbrev bm_Law_cell : ByteArray := method_2_code
theorem zk_Law_cell : Cond.code ym_Law_cell bm_Law_cell 2 (some .int) ∈ zw_WS ∧ Cond.initialized ym_Law_cell.cls ∈ zw_WS ∧ (ym_Law_cell.cls ≠ "java/lang/invoke/MethodHandle" ∧ ym_Law_cell.cls ≠ "java/lang/invoke/VarHandle" ∧ (parseMethodDescriptor ym_Law_cell.desc).map (fun d => d.parameters.length) = some 2) := ⟨zw_mem 518 (by decide +kernel) rfl, zw_mem 26 (by decide +kernel) rfl, by decide +kernel, by decide +kernel, by decide +kernel⟩
theorem za_Law_cell : Cond.static ym_Law_cell ∈ zw_WS := zw_mem 517 (by decide +kernel) rfl
theorem dd_Law_cell_0 : decode bm_Law_cell 0 = .ok (.iload_n 1, 1) := by decide +kernel
theorem dd_Law_cell_1 : decode bm_Law_cell 1 = .ok (.aload_n 0, 1) := by decide +kernel
theorem dd_Law_cell_2 : decode bm_Law_cell 2 = .ok (.arraylength, 1) := by decide +kernel
theorem dd_Law_cell_3 : decode bm_Law_cell 3 = .ok (.if_icmp .ge 9, 3) := by decide +kernel
theorem dd_Law_cell_6 : decode bm_Law_cell 6 = .ok (.aload_n 0, 1) := by decide +kernel
theorem dd_Law_cell_7 : decode bm_Law_cell 7 = .ok (.iload_n 1, 1) := by decide +kernel
theorem dd_Law_cell_8 : decode bm_Law_cell 8 = .ok (.iaload, 1) := by decide +kernel
theorem dd_Law_cell_9 : decode bm_Law_cell 9 = .ok (.goto 4, 3) := by decide +kernel
theorem dd_Law_cell_12 : decode bm_Law_cell 12 = .ok (.iconst 0, 1) := by decide +kernel
theorem dd_Law_cell_13 : decode bm_Law_cell 13 = .ok (.ireturn, 1) := by decide +kernel
theorem wi_Mo : Cond.instantiable "TwinLedgersModel" 26 ∈ zw_WS := zw_mem 520 (by decide +kernel) rfl
theorem wi_TL : Cond.instantiable "TwinLedgers" 2 ∈ zw_WS := zw_mem 38 (by decide +kernel) rfl
theorem wj_Mo : Cond.initialized "TwinLedgersModel" ∈ zw_WS := zw_mem 34 (by decide +kernel) rfl
theorem wj_TL : Cond.initialized "TwinLedgers" ∈ zw_WS := zw_mem 27 (by decide +kernel) rfl
theorem wl_Law_100 : Cond.methodLink "TwinLedgersLaw" 100 ym_TL_balance ∈ zw_WS := zw_mem 504 (by decide +kernel) rfl
theorem wl_Law_103 : Cond.methodLink "TwinLedgersLaw" 103 ym_Mo_balance ∈ zw_WS := zw_mem 739 (by decide +kernel) rfl
theorem wl_Law_104 : Cond.methodLink "TwinLedgersLaw" 104 ym_TL_escrow ∈ zw_WS := zw_mem 508 (by decide +kernel) rfl
theorem wl_Law_107 : Cond.methodLink "TwinLedgersLaw" 107 ym_Mo_escrow ∈ zw_WS := zw_mem 743 (by decide +kernel) rfl
theorem wl_Law_108 : Cond.methodLink "TwinLedgersLaw" 108 ym_TL_voucher ∈ zw_WS := zw_mem 512 (by decide +kernel) rfl
theorem wl_Law_111 : Cond.methodLink "TwinLedgersLaw" 111 ym_Mo_voucher ∈ zw_WS := zw_mem 747 (by decide +kernel) rfl
theorem wl_Law_15 : Cond.methodLink "TwinLedgersLaw" 15 ym_TL_ctor ∈ zw_WS := zw_mem 39 (by decide +kernel) rfl
theorem wl_Law_20 : Cond.methodLink "TwinLedgersLaw" 20 ym_Mo_ctor ∈ zw_WS := zw_mem 521 (by decide +kernel) rfl
theorem wl_Law_21 : Cond.methodLink "TwinLedgersLaw" 21 ym_TL_tick ∈ zw_WS := zw_mem 208 (by decide +kernel) rfl
theorem wl_Law_25 : Cond.methodLink "TwinLedgersLaw" 25 ym_Mo_tick ∈ zw_WS := zw_mem 604 (by decide +kernel) rfl
theorem wl_Law_26 : Cond.methodLink "TwinLedgersLaw" 26 ym_TL_update ∈ zw_WS := zw_mem 223 (by decide +kernel) rfl
theorem wl_Law_30 : Cond.methodLink "TwinLedgersLaw" 30 ym_Mo_update ∈ zw_WS := zw_mem 627 (by decide +kernel) rfl
theorem wl_Law_31 : Cond.methodLink "TwinLedgersLaw" 31 ym_TL_init ∈ zw_WS := zw_mem 240 (by decide +kernel) rfl
theorem wl_Law_35 : Cond.methodLink "TwinLedgersLaw" 35 ym_Mo_init ∈ zw_WS := zw_mem 647 (by decide +kernel) rfl
theorem wl_Law_36 : Cond.methodLink "TwinLedgersLaw" 36 ym_TL_attempt ∈ zw_WS := zw_mem 273 (by decide +kernel) rfl
theorem wl_Law_40 : Cond.methodLink "TwinLedgersLaw" 40 ym_Mo_attempt ∈ zw_WS := zw_mem 654 (by decide +kernel) rfl
theorem wl_Law_41 : Cond.methodLink "TwinLedgersLaw" 41 ym_TL_open ∈ zw_WS := zw_mem 309 (by decide +kernel) rfl
theorem wl_Law_45 : Cond.methodLink "TwinLedgersLaw" 45 ym_Mo_open ∈ zw_WS := zw_mem 666 (by decide +kernel) rfl
theorem wl_Law_46 : Cond.methodLink "TwinLedgersLaw" 46 ym_TL_close ∈ zw_WS := zw_mem 321 (by decide +kernel) rfl
theorem wl_Law_50 : Cond.methodLink "TwinLedgersLaw" 50 ym_Mo_close ∈ zw_WS := zw_mem 670 (by decide +kernel) rfl
theorem wl_Law_51 : Cond.methodLink "TwinLedgersLaw" 51 ym_TL_send ∈ zw_WS := zw_mem 329 (by decide +kernel) rfl
theorem wl_Law_55 : Cond.methodLink "TwinLedgersLaw" 55 ym_Mo_send ∈ zw_WS := zw_mem 674 (by decide +kernel) rfl
theorem wl_Law_56 : Cond.methodLink "TwinLedgersLaw" 56 ym_TL_receive ∈ zw_WS := zw_mem 364 (by decide +kernel) rfl
theorem wl_Law_60 : Cond.methodLink "TwinLedgersLaw" 60 ym_Mo_receive ∈ zw_WS := zw_mem 678 (by decide +kernel) rfl
theorem wl_Law_61 : Cond.methodLink "TwinLedgersLaw" 61 ym_TL_acknowledge ∈ zw_WS := zw_mem 415 (by decide +kernel) rfl
theorem wl_Law_64 : Cond.methodLink "TwinLedgersLaw" 64 ym_Mo_acknowledge ∈ zw_WS := zw_mem 690 (by decide +kernel) rfl
theorem wl_Law_65 : Cond.methodLink "TwinLedgersLaw" 65 ym_TL_timeout ∈ zw_WS := zw_mem 435 (by decide +kernel) rfl
theorem wl_Law_68 : Cond.methodLink "TwinLedgersLaw" 68 ym_Mo_timeout ∈ zw_WS := zw_mem 698 (by decide +kernel) rfl
theorem wl_Law_69 : Cond.methodLink "TwinLedgersLaw" 69 ym_TL_round ∈ zw_WS := zw_mem 451 (by decide +kernel) rfl
theorem wl_Law_73 : Cond.methodLink "TwinLedgersLaw" 73 ym_Mo_round ∈ zw_WS := zw_mem 706 (by decide +kernel) rfl
theorem wl_Law_74 : Cond.methodLink "TwinLedgersLaw" 74 ym_TL_height ∈ zw_WS := zw_mem 464 (by decide +kernel) rfl
theorem wl_Law_77 : Cond.methodLink "TwinLedgersLaw" 77 ym_Mo_height ∈ zw_WS := zw_mem 719 (by decide +kernel) rfl
theorem wl_Law_78 : Cond.methodLink "TwinLedgersLaw" 78 ym_TL_root ∈ zw_WS := zw_mem 468 (by decide +kernel) rfl
theorem wl_Law_81 : Cond.methodLink "TwinLedgersLaw" 81 ym_Mo_root ∈ zw_WS := zw_mem 635 (by decide +kernel) rfl
theorem wl_Law_82 : Cond.methodLink "TwinLedgersLaw" 82 ym_TL_knows ∈ zw_WS := zw_mem 484 (by decide +kernel) rfl
theorem wl_Law_86 : Cond.methodLink "TwinLedgersLaw" 86 ym_Mo_knows ∈ zw_WS := zw_mem 631 (by decide +kernel) rfl
theorem wl_Law_87 : Cond.methodLink "TwinLedgersLaw" 87 ym_TL_end ∈ zw_WS := zw_mem 489 (by decide +kernel) rfl
theorem wl_Law_9 : Cond.methodLink "TwinLedgersLaw" 9 ym_Law_cell ∈ zw_WS := zw_mem 516 (by decide +kernel) rfl
theorem wl_Law_91 : Cond.methodLink "TwinLedgersLaw" 91 ym_Mo_end ∈ zw_WS := zw_mem 723 (by decide +kernel) rfl
theorem wl_Law_92 : Cond.methodLink "TwinLedgersLaw" 92 ym_TL_packet ∈ zw_WS := zw_mem 496 (by decide +kernel) rfl
theorem wl_Law_95 : Cond.methodLink "TwinLedgersLaw" 95 ym_Mo_packet ∈ zw_WS := zw_mem 727 (by decide +kernel) rfl
theorem wl_Law_96 : Cond.methodLink "TwinLedgersLaw" 96 ym_TL_limit ∈ zw_WS := zw_mem 500 (by decide +kernel) rfl
theorem wl_Law_99 : Cond.methodLink "TwinLedgersLaw" 99 ym_Mo_limit ∈ zw_WS := zw_mem 735 (by decide +kernel) rfl
theorem wq_Law_18 : Cond.classLink "TwinLedgersLaw" 18 "TwinLedgersModel" ∈ zw_WS := zw_mem 519 (by decide +kernel) rfl
theorem wq_Law_7 : Cond.classLink "TwinLedgersLaw" 7 "TwinLedgers" ∈ zw_WS := zw_mem 37 (by decide +kernel) rfl
theorem wo_Ledger : Cond.arrayOver (.object "TwinLedgers$Ledger") ∈ lw_tbl := List.mem_of_getElem? (i := 46) (by decide +kernel)
theorem wo_Store : Cond.arrayOver (.object "TwinLedgers$Store") ∈ lw_tbl := List.mem_of_getElem? (i := 67) (by decide +kernel)
theorem wo_End : Cond.arrayOver (.object "TwinLedgers$End") ∈ lw_tbl := List.mem_of_getElem? (i := 112) (by decide +kernel)
theorem wo_Packet : Cond.arrayOver (.object "TwinLedgers$Packet") ∈ lw_tbl := List.mem_of_getElem? (i := 119) (by decide +kernel)
theorem wo_A : Cond.arrayOver (.array .int) ∈ lw_tbl := List.mem_of_getElem? (i := 89) (by decide +kernel)
theorem zg_NS : ∀ w ∈ zw_NS, w ∈ lw_tbl := by decide +kernel
