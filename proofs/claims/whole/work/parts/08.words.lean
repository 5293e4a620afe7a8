theorem wc_Integer_265 : Cond.constant "java/lang/Integer" 265 1431655765 ∈ zw_WS := zw_mem 230 (by decide +kernel) rfl
theorem wc_Integer_266 : Cond.constant "java/lang/Integer" 266 858993459 ∈ zw_WS := zw_mem 231 (by decide +kernel) rfl
theorem wc_Integer_267 : Cond.constant "java/lang/Integer" 267 252645135 ∈ zw_WS := zw_mem 232 (by decide +kernel) rfl
theorem wc_Mo_90 : Cond.constant "TwinLedgersModel" 90 73244475 ∈ zw_WS := zw_mem 626 (by decide +kernel) rfl
theorem wc_TL_157 : Cond.constant "TwinLedgers" 157 73244475 ∈ zw_WS := zw_mem 363 (by decide +kernel) rfl
theorem wf_Bank_11 : Cond.fieldLink "TwinLedgers$Bank" 11 "TwinLedgers$Bank" "purses" "[[I" ∈ zw_WS := zw_mem 90 (by decide +kernel) rfl
theorem wf_Bank_16 : Cond.fieldLink "TwinLedgers$Bank" 16 "TwinLedgers$Bank" "escrows" "[[I" ∈ zw_WS := zw_mem 93 (by decide +kernel) rfl
theorem wf_Bank_19 : Cond.fieldLink "TwinLedgers$Bank" 19 "TwinLedgers$Bank" "bases" "[I" ∈ zw_WS := zw_mem 95 (by decide +kernel) rfl
theorem wf_Bank_23 : Cond.fieldLink "TwinLedgers$Bank" 23 "TwinLedgers$Bank" "channels" "[I" ∈ zw_WS := zw_mem 97 (by decide +kernel) rfl
theorem wf_Bank_26 : Cond.fieldLink "TwinLedgers$Bank" 26 "TwinLedgers$Bank" "vouchers" "I" ∈ zw_WS := zw_mem 99 (by decide +kernel) rfl
theorem wf_Bank_30 : Cond.fieldLinkNest "TwinLedgers$Bank" 30 "TwinLedgers$Packet" "from" "I" "TwinLedgers" ∈ zw_NS := List.mem_of_getElem? (i := 13) rfl
theorem wf_Bank_35 : Cond.fieldLinkNest "TwinLedgers$Bank" 35 "TwinLedgers$Packet" "kind" "I" "TwinLedgers" ∈ zw_NS := List.mem_of_getElem? (i := 9) rfl
theorem wf_Bank_38 : Cond.fieldLinkNest "TwinLedgers$Bank" 38 "TwinLedgers$Packet" "amount" "I" "TwinLedgers" ∈ zw_NS := List.mem_of_getElem? (i := 11) rfl
theorem wf_Bank_45 : Cond.fieldLinkNest "TwinLedgers$Bank" 45 "TwinLedgers$Packet" "to" "I" "TwinLedgers" ∈ zw_NS := List.mem_of_getElem? (i := 15) rfl
theorem wf_Bank_55 : Cond.fieldLinkNest "TwinLedgers$Bank" 55 "TwinLedgers$Packet" "back" "I" "TwinLedgers" ∈ zw_NS := List.mem_of_getElem? (i := 19) rfl
theorem wf_Client_15 : Cond.fieldLink "TwinLedgers$Client" 15 "TwinLedgers$Client" "greatest" "I" ∈ zw_WS := zw_mem 75 (by decide +kernel) rfl
theorem wf_Client_9 : Cond.fieldLink "TwinLedgers$Client" 9 "TwinLedgers$Client" "known" "[Z" ∈ zw_WS := zw_mem 74 (by decide +kernel) rfl
theorem wf_Ledger_114 : Cond.fieldLinkNest "TwinLedgers$Ledger" 114 "TwinLedgers$End" "sent" "I" "TwinLedgers" ∈ zw_NS := List.mem_of_getElem? (i := 26) rfl
theorem wf_Ledger_117 : Cond.fieldLinkNest "TwinLedgers$Ledger" 117 "TwinLedgers$Bank" "purses" "[[I" "TwinLedgers" ∈ zw_NS := List.mem_of_getElem? (i := 3) rfl
theorem wf_Ledger_12 : Cond.fieldLink "TwinLedgers$Ledger" 12 "TwinLedgers$Ledger" "store" "LTwinLedgers$Store;" ∈ zw_WS := zw_mem 175 (by decide +kernel) rfl
theorem wf_Ledger_121 : Cond.fieldLinkNest "TwinLedgers$Ledger" 121 "TwinLedgers$End" "packets" "[LTwinLedgers$Packet;" "TwinLedgers" ∈ zw_NS := List.mem_of_getElem? (i := 24) rfl
theorem wf_Ledger_125 : Cond.fieldLinkNest "TwinLedgers$Ledger" 125 "TwinLedgers$Packet" "kind" "I" "TwinLedgers" ∈ zw_NS := List.mem_of_getElem? (i := 10) rfl
theorem wf_Ledger_130 : Cond.fieldLinkNest "TwinLedgers$Ledger" 130 "TwinLedgers$Packet" "amount" "I" "TwinLedgers" ∈ zw_NS := List.mem_of_getElem? (i := 12) rfl
theorem wf_Ledger_133 : Cond.fieldLinkNest "TwinLedgers$Ledger" 133 "TwinLedgers$Packet" "from" "I" "TwinLedgers" ∈ zw_NS := List.mem_of_getElem? (i := 14) rfl
theorem wf_Ledger_136 : Cond.fieldLinkNest "TwinLedgers$Ledger" 136 "TwinLedgers$Packet" "to" "I" "TwinLedgers" ∈ zw_NS := List.mem_of_getElem? (i := 16) rfl
theorem wf_Ledger_139 : Cond.fieldLinkNest "TwinLedgers$Ledger" 139 "TwinLedgers$Client" "greatest" "I" "TwinLedgers" ∈ zw_NS := List.mem_of_getElem? (i := 2) rfl
theorem wf_Ledger_142 : Cond.fieldLinkNest "TwinLedgers$Ledger" 142 "TwinLedgers$Packet" "lastHeight" "I" "TwinLedgers" ∈ zw_NS := List.mem_of_getElem? (i := 18) rfl
theorem wf_Ledger_148 : Cond.fieldLinkNest "TwinLedgers$Ledger" 148 "TwinLedgers$Packet" "back" "I" "TwinLedgers" ∈ zw_NS := List.mem_of_getElem? (i := 20) rfl
theorem wf_Ledger_18 : Cond.fieldLink "TwinLedgers$Ledger" 18 "TwinLedgers$Ledger" "states" "[LTwinLedgers$Store;" ∈ zw_WS := zw_mem 176 (by decide +kernel) rfl
theorem wf_Ledger_184 : Cond.fieldLinkNest "TwinLedgers$Ledger" 184 "TwinLedgers$End" "nextToAcknowledge" "I" "TwinLedgers" ∈ zw_NS := List.mem_of_getElem? (i := 28) rfl
theorem wf_Ledger_187 : Cond.fieldLinkNest "TwinLedgers$Ledger" 187 "TwinLedgers$Packet" "fate" "I" "TwinLedgers" ∈ zw_NS := List.mem_of_getElem? (i := 22) rfl
theorem wf_Ledger_22 : Cond.fieldLink "TwinLedgers$Ledger" 22 "TwinLedgers$Ledger" "nodes" "[I" ∈ zw_WS := zw_mem 177 (by decide +kernel) rfl
theorem wf_Ledger_29 : Cond.fieldLink "TwinLedgers$Ledger" 29 "TwinLedgers$Ledger" "client" "LTwinLedgers$Client;" ∈ zw_WS := zw_mem 178 (by decide +kernel) rfl
theorem wf_Ledger_36 : Cond.fieldLink "TwinLedgers$Ledger" 36 "TwinLedgers$Ledger" "bank" "LTwinLedgers$Bank;" ∈ zw_WS := zw_mem 180 (by decide +kernel) rfl
theorem wf_Ledger_42 : Cond.fieldLink "TwinLedgers$Ledger" 42 "TwinLedgers$Ledger" "ends" "[LTwinLedgers$End;" ∈ zw_WS := zw_mem 182 (by decide +kernel) rfl
theorem wf_Ledger_47 : Cond.fieldLink "TwinLedgers$Ledger" 47 "TwinLedgers$Ledger" "height" "I" ∈ zw_WS := zw_mem 184 (by decide +kernel) rfl
theorem wf_Mo_13 : Cond.fieldLink "TwinLedgersModel" 13 "TwinLedgersModel" "known" "[Z" ∈ zw_WS := zw_mem 527 (by decide +kernel) rfl
theorem wf_Mo_17 : Cond.fieldLink "TwinLedgersModel" 17 "TwinLedgersModel" "newest" "[I" ∈ zw_WS := zw_mem 528 (by decide +kernel) rfl
theorem wf_Mo_20 : Cond.fieldLink "TwinLedgersModel" 20 "TwinLedgersModel" "sizes" "[I" ∈ zw_WS := zw_mem 529 (by decide +kernel) rfl
theorem wf_Mo_23 : Cond.fieldLink "TwinLedgersModel" 23 "TwinLedgersModel" "keys" "[I" ∈ zw_WS := zw_mem 530 (by decide +kernel) rfl
theorem wf_Mo_26 : Cond.fieldLink "TwinLedgersModel" 26 "TwinLedgersModel" "values" "[I" ∈ zw_WS := zw_mem 531 (by decide +kernel) rfl
theorem wf_Mo_29 : Cond.fieldLink "TwinLedgersModel" 29 "TwinLedgersModel" "state" "[I" ∈ zw_WS := zw_mem 532 (by decide +kernel) rfl
theorem wf_Mo_32 : Cond.fieldLink "TwinLedgersModel" 32 "TwinLedgersModel" "ordered" "[Z" ∈ zw_WS := zw_mem 533 (by decide +kernel) rfl
theorem wf_Mo_35 : Cond.fieldLink "TwinLedgersModel" 35 "TwinLedgersModel" "sent" "[I" ∈ zw_WS := zw_mem 534 (by decide +kernel) rfl
theorem wf_Mo_38 : Cond.fieldLink "TwinLedgersModel" 38 "TwinLedgersModel" "nextIn" "[I" ∈ zw_WS := zw_mem 535 (by decide +kernel) rfl
theorem wf_Mo_41 : Cond.fieldLink "TwinLedgersModel" 41 "TwinLedgersModel" "nextAnswer" "[I" ∈ zw_WS := zw_mem 536 (by decide +kernel) rfl
theorem wf_Mo_44 : Cond.fieldLink "TwinLedgersModel" 44 "TwinLedgersModel" "pKind" "[I" ∈ zw_WS := zw_mem 537 (by decide +kernel) rfl
theorem wf_Mo_47 : Cond.fieldLink "TwinLedgersModel" 47 "TwinLedgersModel" "pAmount" "[I" ∈ zw_WS := zw_mem 538 (by decide +kernel) rfl
theorem wf_Mo_50 : Cond.fieldLink "TwinLedgersModel" 50 "TwinLedgersModel" "pWho" "[I" ∈ zw_WS := zw_mem 539 (by decide +kernel) rfl
theorem wf_Mo_53 : Cond.fieldLink "TwinLedgersModel" 53 "TwinLedgersModel" "pLimit" "[I" ∈ zw_WS := zw_mem 540 (by decide +kernel) rfl
theorem wf_Mo_56 : Cond.fieldLink "TwinLedgersModel" 56 "TwinLedgersModel" "pBack" "[I" ∈ zw_WS := zw_mem 541 (by decide +kernel) rfl
theorem wf_Mo_59 : Cond.fieldLink "TwinLedgersModel" 59 "TwinLedgersModel" "pStatus" "[I" ∈ zw_WS := zw_mem 542 (by decide +kernel) rfl
theorem wf_Mo_62 : Cond.fieldLink "TwinLedgersModel" 62 "TwinLedgersModel" "pAnswer" "[I" ∈ zw_WS := zw_mem 543 (by decide +kernel) rfl
theorem wf_Mo_65 : Cond.fieldLink "TwinLedgersModel" 65 "TwinLedgersModel" "balance" "[I" ∈ zw_WS := zw_mem 544 (by decide +kernel) rfl
theorem wf_Mo_68 : Cond.fieldLink "TwinLedgersModel" 68 "TwinLedgersModel" "escrow" "[I" ∈ zw_WS := zw_mem 545 (by decide +kernel) rfl
theorem wf_Mo_7 : Cond.fieldLink "TwinLedgersModel" 7 "TwinLedgersModel" "height" "[I" ∈ zw_WS := zw_mem 526 (by decide +kernel) rfl
theorem wf_Mo_71 : Cond.fieldLink "TwinLedgersModel" 71 "TwinLedgersModel" "vouchers" "[I" ∈ zw_WS := zw_mem 546 (by decide +kernel) rfl
theorem wf_Mo_74 : Cond.fieldLink "TwinLedgersModel" 74 "TwinLedgersModel" "base" "[I" ∈ zw_WS := zw_mem 547 (by decide +kernel) rfl
theorem wf_Mo_77 : Cond.fieldLink "TwinLedgersModel" 77 "TwinLedgersModel" "by" "[I" ∈ zw_WS := zw_mem 548 (by decide +kernel) rfl
theorem wf_Mo_80 : Cond.fieldLink "TwinLedgersModel" 80 "TwinLedgersModel" "part" "[I" ∈ zw_WS := zw_mem 549 (by decide +kernel) rfl
theorem wf_Mo_83 : Cond.fieldLink "TwinLedgersModel" 83 "TwinLedgersModel" "leaves" "[I" ∈ zw_WS := zw_mem 550 (by decide +kernel) rfl
theorem wf_Mo_86 : Cond.fieldLink "TwinLedgersModel" 86 "TwinLedgersModel" "patience" "I" ∈ zw_WS := zw_mem 525 (by decide +kernel) rfl
theorem wf_Packet_15 : Cond.fieldLink "TwinLedgers$Packet" 15 "TwinLedgers$Packet" "kind" "I" ∈ zw_WS := zw_mem 125 (by decide +kernel) rfl
theorem wf_Packet_22 : Cond.fieldLink "TwinLedgers$Packet" 22 "TwinLedgers$Packet" "amount" "I" ∈ zw_WS := zw_mem 128 (by decide +kernel) rfl
theorem wf_Packet_25 : Cond.fieldLink "TwinLedgers$Packet" 25 "TwinLedgers$Packet" "from" "I" ∈ zw_WS := zw_mem 131 (by decide +kernel) rfl
theorem wf_Packet_28 : Cond.fieldLink "TwinLedgers$Packet" 28 "TwinLedgers$Packet" "to" "I" ∈ zw_WS := zw_mem 134 (by decide +kernel) rfl
theorem wf_Packet_31 : Cond.fieldLink "TwinLedgers$Packet" 31 "TwinLedgers$Packet" "lastHeight" "I" ∈ zw_WS := zw_mem 137 (by decide +kernel) rfl
theorem wf_Packet_9 : Cond.fieldLink "TwinLedgers$Packet" 9 "TwinLedgers$Packet" "back" "I" ∈ zw_WS := zw_mem 140 (by decide +kernel) rfl
theorem wf_Store_11 : Cond.fieldLink "TwinLedgers$Store" 11 "TwinLedgers$Store" "values" "[I" ∈ zw_WS := zw_mem 58 (by decide +kernel) rfl
theorem wf_Store_15 : Cond.fieldLink "TwinLedgers$Store" 15 "TwinLedgers$Store" "there" "[Z" ∈ zw_WS := zw_mem 59 (by decide +kernel) rfl
theorem wf_TL_11 : Cond.fieldLink "TwinLedgers" 11 "TwinLedgers" "ledgers" "[LTwinLedgers$Ledger;" ∈ zw_WS := zw_mem 202 (by decide +kernel) rfl
theorem wf_TL_116 : Cond.fieldLinkNest "TwinLedgers" 116 "TwinLedgers$Ledger" "ends" "[LTwinLedgers$End;" "TwinLedgers" ∈ zw_NS := List.mem_of_getElem? (i := 31) rfl
theorem wf_TL_120 : Cond.fieldLinkNest "TwinLedgers" 120 "TwinLedgers$End" "sent" "I" "TwinLedgers" ∈ zw_NS := List.mem_of_getElem? (i := 25) rfl
theorem wf_TL_128 : Cond.fieldLinkNest "TwinLedgers" 128 "TwinLedgers$End" "nextToAcknowledge" "I" "TwinLedgers" ∈ zw_NS := List.mem_of_getElem? (i := 27) rfl
theorem wf_TL_131 : Cond.fieldLinkNest "TwinLedgers" 131 "TwinLedgers$End" "packets" "[LTwinLedgers$Packet;" "TwinLedgers" ∈ zw_NS := List.mem_of_getElem? (i := 23) rfl
theorem wf_TL_135 : Cond.fieldLinkNest "TwinLedgers" 135 "TwinLedgers$Packet" "fate" "I" "TwinLedgers" ∈ zw_NS := List.mem_of_getElem? (i := 21) rfl
theorem wf_TL_140 : Cond.fieldLinkNest "TwinLedgers" 140 "TwinLedgers$Packet" "lastHeight" "I" "TwinLedgers" ∈ zw_NS := List.mem_of_getElem? (i := 17) rfl
theorem wf_TL_143 : Cond.fieldLinkNest "TwinLedgers" 143 "TwinLedgers$Bank" "purses" "[[I" "TwinLedgers" ∈ zw_NS := List.mem_of_getElem? (i := 4) rfl
theorem wf_TL_147 : Cond.fieldLinkNest "TwinLedgers" 147 "TwinLedgers$Bank" "escrows" "[[I" "TwinLedgers" ∈ zw_NS := List.mem_of_getElem? (i := 5) rfl
theorem wf_TL_15 : Cond.fieldLink "TwinLedgers" 15 "TwinLedgers" "patience" "I" ∈ zw_WS := zw_mem 201 (by decide +kernel) rfl
theorem wf_TL_150 : Cond.fieldLinkNest "TwinLedgers" 150 "TwinLedgers$Bank" "bases" "[I" "TwinLedgers" ∈ zw_NS := List.mem_of_getElem? (i := 6) rfl
theorem wf_TL_154 : Cond.fieldLinkNest "TwinLedgers" 154 "TwinLedgers$Bank" "channels" "[I" "TwinLedgers" ∈ zw_NS := List.mem_of_getElem? (i := 7) rfl
theorem wf_TL_28 : Cond.fieldLinkNest "TwinLedgers" 28 "TwinLedgers$Ledger" "height" "I" "TwinLedgers" ∈ zw_NS := List.mem_of_getElem? (i := 32) rfl
theorem wf_TL_37 : Cond.fieldLinkNest "TwinLedgers" 37 "TwinLedgers$Ledger" "client" "LTwinLedgers$Client;" "TwinLedgers" ∈ zw_NS := List.mem_of_getElem? (i := 29) rfl
theorem wf_TL_66 : Cond.fieldLinkNest "TwinLedgers" 66 "TwinLedgers$Ledger" "bank" "LTwinLedgers$Bank;" "TwinLedgers" ∈ zw_NS := List.mem_of_getElem? (i := 30) rfl
theorem wl_Bank_41 : Cond.methodLink "TwinLedgers$Bank" 41 ym_Packet_goesBack ∈ zw_WS := zw_mem 349 (by decide +kernel) rfl
theorem wl_Bank_48 : Cond.methodLink "TwinLedgers$Bank" 48 ym_Bank_takeBack ∈ zw_WS := zw_mem 396 (by decide +kernel) rfl
theorem wl_Bank_52 : Cond.methodLink "TwinLedgers$Bank" 52 ym_Bank_takeVoucher ∈ zw_WS := zw_mem 400 (by decide +kernel) rfl
theorem wl_Bank_58 : Cond.methodLink "TwinLedgers$Bank" 58 ym_Bank_findVoucher ∈ zw_WS := zw_mem 404 (by decide +kernel) rfl
theorem wl_Client_19 : Cond.methodLink "TwinLedgers$Client" 19 Lib.Math.max.name ∈ zw_WS := zw_mem 237 (by decide +kernel) rfl
theorem wl_Ledger_103 : Cond.methodLink "TwinLedgers$Ledger" 103 ym_Store_put ∈ zw_WS := zw_mem 266 (by decide +kernel) rfl
theorem wl_Ledger_107 : Cond.methodLink "TwinLedgers$Ledger" 107 ym_Ledger_proveEnd ∈ zw_WS := zw_mem 285 (by decide +kernel) rfl
theorem wl_Ledger_111 : Cond.methodLink "TwinLedgers$Ledger" 111 ym_Ledger_moveEnd ∈ zw_WS := zw_mem 317 (by decide +kernel) rfl
theorem wl_Ledger_145 : Cond.methodLink "TwinLedgers$Ledger" 145 ym_Bank_backBy ∈ zw_WS := zw_mem 341 (by decide +kernel) rfl
theorem wl_Ledger_151 : Cond.methodLink "TwinLedgers$Ledger" 151 ym_Bank_charge ∈ zw_WS := zw_mem 345 (by decide +kernel) rfl
theorem wl_Ledger_155 : Cond.methodLink "TwinLedgers$Ledger" 155 ym_Store_printSlot ∈ zw_WS := zw_mem 353 (by decide +kernel) rfl
theorem wl_Ledger_158 : Cond.methodLink "TwinLedgers$Ledger" 158 ym_Packet_printWith ∈ zw_WS := zw_mem 356 (by decide +kernel) rfl
theorem wl_Ledger_161 : Cond.methodLink "TwinLedgers$Ledger" 161 ym_Ledger_isReceivable ∈ zw_WS := zw_mem 376 (by decide +kernel) rfl
theorem wl_Ledger_165 : Cond.methodLink "TwinLedgers$Ledger" 165 ym_Bank_take ∈ zw_WS := zw_mem 392 (by decide +kernel) rfl
theorem wl_Ledger_169 : Cond.methodLink "TwinLedgers$Ledger" 169 ym_Ledger_noteReceived ∈ zw_WS := zw_mem 408 (by decide +kernel) rfl
theorem wl_Ledger_172 : Cond.methodLink "TwinLedgers$Ledger" 172 ym_Ledger_isOrdered ∈ zw_WS := zw_mem 380 (by decide +kernel) rfl
theorem wl_Ledger_175 : Cond.methodLink "TwinLedgers$Ledger" 175 ym_Ledger_nextToReceive ∈ zw_WS := zw_mem 384 (by decide +kernel) rfl
theorem wl_Ledger_178 : Cond.methodLink "TwinLedgers$Ledger" 178 ym_Store_receiptSlot ∈ zw_WS := zw_mem 389 (by decide +kernel) rfl
theorem wl_Ledger_181 : Cond.methodLink "TwinLedgers$Ledger" 181 ym_Store_answerSlot ∈ zw_WS := zw_mem 412 (by decide +kernel) rfl
theorem wl_Ledger_190 : Cond.methodLink "TwinLedgers$Ledger" 190 ym_Ledger_settle ∈ zw_WS := zw_mem 423 (by decide +kernel) rfl
theorem wl_Ledger_193 : Cond.methodLink "TwinLedgers$Ledger" 193 ym_Ledger_proveNotReceived ∈ zw_WS := zw_mem 443 (by decide +kernel) rfl
theorem wl_Ledger_196 : Cond.methodLink "TwinLedgers$Ledger" 196 ym_Ledger_proveAbsence ∈ zw_WS := zw_mem 447 (by decide +kernel) rfl
theorem wl_Ledger_200 : Cond.methodLink "TwinLedgers$Ledger" 200 ym_Store_drop ∈ zw_WS := zw_mem 427 (by decide +kernel) rfl
theorem wl_Ledger_204 : Cond.methodLink "TwinLedgers$Ledger" 204 ym_Bank_refund ∈ zw_WS := zw_mem 431 (by decide +kernel) rfl
theorem wl_Ledger_51 : Cond.methodLink "TwinLedgers$Ledger" 51 ym_Store_copyFrom ∈ zw_WS := zw_mem 219 (by decide +kernel) rfl
theorem wl_Ledger_55 : Cond.methodLink "TwinLedgers$Ledger" 55 ym_Ledger_keeps ∈ zw_WS := zw_mem 301 (by decide +kernel) rfl
theorem wl_Ledger_59 : Cond.methodLink "TwinLedgers$Ledger" 59 ym_Store_rootBy ∈ zw_WS := zw_mem 476 (by decide +kernel) rfl
theorem wl_Ledger_63 : Cond.methodLink "TwinLedgers$Ledger" 63 ym_Store_endSlot ∈ zw_WS := zw_mem 255 (by decide +kernel) rfl
theorem wl_Ledger_67 : Cond.methodLink "TwinLedgers$Ledger" 67 ym_Store_valueIn ∈ zw_WS := zw_mem 258 (by decide +kernel) rfl
theorem wl_Ledger_70 : Cond.methodLink "TwinLedgers$Ledger" 70 ym_Ledger_orderOf ∈ zw_WS := zw_mem 281 (by decide +kernel) rfl
theorem wl_Ledger_73 : Cond.methodLink "TwinLedgers$Ledger" 73 ym_Store_nextSlot ∈ zw_WS := zw_mem 270 (by decide +kernel) rfl
theorem wl_Ledger_76 : Cond.methodLink "TwinLedgers$Ledger" 76 Lib.Math.max.name ∈ zw_WS := zw_mem 388 (by decide +kernel) rfl
theorem wl_Ledger_82 : Cond.methodLink "TwinLedgers$Ledger" 82 ym_Client_hasHeader ∈ zw_WS := zw_mem 297 (by decide +kernel) rfl
theorem wl_Ledger_85 : Cond.methodLink "TwinLedgers$Ledger" 85 ym_Ledger_reach ∈ zw_WS := zw_mem 293 (by decide +kernel) rfl
theorem wl_Ledger_89 : Cond.methodLink "TwinLedgers$Ledger" 89 ym_Store_has ∈ zw_WS := zw_mem 305 (by decide +kernel) rfl
theorem wl_Ledger_92 : Cond.methodLink "TwinLedgers$Ledger" 92 ym_Ledger_proveValue ∈ zw_WS := zw_mem 289 (by decide +kernel) rfl
theorem wl_Ledger_96 : Cond.methodLink "TwinLedgers$Ledger" 96 ym_Ledger_stateOf ∈ zw_WS := zw_mem 251 (by decide +kernel) rfl
theorem wl_Ledger_99 : Cond.methodLink "TwinLedgers$Ledger" 99 ym_Ledger_makeEnd ∈ zw_WS := zw_mem 262 (by decide +kernel) rfl
theorem wl_Mo_103 : Cond.methodLink "TwinLedgersModel" 103 ym_Mo_print ∈ zw_WS := zw_mem 619 (by decide +kernel) rfl
theorem wl_Mo_107 : Cond.methodLink "TwinLedgersModel" 107 ym_Mo_mix ∈ zw_WS := zw_mem 623 (by decide +kernel) rfl
theorem wl_Mo_110 : Cond.methodLink "TwinLedgersModel" 110 ym_Mo_knows ∈ zw_WS := zw_mem 665 (by decide +kernel) rfl
theorem wl_Mo_114 : Cond.methodLink "TwinLedgersModel" 114 ym_Mo_keeps ∈ zw_WS := zw_mem 639 (by decide +kernel) rfl
theorem wl_Mo_117 : Cond.methodLink "TwinLedgersModel" 117 ym_Mo_join ∈ zw_WS := zw_mem 643 (by decide +kernel) rfl
theorem wl_Mo_121 : Cond.methodLink "TwinLedgersModel" 121 ym_Mo_isEnd ∈ zw_WS := zw_mem 651 (by decide +kernel) rfl
theorem wl_Mo_124 : Cond.methodLink "TwinLedgersModel" 124 ym_Mo_flag ∈ zw_WS := zw_mem 658 (by decide +kernel) rfl
theorem wl_Mo_128 : Cond.methodLink "TwinLedgersModel" 128 ym_Mo_proof ∈ zw_WS := zw_mem 661 (by decide +kernel) rfl
theorem wl_Mo_132 : Cond.methodLink "TwinLedgersModel" 132 ym_Mo_voucherFor ∈ zw_WS := zw_mem 686 (by decide +kernel) rfl
theorem wl_Mo_136 : Cond.methodLink "TwinLedgersModel" 136 ym_Mo_takes ∈ zw_WS := zw_mem 682 (by decide +kernel) rfl
theorem wl_Mo_140 : Cond.methodLink "TwinLedgersModel" 140 ym_Mo_refund ∈ zw_WS := zw_mem 694 (by decide +kernel) rfl
theorem wl_Mo_143 : Cond.methodLink "TwinLedgersModel" 143 ym_Mo_notReceived ∈ zw_WS := zw_mem 702 (by decide +kernel) rfl
theorem wl_Mo_147 : Cond.methodLink "TwinLedgersModel" 147 ym_Mo_receive ∈ zw_WS := zw_mem 716 (by decide +kernel) rfl
theorem wl_Mo_151 : Cond.methodLink "TwinLedgersModel" 151 ym_Mo_acknowledge ∈ zw_WS := zw_mem 717 (by decide +kernel) rfl
theorem wl_Mo_154 : Cond.methodLink "TwinLedgersModel" 154 ym_Mo_timeout ∈ zw_WS := zw_mem 718 (by decide +kernel) rfl
theorem wl_Mo_157 : Cond.methodLink "TwinLedgersModel" 157 ym_Mo_tick ∈ zw_WS := zw_mem 710 (by decide +kernel) rfl
theorem wl_Mo_160 : Cond.methodLink "TwinLedgersModel" 160 ym_Mo_update ∈ zw_WS := zw_mem 711 (by decide +kernel) rfl
theorem wl_Mo_164 : Cond.methodLink "TwinLedgersModel" 164 ym_Mo_relay ∈ zw_WS := zw_mem 712 (by decide +kernel) rfl
theorem wl_Mo_167 : Cond.methodLink "TwinLedgersModel" 167 ym_Mo_isPacket ∈ zw_WS := zw_mem 731 (by decide +kernel) rfl
theorem wl_Mo_91 : Cond.methodLink "TwinLedgersModel" 91 ym_Mo_outside ∈ zw_WS := zw_mem 608 (by decide +kernel) rfl
theorem wl_Mo_95 : Cond.methodLink "TwinLedgersModel" 95 ym_Mo_list ∈ zw_WS := zw_mem 611 (by decide +kernel) rfl
theorem wl_Mo_99 : Cond.methodLink "TwinLedgersModel" 99 ym_Mo_listPacket ∈ zw_WS := zw_mem 615 (by decide +kernel) rfl
theorem wl_Packet_18 : Cond.methodLinkNest "TwinLedgers$Packet" 18 ym_TL_mix "TwinLedgers" ∈ zw_NS := List.mem_of_getElem? (i := 33) rfl
theorem wl_Store_19 : Cond.methodLink "TwinLedgers$Store" 19 ym_Store_keyOf ∈ zw_WS := zw_mem 480 (by decide +kernel) rfl
theorem wl_Store_23 : Cond.methodLinkNest "TwinLedgers$Store" 23 ym_TL_mix "TwinLedgers" ∈ zw_NS := List.mem_of_getElem? (i := 34) rfl
theorem wl_TL_101 : Cond.methodLink "TwinLedgers" 101 ym_TL_relayTimeouts ∈ zw_WS := zw_mem 461 (by decide +kernel) rfl
theorem wl_TL_104 : Cond.methodLink "TwinLedgers" 104 ym_Ledger_rootAt ∈ zw_WS := zw_mem 472 (by decide +kernel) rfl
theorem wl_TL_107 : Cond.methodLink "TwinLedgers" 107 ym_Client_hasHeader ∈ zw_WS := zw_mem 488 (by decide +kernel) rfl
theorem wl_TL_110 : Cond.methodLink "TwinLedgers" 110 ym_Ledger_stateOf ∈ zw_WS := zw_mem 493 (by decide +kernel) rfl
theorem wl_TL_113 : Cond.methodLink "TwinLedgers" 113 ym_Ledger_orderOf ∈ zw_WS := zw_mem 494 (by decide +kernel) rfl
theorem wl_TL_125 : Cond.methodLink "TwinLedgers" 125 ym_Ledger_nextToReceive ∈ zw_WS := zw_mem 495 (by decide +kernel) rfl
theorem wl_TL_20 : Cond.methodLink "TwinLedgers" 20 ym_TL_isLedger ∈ zw_WS := zw_mem 212 (by decide +kernel) rfl
theorem wl_TL_24 : Cond.methodLink "TwinLedgers" 24 ym_Ledger_makeBlock ∈ zw_WS := zw_mem 215 (by decide +kernel) rfl
theorem wl_TL_31 : Cond.methodLink "TwinLedgers" 31 ym_Integer_bitCount ∈ zw_WS := zw_mem 227 (by decide +kernel) rfl
theorem wl_TL_41 : Cond.methodLink "TwinLedgers" 41 ym_Client_learn ∈ zw_WS := zw_mem 233 (by decide +kernel) rfl
theorem wl_TL_47 : Cond.methodLink "TwinLedgers" 47 ym_TL_isEnd ∈ zw_WS := zw_mem 244 (by decide +kernel) rfl
theorem wl_TL_51 : Cond.methodLink "TwinLedgers" 51 ym_Ledger_startEnd ∈ zw_WS := zw_mem 247 (by decide +kernel) rfl
theorem wl_TL_55 : Cond.methodLink "TwinLedgers" 55 ym_Ledger_tryEnd ∈ zw_WS := zw_mem 277 (by decide +kernel) rfl
theorem wl_TL_59 : Cond.methodLink "TwinLedgers" 59 ym_Ledger_followEnd ∈ zw_WS := zw_mem 313 (by decide +kernel) rfl
theorem wl_TL_63 : Cond.methodLink "TwinLedgers" 63 ym_Ledger_closeEnd ∈ zw_WS := zw_mem 325 (by decide +kernel) rfl
theorem wl_TL_70 : Cond.methodLink "TwinLedgers" 70 ym_Bank_isKind ∈ zw_WS := zw_mem 333 (by decide +kernel) rfl
theorem wl_TL_75 : Cond.methodLink "TwinLedgers" 75 ym_Ledger_sendPacket ∈ zw_WS := zw_mem 337 (by decide +kernel) rfl
theorem wl_TL_79 : Cond.methodLink "TwinLedgers" 79 ym_TL_isPacket ∈ zw_WS := zw_mem 368 (by decide +kernel) rfl
theorem wl_TL_83 : Cond.methodLink "TwinLedgers" 83 ym_Ledger_receivePacket ∈ zw_WS := zw_mem 372 (by decide +kernel) rfl
theorem wl_TL_87 : Cond.methodLink "TwinLedgers" 87 ym_Ledger_settleAnswered ∈ zw_WS := zw_mem 419 (by decide +kernel) rfl
theorem wl_TL_91 : Cond.methodLink "TwinLedgers" 91 ym_Ledger_settleTimedOut ∈ zw_WS := zw_mem 439 (by decide +kernel) rfl
theorem wl_TL_94 : Cond.methodLink "TwinLedgers" 94 ym_TL_relayPackets ∈ zw_WS := zw_mem 455 (by decide +kernel) rfl
theorem wl_TL_98 : Cond.methodLink "TwinLedgers" 98 ym_TL_relayAnswers ∈ zw_WS := zw_mem 458 (by decide +kernel) rfl
theorem wx_mathC : Cond.code Lib.Math.max.name Lib.Math.max.code 2 (some .int) ∈ zw_WS := zw_mem 239 (by decide +kernel) rfl
theorem wx_mathI : Cond.initialized "java/lang/Math" ∈ zw_WS := zw_mem 36 (by decide +kernel) rfl
theorem wx_mathS : Cond.static Lib.Math.max.name ∈ zw_WS := zw_mem 238 (by decide +kernel) rfl
