set_option maxHeartbeats 4000000 in
set_option maxRecDepth 100000 in
theorem zc_Integer_bitCount (lc : Launch) (G : zw_G) (b0 : Nat) (S : zs_S) (x : Int32)  : zw_M lc ym_Integer_bitCount bm_Integer_bitCount 1 (some .int) { frames := 0, cells := 0, slots := 0, locals := 0 } G b0 176 (zp_p G b0 S) [.int x] (zw_Qi G b0 176 (zp_p G b0 S) (zs_bc x)) := by
  refine zw_of (by decide) (Nat.le_of_ble_eq_true rfl) ?_
  intro p e s m below meth cx ls F hr hlk hE hP hS hl
  have hl : lv_has ls 1 [(0, .int x)] := hl
  refine lv_iload_n F.1 F.2.1 dd_Integer_bitCount_0 rfl (lv_at hl 0 rfl) ?_
  refine lv_iload_n F.1 F.2.1 dd_Integer_bitCount_1 rfl (lv_at hl 0 rfl) ?_
  refine lv_iconst (v := nI 1) F.1 F.2.1 dd_Integer_bitCount_2 (by decide) ?_
  refine lv_iushr F.1 F.2.1 dd_Integer_bitCount_3 rfl ?_
  refine lv_ldcw (v := 1431655765) F.1 F.2.1 F.2.2.2.1 (F.2.2.2.2 _ wc_Integer_265) dd_Integer_bitCount_4 ?_
  refine lv_iand F.1 F.2.1 dd_Integer_bitCount_7 ?_
  refine lv_isub F.1 F.2.1 dd_Integer_bitCount_8 ?_
  refine zn_top (y := zs_b1 x) (rfl) ?_
  refine lv_istore_n F.1 F.2.1 dd_Integer_bitCount_9 rfl hl (by decide) (lv' := [(0, .int (zs_b1 x))]) rfl (fun ls hl => ?_)
  refine lv_iload_n F.1 F.2.1 dd_Integer_bitCount_10 rfl (lv_at hl 0 rfl) ?_
  refine lv_ldcw (v := 858993459) F.1 F.2.1 F.2.2.2.1 (F.2.2.2.2 _ wc_Integer_266) dd_Integer_bitCount_11 ?_
  refine lv_iand F.1 F.2.1 dd_Integer_bitCount_14 ?_
  refine lv_iload_n F.1 F.2.1 dd_Integer_bitCount_15 rfl (lv_at hl 0 rfl) ?_
  refine lv_iconst (v := nI 2) F.1 F.2.1 dd_Integer_bitCount_16 (by decide) ?_
  refine lv_iushr F.1 F.2.1 dd_Integer_bitCount_17 rfl ?_
  refine lv_ldcw (v := 858993459) F.1 F.2.1 F.2.2.2.1 (F.2.2.2.2 _ wc_Integer_266) dd_Integer_bitCount_18 ?_
  refine lv_iand F.1 F.2.1 dd_Integer_bitCount_21 ?_
  refine lv_iadd F.1 F.2.1 dd_Integer_bitCount_22 ?_
  refine zn_top (y := zs_b2 (zs_b1 x)) (rfl) ?_
  refine lv_istore_n F.1 F.2.1 dd_Integer_bitCount_23 rfl hl (by decide) (lv' := [(0, .int (zs_b2 (zs_b1 x)))]) rfl (fun ls hl => ?_)
  refine lv_iload_n F.1 F.2.1 dd_Integer_bitCount_24 rfl (lv_at hl 0 rfl) ?_
  refine lv_iload_n F.1 F.2.1 dd_Integer_bitCount_25 rfl (lv_at hl 0 rfl) ?_
  refine lv_iconst (v := nI 4) F.1 F.2.1 dd_Integer_bitCount_26 (by decide) ?_
  refine lv_iushr F.1 F.2.1 dd_Integer_bitCount_27 rfl ?_
  refine lv_iadd F.1 F.2.1 dd_Integer_bitCount_28 ?_
  refine lv_ldcw (v := 252645135) F.1 F.2.1 F.2.2.2.1 (F.2.2.2.2 _ wc_Integer_267) dd_Integer_bitCount_29 ?_
  refine lv_iand F.1 F.2.1 dd_Integer_bitCount_32 ?_
  refine zn_top (y := zs_b3 (zs_b2 (zs_b1 x))) (rfl) ?_
  refine lv_istore_n F.1 F.2.1 dd_Integer_bitCount_33 rfl hl (by decide) (lv' := [(0, .int (zs_b3 (zs_b2 (zs_b1 x))))]) rfl (fun ls hl => ?_)
  refine lv_iload_n F.1 F.2.1 dd_Integer_bitCount_34 rfl (lv_at hl 0 rfl) ?_
  refine lv_iload_n F.1 F.2.1 dd_Integer_bitCount_35 rfl (lv_at hl 0 rfl) ?_
  refine lv_bipush (v := nI 8) F.1 F.2.1 dd_Integer_bitCount_36 (by decide) ?_
  refine lv_iushr F.1 F.2.1 dd_Integer_bitCount_38 rfl ?_
  refine lv_iadd F.1 F.2.1 dd_Integer_bitCount_39 ?_
  refine zn_top (y := zs_b4 (zs_b3 (zs_b2 (zs_b1 x)))) (rfl) ?_
  refine lv_istore_n F.1 F.2.1 dd_Integer_bitCount_40 rfl hl (by decide) (lv' := [(0, .int (zs_b4 (zs_b3 (zs_b2 (zs_b1 x)))))]) rfl (fun ls hl => ?_)
  refine lv_iload_n F.1 F.2.1 dd_Integer_bitCount_41 rfl (lv_at hl 0 rfl) ?_
  refine lv_iload_n F.1 F.2.1 dd_Integer_bitCount_42 rfl (lv_at hl 0 rfl) ?_
  refine lv_bipush (v := nI 16) F.1 F.2.1 dd_Integer_bitCount_43 (by decide) ?_
  refine lv_iushr F.1 F.2.1 dd_Integer_bitCount_45 rfl ?_
  refine lv_iadd F.1 F.2.1 dd_Integer_bitCount_46 ?_
  refine zn_top (y := zs_b5 (zs_b4 (zs_b3 (zs_b2 (zs_b1 x))))) (rfl) ?_
  refine lv_istore_n F.1 F.2.1 dd_Integer_bitCount_47 rfl hl (by decide) (lv' := [(0, .int (zs_b5 (zs_b4 (zs_b3 (zs_b2 (zs_b1 x))))))]) rfl (fun ls hl => ?_)
  refine lv_iload_n F.1 F.2.1 dd_Integer_bitCount_48 rfl (lv_at hl 0 rfl) ?_
  refine lv_bipush (v := nI 63) F.1 F.2.1 dd_Integer_bitCount_49 (by decide) ?_
  refine lv_iand F.1 F.2.1 dd_Integer_bitCount_51 ?_
  exact zw_iret F hr hlk hP hS rfl rfl dd_Integer_bitCount_52
set_option maxHeartbeats 4000000 in
set_option maxRecDepth 100000 in
theorem zc_TL_mix (lc : Launch) (G : zw_G) (b0 : Nat) (S : zs_S) (h : Int32) (x : Int32)  : zw_M lc ym_TL_mix bm_TL_mix 3 (some .int) { frames := 0, cells := 0, slots := 0, locals := 0 } G b0 176 (zp_p G b0 S) [.int h, .int x] (zw_Qi G b0 176 (zp_p G b0 S) (zs_mix h x)) := by
  refine zw_of (by decide) (Nat.le_of_ble_eq_true rfl) ?_
  intro p e s m below meth cx ls F hr hlk hE hP hS hl
  have hl : lv_has ls 3 [(0, .int h), (1, .int x)] := hl
  refine lv_iload_n F.1 F.2.1 dd_TL_mix_0 rfl (lv_at hl 0 rfl) ?_
  refine lv_iload_n F.1 F.2.1 dd_TL_mix_1 rfl (lv_at hl 1 rfl) ?_
  refine lv_ixor F.1 F.2.1 dd_TL_mix_2 ?_
  refine lv_ldc (v := 73244475) F.1 F.2.1 F.2.2.2.1 (F.2.2.2.2 _ wc_TL_157) dd_TL_mix_3 ?_
  refine lv_imul F.1 F.2.1 dd_TL_mix_5 ?_
  refine lv_istore_n F.1 F.2.1 dd_TL_mix_6 rfl hl (by decide) (lv' := [(2, .int ((h ^^^ x) * 73244475)), (0, .int h), (1, .int x)]) rfl (fun ls hl => ?_)
  refine lv_iload_n F.1 F.2.1 dd_TL_mix_7 rfl (lv_at hl 0 rfl) ?_
  refine lv_iload_n F.1 F.2.1 dd_TL_mix_8 rfl (lv_at hl 0 rfl) ?_
  refine lv_bipush (v := nI 15) F.1 F.2.1 dd_TL_mix_9 (by decide) ?_
  refine lv_iushr F.1 F.2.1 dd_TL_mix_11 rfl ?_
  refine lv_ixor F.1 F.2.1 dd_TL_mix_12 ?_
  exact zw_iret F hr hlk hP hS rfl rfl dd_TL_mix_13
set_option maxHeartbeats 4000000 in
set_option maxRecDepth 100000 in
theorem zc_Store_endSlot (lc : Launch) (G : zw_G) (b0 : Nat) (S : zs_S) (c : Nat)  : zw_M lc ym_Store_endSlot bm_Store_endSlot 1 (some .int) { frames := 0, cells := 0, slots := 0, locals := 0 } G b0 176 (zp_p G b0 S) [.int (nI c)] (zw_Qi G b0 176 (zp_p G b0 S) (nI c)) := by
  refine zw_of (by decide) (Nat.le_of_ble_eq_true rfl) ?_
  intro p e s m below meth cx ls F hr hlk hE hP hS hl
  have hl : lv_has ls 1 [(0, .int (nI c))] := hl
  refine lv_iload_n F.1 F.2.1 dd_Store_endSlot_0 rfl (lv_at hl 0 rfl) ?_
  exact zw_iret F hr hlk hP hS rfl rfl dd_Store_endSlot_1
set_option maxHeartbeats 4000000 in
set_option maxRecDepth 100000 in
theorem zc_Store_nextSlot (lc : Launch) (G : zw_G) (b0 : Nat) (S : zs_S) (c : Nat)  : zw_M lc ym_Store_nextSlot bm_Store_nextSlot 1 (some .int) { frames := 0, cells := 0, slots := 0, locals := 0 } G b0 176 (zp_p G b0 S) [.int (nI c)] (zw_Qi G b0 176 (zp_p G b0 S) (nI (3 + c))) := by
  refine zw_of (by decide) (Nat.le_of_ble_eq_true rfl) ?_
  intro p e s m below meth cx ls F hr hlk hE hP hS hl
  have hl : lv_has ls 1 [(0, .int (nI c))] := hl
  refine lv_iconst (v := nI 3) F.1 F.2.1 dd_Store_nextSlot_0 (by decide) ?_
  refine lv_iload_n F.1 F.2.1 dd_Store_nextSlot_1 rfl (lv_at hl 0 rfl) ?_
  refine zn_iadd F dd_Store_nextSlot_2 ?_
  exact zw_iret F hr hlk hP hS rfl rfl dd_Store_nextSlot_3
set_option maxHeartbeats 4000000 in
set_option maxRecDepth 100000 in
theorem zc_Store_printSlot (lc : Launch) (G : zw_G) (b0 : Nat) (S : zs_S) (c : Nat) (j : Nat)  : zw_M lc ym_Store_printSlot bm_Store_printSlot 2 (some .int) { frames := 0, cells := 0, slots := 0, locals := 0 } G b0 176 (zp_p G b0 S) [.int (nI c), .int (nI (j + 1))] (zw_Qi G b0 176 (zp_p G b0 S) (nI (6 + 12 * c + j))) := by
  refine zw_of (by decide) (Nat.le_of_ble_eq_true rfl) ?_
  intro p e s m below meth cx ls F hr hlk hE hP hS hl
  have hl : lv_has ls 2 [(0, .int (nI c)), (1, .int (nI (j + 1)))] := hl
  refine lv_bipush (v := nI 6) F.1 F.2.1 dd_Store_printSlot_0 (by decide) ?_
  refine lv_bipush (v := nI 12) F.1 F.2.1 dd_Store_printSlot_2 (by decide) ?_
  refine lv_iload_n F.1 F.2.1 dd_Store_printSlot_4 rfl (lv_at hl 0 rfl) ?_
  refine zn_imul F dd_Store_printSlot_5 ?_
  refine zn_iadd F dd_Store_printSlot_6 ?_
  refine lv_iload_n F.1 F.2.1 dd_Store_printSlot_7 rfl (lv_at hl 1 rfl) ?_
  refine zn_iadd F dd_Store_printSlot_8 ?_
  refine lv_iconst (v := nI 1) F.1 F.2.1 dd_Store_printSlot_9 (by decide) ?_
  refine zn_isub F dd_Store_printSlot_10 (by omega) ?_
  refine zn_top (y := nI (6 + 12 * c + j)) (congrArg nI (by omega)) ?_
  exact zw_iret F hr hlk hP hS rfl rfl dd_Store_printSlot_11
set_option maxHeartbeats 4000000 in
set_option maxRecDepth 100000 in
theorem zc_Store_receiptSlot (lc : Launch) (G : zw_G) (b0 : Nat) (S : zs_S) (c : Nat) (j : Nat)  : zw_M lc ym_Store_receiptSlot bm_Store_receiptSlot 2 (some .int) { frames := 0, cells := 0, slots := 0, locals := 0 } G b0 176 (zp_p G b0 S) [.int (nI c), .int (nI (j + 1))] (zw_Qi G b0 176 (zp_p G b0 S) (nI (42 + 12 * c + j))) := by
  refine zw_of (by decide) (Nat.le_of_ble_eq_true rfl) ?_
  intro p e s m below meth cx ls F hr hlk hE hP hS hl
  have hl : lv_has ls 2 [(0, .int (nI c)), (1, .int (nI (j + 1)))] := hl
  refine lv_bipush (v := nI 42) F.1 F.2.1 dd_Store_receiptSlot_0 (by decide) ?_
  refine lv_bipush (v := nI 12) F.1 F.2.1 dd_Store_receiptSlot_2 (by decide) ?_
  refine lv_iload_n F.1 F.2.1 dd_Store_receiptSlot_4 rfl (lv_at hl 0 rfl) ?_
  refine zn_imul F dd_Store_receiptSlot_5 ?_
  refine zn_iadd F dd_Store_receiptSlot_6 ?_
  refine lv_iload_n F.1 F.2.1 dd_Store_receiptSlot_7 rfl (lv_at hl 1 rfl) ?_
  refine zn_iadd F dd_Store_receiptSlot_8 ?_
  refine lv_iconst (v := nI 1) F.1 F.2.1 dd_Store_receiptSlot_9 (by decide) ?_
  refine zn_isub F dd_Store_receiptSlot_10 (by omega) ?_
  refine zn_top (y := nI (42 + 12 * c + j)) (congrArg nI (by omega)) ?_
  exact zw_iret F hr hlk hP hS rfl rfl dd_Store_receiptSlot_11
set_option maxHeartbeats 4000000 in
set_option maxRecDepth 100000 in
theorem zc_Store_answerSlot (lc : Launch) (G : zw_G) (b0 : Nat) (S : zs_S) (c : Nat) (j : Nat)  : zw_M lc ym_Store_answerSlot bm_Store_answerSlot 2 (some .int) { frames := 0, cells := 0, slots := 0, locals := 0 } G b0 176 (zp_p G b0 S) [.int (nI c), .int (nI (j + 1))] (zw_Qi G b0 176 (zp_p G b0 S) (nI (78 + 12 * c + j))) := by
  refine zw_of (by decide) (Nat.le_of_ble_eq_true rfl) ?_
  intro p e s m below meth cx ls F hr hlk hE hP hS hl
  have hl : lv_has ls 2 [(0, .int (nI c)), (1, .int (nI (j + 1)))] := hl
  refine lv_bipush (v := nI 78) F.1 F.2.1 dd_Store_answerSlot_0 (by decide) ?_
  refine lv_bipush (v := nI 12) F.1 F.2.1 dd_Store_answerSlot_2 (by decide) ?_
  refine lv_iload_n F.1 F.2.1 dd_Store_answerSlot_4 rfl (lv_at hl 0 rfl) ?_
  refine zn_imul F dd_Store_answerSlot_5 ?_
  refine zn_iadd F dd_Store_answerSlot_6 ?_
  refine lv_iload_n F.1 F.2.1 dd_Store_answerSlot_7 rfl (lv_at hl 1 rfl) ?_
  refine zn_iadd F dd_Store_answerSlot_8 ?_
  refine lv_iconst (v := nI 1) F.1 F.2.1 dd_Store_answerSlot_9 (by decide) ?_
  refine zn_isub F dd_Store_answerSlot_10 (by omega) ?_
  refine zn_top (y := nI (78 + 12 * c + j)) (congrArg nI (by omega)) ?_
  exact zw_iret F hr hlk hP hS rfl rfl dd_Store_answerSlot_11
set_option maxHeartbeats 4000000 in
set_option maxRecDepth 100000 in
theorem zc_Store_keyOf (lc : Launch) (G : zw_G) (b0 : Nat) (S : zs_S) (k : Nat) (hk : k < 114) : zw_M lc ym_Store_keyOf bm_Store_keyOf 5 (some .int) { frames := 0, cells := 0, slots := 0, locals := 0 } G b0 176 (zp_p G b0 S) [.int (nI k)] (zw_Qi G b0 176 (zp_p G b0 S) (zs_key k)) := by
  refine zw_of (by decide) (Nat.le_of_ble_eq_true rfl) ?_
  intro p e s m below meth cx ls F hr hlk hE hP hS hl
  have hl : lv_has ls 5 [(0, .int (nI k))] := hl
  refine lv_iload_n F.1 F.2.1 dd_Store_keyOf_0 rfl (lv_at hl 0 rfl) ?_
  refine lv_iconst (v := nI 3) F.1 F.2.1 dd_Store_keyOf_1 (by decide) ?_
  refine zn_cge F dd_Store_keyOf_2 (tgt := 11) rfl (by omega) (by omega) (fun h2 => ?_) (fun h2 => ?_)
  · refine lv_iload_n F.1 F.2.1 dd_Store_keyOf_11 rfl (lv_at hl 0 rfl) ?_
    refine lv_bipush (v := nI 6) F.1 F.2.1 dd_Store_keyOf_12 (by decide) ?_
    refine zn_cge F dd_Store_keyOf_14 (tgt := 25) rfl (by omega) (by omega) (fun h14 => ?_) (fun h14 => ?_)
    · refine lv_iload_n F.1 F.2.1 dd_Store_keyOf_25 rfl (lv_at hl 0 rfl) ?_
      refine lv_bipush (v := nI 6) F.1 F.2.1 dd_Store_keyOf_26 (by decide) ?_
      refine zn_isub F dd_Store_keyOf_28 (by omega) ?_
      refine lv_bipush (v := nI 36) F.1 F.2.1 dd_Store_keyOf_29 (by decide) ?_
      refine zn_idiv F dd_Store_keyOf_31 (by omega) (by decide) (by decide) ?_
      refine lv_istore_n F.1 F.2.1 dd_Store_keyOf_32 rfl hl (by decide) (lv' := [(1, .int (nI ((k - 6) / 36))), (0, .int (nI k))]) rfl (fun ls hl => ?_)
      refine lv_iload_n F.1 F.2.1 dd_Store_keyOf_33 rfl (lv_at hl 1 rfl) ?_
      refine lv_bipush (v := nI 6) F.1 F.2.1 dd_Store_keyOf_34 (by decide) ?_
      refine zn_isub F dd_Store_keyOf_36 (by omega) ?_
      refine lv_bipush (v := nI 36) F.1 F.2.1 dd_Store_keyOf_37 (by decide) ?_
      refine zn_irem F dd_Store_keyOf_39 (by omega) (by decide) (by decide) ?_
      refine lv_istore_n F.1 F.2.1 dd_Store_keyOf_40 rfl hl (by decide) (lv' := [(2, .int (nI ((k - 6) % 36))), (1, .int (nI ((k - 6) / 36))), (0, .int (nI k))]) rfl (fun ls hl => ?_)
      refine lv_iload_n F.1 F.2.1 dd_Store_keyOf_41 rfl (lv_at hl 0 rfl) ?_
      refine lv_bipush (v := nI 12) F.1 F.2.1 dd_Store_keyOf_42 (by decide) ?_
      refine zn_idiv F dd_Store_keyOf_44 (by omega) (by decide) (by decide) ?_
      refine lv_istore_n F.1 F.2.1 dd_Store_keyOf_45 rfl hl (by decide) (lv' := [(3, .int (nI (((k - 6) % 36) / 12))), (2, .int (nI ((k - 6) % 36))), (1, .int (nI ((k - 6) / 36))), (0, .int (nI k))]) rfl (fun ls hl => ?_)
      refine lv_iload_n F.1 F.2.1 dd_Store_keyOf_46 rfl (lv_at hl 1 rfl) ?_
      refine lv_bipush (v := nI 12) F.1 F.2.1 dd_Store_keyOf_47 (by decide) ?_
      refine zn_irem F dd_Store_keyOf_49 (by omega) (by decide) (by decide) ?_
      refine lv_iconst (v := nI 1) F.1 F.2.1 dd_Store_keyOf_50 (by decide) ?_
      refine zn_iadd F dd_Store_keyOf_51 ?_
      refine lv_istore F.1 F.2.1 dd_Store_keyOf_52 hl (by decide) (lv' := [(4, .int (nI ((((k - 6) % 36) % 12) + 1))), (3, .int (nI (((k - 6) % 36) / 12))), (2, .int (nI ((k - 6) % 36))), (1, .int (nI ((k - 6) / 36))), (0, .int (nI k))]) rfl (fun ls hl => ?_)
      refine lv_sipush (v := nI 12288) F.1 F.2.1 dd_Store_keyOf_54 (by decide) ?_
      refine lv_sipush (v := nI 4096) F.1 F.2.1 dd_Store_keyOf_57 (by decide) ?_
      refine lv_iload_n F.1 F.2.1 dd_Store_keyOf_60 rfl (lv_at hl 3 rfl) ?_
      refine zn_imul F dd_Store_keyOf_61 ?_
      refine zn_iadd F dd_Store_keyOf_62 ?_
      refine lv_bipush (v := nI 64) F.1 F.2.1 dd_Store_keyOf_63 (by decide) ?_
      refine lv_iload_n F.1 F.2.1 dd_Store_keyOf_65 rfl (lv_at hl 1 rfl) ?_
      refine zn_imul F dd_Store_keyOf_66 ?_
      refine zn_iadd F dd_Store_keyOf_67 ?_
      refine lv_iload F.1 F.2.1 dd_Store_keyOf_68 (lv_at hl 0 rfl) ?_
      refine zn_iadd F dd_Store_keyOf_70 ?_
      exact zw_iret F hr hlk hP hS rfl (by rw [zs_key, if_pos h2, if_pos h14]) dd_Store_keyOf_71
    · refine lv_sipush (v := nI 8192) F.1 F.2.1 dd_Store_keyOf_17 (by decide) ?_
      refine lv_iload_n F.1 F.2.1 dd_Store_keyOf_20 rfl (lv_at hl 0 rfl) ?_
      refine zn_iadd F dd_Store_keyOf_21 ?_
      refine lv_iconst (v := nI 3) F.1 F.2.1 dd_Store_keyOf_22 (by decide) ?_
      refine zn_isub F dd_Store_keyOf_23 (by omega) ?_
      exact zw_iret F hr hlk hP hS rfl (by rw [zs_key, if_pos h2, if_neg h14]) dd_Store_keyOf_24
  · refine lv_sipush (v := nI 4096) F.1 F.2.1 dd_Store_keyOf_5 (by decide) ?_
    refine lv_iload_n F.1 F.2.1 dd_Store_keyOf_8 rfl (lv_at hl 0 rfl) ?_
    refine zn_iadd F dd_Store_keyOf_9 ?_
    exact zw_iret F hr hlk hP hS rfl (by rw [zs_key, if_neg h2]) dd_Store_keyOf_10
set_option maxHeartbeats 4000000 in
set_option maxRecDepth 100000 in
theorem zc_Store_put (lc : Launch) (G : zw_G) (b0 : Nat) (S : zs_S) (i : Nat) (j : Nat) (k : Nat) (v : Int32) (hi : i < 2) (hj : j < 9) (hk : k < 114) : zw_M lc ym_Store_put bm_Store_put 3 none { frames := 0, cells := 0, slots := 0, locals := 0 } G b0 176 (zp_p G b0 S) [.ref (b0 + zp_o 3 i j), .int (nI k), .int v] (zw_Qv G b0 176 (zp_p G b0 (zs_u (zs_u S 4 i j k v) 5 i j k (nI 1)))) := by
  refine zw_of (by decide) (Nat.le_of_ble_eq_true rfl) ?_
  intro p e s m below meth cx ls F hr hlk hE hP hS hl
  have hl : lv_has ls 3 [(0, .ref (b0 + zp_o 3 i j)), (1, .int (nI k)), (2, .int v)] := hl
  refine lv_aload_n F.1 F.2.1 dd_Store_put_0 rfl (lv_at hl 0 rfl) ?_
  refine zc_gF (t := 3) (i := i) (j := j) F hE hP ⟨by decide, (show i < 2 by omega), (show j < 9 by omega)⟩ rfl rfl zi_Store 0 (by decide) rfl wf_Store_11 rfl dd_Store_put_1 ?_
  refine lv_iload_n F.1 F.2.1 dd_Store_put_4 rfl (lv_at hl 1 rfl) ?_
  refine lv_iload_n F.1 F.2.1 dd_Store_put_5 rfl (lv_at hl 2 rfl) ?_
  refine zc_iast (t := 4) (i := i) (j := j) (k := k) (N := 114) F hE hP hS (fun _ h => h) ⟨by decide, (show i < 2 by omega), (show j < 9 by omega)⟩ (fun _ => rfl) (by omega) (by decide)  dd_Store_put_6 (fun H locs hP hS => ?_)
  refine lv_aload_n F.1 F.2.1 dd_Store_put_7 rfl (lv_at hl 0 rfl) ?_
  refine zc_gF (t := 3) (i := i) (j := j) F hE hP ⟨by decide, (show i < 2 by omega), (show j < 9 by omega)⟩ rfl rfl zi_Store 1 (by decide) rfl wf_Store_15 rfl dd_Store_put_8 ?_
  refine lv_iload_n F.1 F.2.1 dd_Store_put_11 rfl (lv_at hl 1 rfl) ?_
  refine lv_iconst (v := nI 1) F.1 F.2.1 dd_Store_put_12 (by decide) ?_
  refine zc_zast (t := 5) (i := i) (j := j) (k := k) (N := 114) F hE hP hS (fun _ h => h) ⟨by decide, (show i < 2 by omega), (show j < 9 by omega)⟩ (fun _ => rfl) (by omega) (by decide) (by decide) dd_Store_put_13 (fun H locs hP hS => ?_)
  exact zw_vret F hr hlk hP hS rfl dd_Store_put_14
set_option maxHeartbeats 4000000 in
set_option maxRecDepth 100000 in
theorem zc_Store_drop (lc : Launch) (G : zw_G) (b0 : Nat) (S : zs_S) (i : Nat) (j : Nat) (k : Nat) (hi : i < 2) (hj : j < 9) (hk : k < 114) : zw_M lc ym_Store_drop bm_Store_drop 2 none { frames := 0, cells := 0, slots := 0, locals := 0 } G b0 176 (zp_p G b0 S) [.ref (b0 + zp_o 3 i j), .int (nI k)] (zw_Qv G b0 176 (zp_p G b0 (zs_u (zs_u S 4 i j k (nI 0)) 5 i j k (nI 0)))) := by
  refine zw_of (by decide) (Nat.le_of_ble_eq_true rfl) ?_
  intro p e s m below meth cx ls F hr hlk hE hP hS hl
  have hl : lv_has ls 2 [(0, .ref (b0 + zp_o 3 i j)), (1, .int (nI k))] := hl
  refine lv_aload_n F.1 F.2.1 dd_Store_drop_0 rfl (lv_at hl 0 rfl) ?_
  refine zc_gF (t := 3) (i := i) (j := j) F hE hP ⟨by decide, (show i < 2 by omega), (show j < 9 by omega)⟩ rfl rfl zi_Store 0 (by decide) rfl wf_Store_11 rfl dd_Store_drop_1 ?_
  refine lv_iload_n F.1 F.2.1 dd_Store_drop_4 rfl (lv_at hl 1 rfl) ?_
  refine lv_iconst (v := nI 0) F.1 F.2.1 dd_Store_drop_5 (by decide) ?_
  refine zc_iast (t := 4) (i := i) (j := j) (k := k) (N := 114) F hE hP hS (fun _ h => h) ⟨by decide, (show i < 2 by omega), (show j < 9 by omega)⟩ (fun _ => rfl) (by omega) (by decide)  dd_Store_drop_6 (fun H locs hP hS => ?_)
  refine lv_aload_n F.1 F.2.1 dd_Store_drop_7 rfl (lv_at hl 0 rfl) ?_
  refine zc_gF (t := 3) (i := i) (j := j) F hE hP ⟨by decide, (show i < 2 by omega), (show j < 9 by omega)⟩ rfl rfl zi_Store 1 (by decide) rfl wf_Store_15 rfl dd_Store_drop_8 ?_
  refine lv_iload_n F.1 F.2.1 dd_Store_drop_11 rfl (lv_at hl 1 rfl) ?_
  refine lv_iconst (v := nI 0) F.1 F.2.1 dd_Store_drop_12 (by decide) ?_
  refine zc_zast (t := 5) (i := i) (j := j) (k := k) (N := 114) F hE hP hS (fun _ h => h) ⟨by decide, (show i < 2 by omega), (show j < 9 by omega)⟩ (fun _ => rfl) (by omega) (by decide) (by decide) dd_Store_drop_13 (fun H locs hP hS => ?_)
  exact zw_vret F hr hlk hP hS rfl dd_Store_drop_14
set_option maxHeartbeats 4000000 in
set_option maxRecDepth 100000 in
theorem zc_Store_has (lc : Launch) (G : zw_G) (b0 : Nat) (S : zs_S) (i : Nat) (j : Nat) (k : Nat) (hi : i < 2) (hj : j < 9) (hk : k < 114) (h01 : S 5 i j k = 0 ∨ S 5 i j k = 1) : zw_M lc ym_Store_has bm_Store_has 2 (some .boolean) { frames := 0, cells := 0, slots := 0, locals := 0 } G b0 176 (zp_p G b0 S) [.ref (b0 + zp_o 3 i j), .int (nI k)] (zw_Qi G b0 176 (zp_p G b0 S) (S 5 i j k)) := by
  refine zw_of (by decide) (Nat.le_of_ble_eq_true rfl) ?_
  intro p e s m below meth cx ls F hr hlk hE hP hS hl
  have hl : lv_has ls 2 [(0, .ref (b0 + zp_o 3 i j)), (1, .int (nI k))] := hl
  refine lv_aload_n F.1 F.2.1 dd_Store_has_0 rfl (lv_at hl 0 rfl) ?_
  refine zc_gF (t := 3) (i := i) (j := j) F hE hP ⟨by decide, (show i < 2 by omega), (show j < 9 by omega)⟩ rfl rfl zi_Store 1 (by decide) rfl wf_Store_15 rfl dd_Store_has_1 ?_
  refine lv_iload_n F.1 F.2.1 dd_Store_has_4 rfl (lv_at hl 1 rfl) ?_
  refine zc_zald (t := 5) (i := i) (j := j) (k := k) (N := 114) F hE hP ⟨by decide, (show i < 2 by omega), (show j < 9 by omega)⟩ (fun _ => rfl) (by omega) (by decide) dd_Store_has_5 ?_
  exact zw_zret F hr hlk hP hS rfl h01 rfl dd_Store_has_6
set_option maxHeartbeats 4000000 in
set_option maxRecDepth 100000 in
theorem zc_Store_valueIn (lc : Launch) (G : zw_G) (b0 : Nat) (S : zs_S) (i : Nat) (j : Nat) (k : Nat) (hi : i < 2) (hj : j < 9) (hk : k < 114) : zw_M lc ym_Store_valueIn bm_Store_valueIn 2 (some .int) { frames := 0, cells := 0, slots := 0, locals := 0 } G b0 176 (zp_p G b0 S) [.ref (b0 + zp_o 3 i j), .int (nI k)] (zw_Qi G b0 176 (zp_p G b0 S) (S 4 i j k)) := by
  refine zw_of (by decide) (Nat.le_of_ble_eq_true rfl) ?_
  intro p e s m below meth cx ls F hr hlk hE hP hS hl
  have hl : lv_has ls 2 [(0, .ref (b0 + zp_o 3 i j)), (1, .int (nI k))] := hl
  refine lv_aload_n F.1 F.2.1 dd_Store_valueIn_0 rfl (lv_at hl 0 rfl) ?_
  refine zc_gF (t := 3) (i := i) (j := j) F hE hP ⟨by decide, (show i < 2 by omega), (show j < 9 by omega)⟩ rfl rfl zi_Store 0 (by decide) rfl wf_Store_11 rfl dd_Store_valueIn_1 ?_
  refine lv_iload_n F.1 F.2.1 dd_Store_valueIn_4 rfl (lv_at hl 1 rfl) ?_
  refine zc_iald (t := 4) (i := i) (j := j) (k := k) (N := 114) F hE hP ⟨by decide, (show i < 2 by omega), (show j < 9 by omega)⟩ (fun _ => rfl) (by omega) (by decide) dd_Store_valueIn_5 ?_
  exact zw_iret F hr hlk hP hS rfl rfl dd_Store_valueIn_6
set_option maxHeartbeats 4000000 in
set_option maxRecDepth 100000 in
theorem zc_Client_learn (lc : Launch) (G : zw_G) (b0 : Nat) (S : zs_S) (i : Nat) (q : Nat) (hi : i < 2) (hq1 : 1 ≤ q) (hq2 : q ≤ 512) : zw_M lc ym_Client_learn bm_Client_learn 2 none { frames := 1, cells := 0, slots := 0, locals := 14 } G b0 176 (zp_p G b0 S) [.ref (b0 + zp_o 8 i 0), .int (nI q)] (zw_Qv G b0 176 (zp_p G b0 (zs_ln S i q))) := by
  refine zw_of (by decide) (Nat.le_of_ble_eq_true rfl) ?_
  intro p e s m below meth cx ls F hr hlk hE hP hS hl
  have hl : lv_has ls 2 [(0, .ref (b0 + zp_o 8 i 0)), (1, .int (nI q))] := hl
  refine lv_iload_n F.1 F.2.1 dd_Client_learn_0 rfl (lv_at hl 1 rfl) ?_
  refine lv_iconst (v := nI 1) F.1 F.2.1 dd_Client_learn_1 (by decide) ?_
  refine zn_clt F dd_Client_learn_2 (tgt := 12) rfl (by omega) (by omega) (fun h2 => absurd h2 (by omega)) (fun h2 => ?_)
  refine lv_iload_n F.1 F.2.1 dd_Client_learn_5 rfl (lv_at hl 1 rfl) ?_
  refine lv_sipush (v := nI 512) F.1 F.2.1 dd_Client_learn_6 (by decide) ?_
  refine zn_cle F dd_Client_learn_9 (tgt := 13) rfl (by omega) (by omega) (fun h9 => ?_) (fun h9 => absurd h9 (by omega))
  refine lv_aload_n F.1 F.2.1 dd_Client_learn_13 rfl (lv_at hl 0 rfl) ?_
  refine zc_gF (t := 8) (i := i) (j := 0) F hE hP ⟨by decide, (show i < 2 by omega), (show 0 < 1 by omega)⟩ rfl rfl zi_Client 0 (by decide) rfl wf_Client_9 rfl dd_Client_learn_14 ?_
  refine lv_iload_n F.1 F.2.1 dd_Client_learn_17 rfl (lv_at hl 1 rfl) ?_
  refine lv_iconst (v := nI 1) F.1 F.2.1 dd_Client_learn_18 (by decide) ?_
  refine zc_zast (t := 9) (i := i) (j := 0) (k := q) (N := 513) F hE hP hS (fun _ h => h) ⟨by decide, (show i < 2 by omega), (show 0 < 1 by omega)⟩ (fun _ => rfl) (by omega) (by decide) (by decide) dd_Client_learn_19 (fun H locs hP hS => ?_)
  refine lv_aload_n F.1 F.2.1 dd_Client_learn_20 rfl (lv_at hl 0 rfl) ?_
  refine lv_aload_n F.1 F.2.1 dd_Client_learn_21 rfl (lv_at hl 0 rfl) ?_
  refine zc_gF (t := 8) (i := i) (j := 0) F hE hP ⟨by decide, (show i < 2 by omega), (show 0 < 1 by omega)⟩ rfl rfl zi_Client 1 (by decide) rfl wf_Client_15 rfl dd_Client_learn_22 ?_
  refine zn_top (y := S 8 i 0 0) (by rw [zs_ut (by decide)]) ?_
  refine lv_iload_n F.1 F.2.1 dd_Client_learn_25 rfl (lv_at hl 1 rfl) ?_
  refine va_mmax F.1 F.2.1 (F.2.2.1.trans hl.1.symm) F.2.2.2.1 (F.2.2.2.2 _ wl_Client_19) (F.2.2.2.2 _ wx_mathS) (F.2.2.2.2 _ wx_mathI) (F.2.2.2.2 _ wx_mathC) (Nat.le_of_ble_eq_true rfl) (Nat.le_of_ble_eq_true rfl) (Nat.zero_le _) (Nat.zero_le _) dd_Client_learn_26 ?_
  refine zc_pF (t := 8) (i := i) (j := 0) (kf := 0) F hE hP hS (fun _ h => h) ⟨by decide, (show i < 2 by omega), (show 0 < 1 by omega)⟩ rfl rfl zi_Client zy_Client zj_Client zl_Client 1 (by decide) rfl rfl wf_Client_15 (by decide +kernel) (Nat.le_of_ble_eq_true rfl) rfl dd_Client_learn_29 (fun H locs hP hS => ?_)
  exact zw_vret F hr hlk hP hS rfl dd_Client_learn_32
set_option maxHeartbeats 4000000 in
set_option maxRecDepth 100000 in
theorem zc_Client_hasHeader (lc : Launch) (G : zw_G) (b0 : Nat) (S : zs_S) (i : Nat) (h : Int32) (hi : i < 2) : zw_M lc ym_Client_hasHeader bm_Client_hasHeader 2 (some .boolean) { frames := 0, cells := 0, slots := 0, locals := 0 } G b0 176 (zp_p G b0 S) [.ref (b0 + zp_o 8 i 0), .int h] (zw_Qi G b0 176 (zp_p G b0 S) (zn_b (zs_hd S i h))) := by
  refine zw_of (by decide) (Nat.le_of_ble_eq_true rfl) ?_
  intro p e s m below meth cx ls F hr hlk hE hP hS hl
  have hl : lv_has ls 2 [(0, .ref (b0 + zp_o 8 i 0)), (1, .int h)] := hl
  refine lv_iload_n F.1 F.2.1 dd_Client_hasHeader_0 rfl (lv_at hl 1 rfl) ?_
  refine lv_iconst (v := nI 1) F.1 F.2.1 dd_Client_hasHeader_1 (by decide) ?_
  refine lv_icmp_lt F.1 F.2.1 dd_Client_hasHeader_2 (tgt := 25) rfl (fun h2 => ?_) (fun h2 => ?_)
  · refine lv_iconst (v := nI 0) F.1 F.2.1 dd_Client_hasHeader_25 (by decide) ?_
    exact zw_zret F hr hlk hP hS rfl (by decide) ((zn_b0 (fun z => z.1 h2)).symm) dd_Client_hasHeader_26
  · refine lv_iload_n F.1 F.2.1 dd_Client_hasHeader_5 rfl (lv_at hl 1 rfl) ?_
    refine lv_sipush (v := nI 512) F.1 F.2.1 dd_Client_hasHeader_6 (by decide) ?_
    refine lv_icmp_gt F.1 F.2.1 dd_Client_hasHeader_9 (tgt := 25) rfl (fun h9 => ?_) (fun h9 => ?_)
    · refine lv_iconst (v := nI 0) F.1 F.2.1 dd_Client_hasHeader_25 (by decide) ?_
      exact zw_zret F hr hlk hP hS rfl (by decide) ((zn_b0 (fun z => z.2.1 h9)).symm) dd_Client_hasHeader_26
    · obtain ⟨q, hq, rfl⟩ := nI_of (zn_n0 h2)
      have hq5 : q ≤ 512 := zn_le512 hq h9
      refine lv_aload_n F.1 F.2.1 dd_Client_hasHeader_12 rfl (lv_at hl 0 rfl) ?_
      refine zc_gF (t := 8) (i := i) (j := 0) F hE hP ⟨by decide, (show i < 2 by omega), (show 0 < 1 by omega)⟩ rfl rfl zi_Client 0 (by decide) rfl wf_Client_9 rfl dd_Client_hasHeader_13 ?_
      refine lv_iload_n F.1 F.2.1 dd_Client_hasHeader_16 rfl (lv_at hl 1 rfl) ?_
      refine zc_zald (t := 9) (i := i) (j := 0) (k := q) (N := 513) F hE hP ⟨by decide, (show i < 2 by omega), (show 0 < 1 by omega)⟩ (fun _ => rfl) (by omega) (by decide) dd_Client_hasHeader_17 ?_
      refine lv_if_eq F.1 F.2.1 dd_Client_hasHeader_18 (tgt := 25) rfl (fun h18 => ?_) (fun h18 => ?_)
      · refine lv_iconst (v := nI 0) F.1 F.2.1 dd_Client_hasHeader_25 (by decide) ?_
        exact zw_zret F hr hlk hP hS rfl (by decide) ((zn_b0 (fun z => z.2.2 (by rw [nI_clamp hq]; exact h18))).symm) dd_Client_hasHeader_26
      · refine lv_iconst (v := nI 1) F.1 F.2.1 dd_Client_hasHeader_21 (by decide) ?_
        refine lv_goto F.1 F.2.1 dd_Client_hasHeader_22 (tgt := 26) rfl ?_
        exact zw_zret F hr hlk hP hS rfl (by decide) ((zn_b1 ⟨h2, h9, by rw [nI_clamp hq]; exact h18⟩).symm) dd_Client_hasHeader_26
set_option maxHeartbeats 4000000 in
set_option maxRecDepth 100000 in
theorem zc_Packet_goesBack (lc : Launch) (G : zw_G) (b0 : Nat) (S : zs_S) (i : Nat) (j : Nat) (hi : i < 2) (hj : j < 36) : zw_M lc ym_Packet_goesBack bm_Packet_goesBack 1 (some .boolean) { frames := 0, cells := 0, slots := 0, locals := 0 } G b0 176 (zp_p G b0 S) [.ref (b0 + zp_o 20 i j)] (zw_Qi G b0 176 (zp_p G b0 S) (zn_b (¬ S 20 i j 5 ≤ 0))) := by
  refine zw_of (by decide) (Nat.le_of_ble_eq_true rfl) ?_
  intro p e s m below meth cx ls F hr hlk hE hP hS hl
  have hl : lv_has ls 1 [(0, .ref (b0 + zp_o 20 i j))] := hl
  refine lv_aload_n F.1 F.2.1 dd_Packet_goesBack_0 rfl (lv_at hl 0 rfl) ?_
  refine zc_gF (t := 20) (i := i) (j := j) F hE hP ⟨by decide, (show i < 2 by omega), (show j < 36 by omega)⟩ rfl rfl zi_Packet 5 (by decide) rfl wf_Packet_9 rfl dd_Packet_goesBack_1 ?_
  refine lv_if_le F.1 F.2.1 dd_Packet_goesBack_4 (tgt := 11) rfl (fun h4 => ?_) (fun h4 => ?_)
  · refine lv_iconst (v := nI 0) F.1 F.2.1 dd_Packet_goesBack_11 (by decide) ?_
    exact zw_zret F hr hlk hP hS rfl (by decide) ((zn_b0 (fun z => z h4)).symm) dd_Packet_goesBack_12
  · refine lv_iconst (v := nI 1) F.1 F.2.1 dd_Packet_goesBack_7 (by decide) ?_
    refine lv_goto F.1 F.2.1 dd_Packet_goesBack_8 (tgt := 12) rfl ?_
    exact zw_zret F hr hlk hP hS rfl (by decide) ((zn_b1 h4).symm) dd_Packet_goesBack_12
set_option maxHeartbeats 4000000 in
set_option maxRecDepth 100000 in
theorem zc_Packet_printWith (lc : Launch) (G : zw_G) (b0 : Nat) (S : zs_S) (i : Nat) (j : Nat) (x : Int32) (hi : i < 2) (hj : j < 36) : zw_M lc ym_Packet_printWith bm_Packet_printWith 3 (some .int) { frames := 1, cells := 0, slots := 0, locals := 22 } G b0 176 (zp_p G b0 S) [.ref (b0 + zp_o 20 i j), .int x] (zw_Qi G b0 176 (zp_p G b0 S) (zs_print (S 20 i j) x)) := by
  refine zw_of (by decide) (Nat.le_of_ble_eq_true rfl) ?_
  intro p e s m below meth cx ls F hr hlk hE hP hS hl
  have hl : lv_has ls 3 [(0, .ref (b0 + zp_o 20 i j)), (1, .int x)] := hl
  refine lv_iconst (v := nI 3) F.1 F.2.1 dd_Packet_printWith_0 (by decide) ?_
  refine lv_aload_n F.1 F.2.1 dd_Packet_printWith_1 rfl (lv_at hl 0 rfl) ?_
  refine zc_gF (t := 20) (i := i) (j := j) F hE hP ⟨by decide, (show i < 2 by omega), (show j < 36 by omega)⟩ rfl rfl zi_Packet 0 (by decide) rfl wf_Packet_15 rfl dd_Packet_printWith_2 ?_
  refine zw_goi (zw_rSN F hE hP (zc_TL_mix lc G b0 S (nI 3) (S 20 i j 0)) zk_TL_mix za_TL_mix wl_Packet_18 ⟨rfl, rfl, Nat.le_of_ble_eq_true rfl, Nat.le_of_ble_eq_true rfl⟩ hl.1 rfl (Nat.le_of_ble_eq_true rfl) ⟨Nat.zero_le _, Nat.zero_le _⟩ dd_Packet_printWith_5) hS (fun _ h => h) (fun H locs hP _ _ hS => ?_)
  refine lv_aload_n F.1 F.2.1 dd_Packet_printWith_8 rfl (lv_at hl 0 rfl) ?_
  refine zc_gF (t := 20) (i := i) (j := j) F hE hP ⟨by decide, (show i < 2 by omega), (show j < 36 by omega)⟩ rfl rfl zi_Packet 1 (by decide) rfl wf_Packet_22 rfl dd_Packet_printWith_9 ?_
  refine lv_iload_n F.1 F.2.1 dd_Packet_printWith_12 rfl (lv_at hl 1 rfl) ?_
  refine lv_iadd F.1 F.2.1 dd_Packet_printWith_13 ?_
  refine zw_goi (zw_rSN F hE hP (zc_TL_mix lc G b0 S (zs_mix (nI 3) (S 20 i j 0)) ((S 20 i j 1) + x)) zk_TL_mix za_TL_mix wl_Packet_18 ⟨rfl, rfl, Nat.le_of_ble_eq_true rfl, Nat.le_of_ble_eq_true rfl⟩ hl.1 rfl (Nat.le_of_ble_eq_true rfl) ⟨Nat.zero_le _, Nat.zero_le _⟩ dd_Packet_printWith_14) hS (fun _ h => h) (fun H locs hP _ _ hS => ?_)
  refine lv_istore_n F.1 F.2.1 dd_Packet_printWith_17 rfl hl (by decide) (lv' := [(2, .int (zs_mix (zs_mix (nI 3) (S 20 i j 0)) ((S 20 i j 1) + x))), (0, .ref (b0 + zp_o 20 i j)), (1, .int x)]) rfl (fun ls hl => ?_)
  refine lv_iload_n F.1 F.2.1 dd_Packet_printWith_18 rfl (lv_at hl 0 rfl) ?_
  refine lv_iconst (v := nI 4) F.1 F.2.1 dd_Packet_printWith_19 (by decide) ?_
  refine lv_aload_n F.1 F.2.1 dd_Packet_printWith_20 rfl (lv_at hl 1 rfl) ?_
  refine zc_gF (t := 20) (i := i) (j := j) F hE hP ⟨by decide, (show i < 2 by omega), (show j < 36 by omega)⟩ rfl rfl zi_Packet 2 (by decide) rfl wf_Packet_25 rfl dd_Packet_printWith_21 ?_
  refine lv_imul F.1 F.2.1 dd_Packet_printWith_24 ?_
  refine lv_aload_n F.1 F.2.1 dd_Packet_printWith_25 rfl (lv_at hl 1 rfl) ?_
  refine zc_gF (t := 20) (i := i) (j := j) F hE hP ⟨by decide, (show i < 2 by omega), (show j < 36 by omega)⟩ rfl rfl zi_Packet 3 (by decide) rfl wf_Packet_28 rfl dd_Packet_printWith_26 ?_
  refine lv_iadd F.1 F.2.1 dd_Packet_printWith_29 ?_
  refine zw_goi (zw_rSN F hE hP (zc_TL_mix lc G b0 S (zs_mix (zs_mix (nI 3) (S 20 i j 0)) ((S 20 i j 1) + x)) (((nI 4) * (S 20 i j 2)) + (S 20 i j 3))) zk_TL_mix za_TL_mix wl_Packet_18 ⟨rfl, rfl, Nat.le_of_ble_eq_true rfl, Nat.le_of_ble_eq_true rfl⟩ hl.1 rfl (Nat.le_of_ble_eq_true rfl) ⟨Nat.zero_le _, Nat.zero_le _⟩ dd_Packet_printWith_30) hS (fun _ h => h) (fun H locs hP _ _ hS => ?_)
  refine lv_istore_n F.1 F.2.1 dd_Packet_printWith_33 rfl hl (by decide) (lv' := [(2, .int (zs_mix (zs_mix (zs_mix (nI 3) (S 20 i j 0)) ((S 20 i j 1) + x)) (((nI 4) * (S 20 i j 2)) + (S 20 i j 3)))), (0, .ref (b0 + zp_o 20 i j)), (1, .int x)]) rfl (fun ls hl => ?_)
  refine lv_iload_n F.1 F.2.1 dd_Packet_printWith_34 rfl (lv_at hl 0 rfl) ?_
  refine lv_aload_n F.1 F.2.1 dd_Packet_printWith_35 rfl (lv_at hl 1 rfl) ?_
  refine zc_gF (t := 20) (i := i) (j := j) F hE hP ⟨by decide, (show i < 2 by omega), (show j < 36 by omega)⟩ rfl rfl zi_Packet 4 (by decide) rfl wf_Packet_31 rfl dd_Packet_printWith_36 ?_
  refine zw_goi (zw_rSN F hE hP (zc_TL_mix lc G b0 S (zs_mix (zs_mix (zs_mix (nI 3) (S 20 i j 0)) ((S 20 i j 1) + x)) (((nI 4) * (S 20 i j 2)) + (S 20 i j 3))) (S 20 i j 4)) zk_TL_mix za_TL_mix wl_Packet_18 ⟨rfl, rfl, Nat.le_of_ble_eq_true rfl, Nat.le_of_ble_eq_true rfl⟩ hl.1 rfl (Nat.le_of_ble_eq_true rfl) ⟨Nat.zero_le _, Nat.zero_le _⟩ dd_Packet_printWith_39) hS (fun _ h => h) (fun H locs hP _ _ hS => ?_)
  refine lv_aload_n F.1 F.2.1 dd_Packet_printWith_42 rfl (lv_at hl 1 rfl) ?_
  refine zc_gF (t := 20) (i := i) (j := j) F hE hP ⟨by decide, (show i < 2 by omega), (show j < 36 by omega)⟩ rfl rfl zi_Packet 5 (by decide) rfl wf_Packet_9 rfl dd_Packet_printWith_43 ?_
  refine zw_goi (zw_rSN F hE hP (zc_TL_mix lc G b0 S (zs_mix (zs_mix (zs_mix (zs_mix (nI 3) (S 20 i j 0)) ((S 20 i j 1) + x)) (((nI 4) * (S 20 i j 2)) + (S 20 i j 3))) (S 20 i j 4)) (S 20 i j 5)) zk_TL_mix za_TL_mix wl_Packet_18 ⟨rfl, rfl, Nat.le_of_ble_eq_true rfl, Nat.le_of_ble_eq_true rfl⟩ hl.1 rfl (Nat.le_of_ble_eq_true rfl) ⟨Nat.zero_le _, Nat.zero_le _⟩ dd_Packet_printWith_46) hS (fun _ h => h) (fun H locs hP _ _ hS => ?_)
  exact zw_iret F hr hlk hP hS rfl rfl dd_Packet_printWith_49
set_option maxHeartbeats 4000000 in
set_option maxRecDepth 100000 in
theorem zc_Bank_isKind (lc : Launch) (G : zw_G) (b0 : Nat) (S : zs_S) (i : Nat) (k : Int32) (hi : i < 2) : zw_M lc ym_Bank_isKind bm_Bank_isKind 2 (some .boolean) { frames := 0, cells := 0, slots := 0, locals := 0 } G b0 176 (zp_p G b0 S) [.ref (b0 + zp_o 10 i 0), .int k] (zw_Qi G b0 176 (zp_p G b0 S) (zn_b (¬ k < 0 ∧ ¬ S 10 i 0 0 < k))) := by
  refine zw_of (by decide) (Nat.le_of_ble_eq_true rfl) ?_
  intro p e s m below meth cx ls F hr hlk hE hP hS hl
  have hl : lv_has ls 2 [(0, .ref (b0 + zp_o 10 i 0)), (1, .int k)] := hl
  refine lv_iload_n F.1 F.2.1 dd_Bank_isKind_0 rfl (lv_at hl 1 rfl) ?_
  refine lv_if_lt F.1 F.2.1 dd_Bank_isKind_1 (tgt := 16) rfl (fun h1 => ?_) (fun h1 => ?_)
  · refine lv_iconst (v := nI 0) F.1 F.2.1 dd_Bank_isKind_16 (by decide) ?_
    exact zw_zret F hr hlk hP hS rfl (by decide) ((zn_b0 (fun z => z.1 h1)).symm) dd_Bank_isKind_17
  · refine lv_iload_n F.1 F.2.1 dd_Bank_isKind_4 rfl (lv_at hl 1 rfl) ?_
    refine lv_aload_n F.1 F.2.1 dd_Bank_isKind_5 rfl (lv_at hl 0 rfl) ?_
    refine zc_gF (t := 10) (i := i) (j := 0) F hE hP ⟨by decide, (show i < 2 by omega), (show 0 < 1 by omega)⟩ rfl rfl zi_Bank 4 (by decide) rfl wf_Bank_26 rfl dd_Bank_isKind_6 ?_
    refine lv_icmp_gt F.1 F.2.1 dd_Bank_isKind_9 (tgt := 16) rfl (fun h9 => ?_) (fun h9 => ?_)
    · refine lv_iconst (v := nI 0) F.1 F.2.1 dd_Bank_isKind_16 (by decide) ?_
      exact zw_zret F hr hlk hP hS rfl (by decide) ((zn_b0 (fun z => z.2 h9)).symm) dd_Bank_isKind_17
    · refine lv_iconst (v := nI 1) F.1 F.2.1 dd_Bank_isKind_12 (by decide) ?_
      refine lv_goto F.1 F.2.1 dd_Bank_isKind_13 (tgt := 17) rfl ?_
      exact zw_zret F hr hlk hP hS rfl (by decide) ((zn_b1 ⟨h1, h9⟩).symm) dd_Bank_isKind_17
set_option maxHeartbeats 4000000 in
set_option maxRecDepth 100000 in
theorem zc_Bank_backBy (lc : Launch) (G : zw_G) (b0 : Nat) (S : zs_S) (i : Nat) (k : Nat) (c : Nat) (hi : i < 2) (hk : k < 6) : zw_M lc ym_Bank_backBy bm_Bank_backBy 3 (some .int) { frames := 0, cells := 0, slots := 0, locals := 0 } G b0 176 (zp_p G b0 S) [.ref (b0 + zp_o 10 i 0), .int (nI k), .int (nI c)] (zw_Qi G b0 176 (zp_p G b0 S) (zs_bb (S 16 i 0) (S 15 i 0) k c)) := by
  refine zw_of (by decide) (Nat.le_of_ble_eq_true rfl) ?_
  intro p e s m below meth cx ls F hr hlk hE hP hS hl
  have hl : lv_has ls 3 [(0, .ref (b0 + zp_o 10 i 0)), (1, .int (nI k)), (2, .int (nI c))] := hl
  refine lv_iload_n F.1 F.2.1 dd_Bank_backBy_0 rfl (lv_at hl 1 rfl) ?_
  refine lv_if_eq F.1 F.2.1 dd_Bank_backBy_1 (tgt := 25) rfl (fun h1 => ?_) (fun h1 => ?_)
  · refine lv_iconst (v := nI 0) F.1 F.2.1 dd_Bank_backBy_25 (by decide) ?_
    exact zw_iret F hr hlk hP hS rfl (by rw [zs_bb, if_pos h1]) dd_Bank_backBy_26
  · refine lv_aload_n F.1 F.2.1 dd_Bank_backBy_4 rfl (lv_at hl 0 rfl) ?_
    refine zc_gF (t := 10) (i := i) (j := 0) F hE hP ⟨by decide, (show i < 2 by omega), (show 0 < 1 by omega)⟩ rfl rfl zi_Bank 3 (by decide) rfl wf_Bank_23 rfl dd_Bank_backBy_5 ?_
    refine lv_iload_n F.1 F.2.1 dd_Bank_backBy_8 rfl (lv_at hl 1 rfl) ?_
    refine zc_iald (t := 16) (i := i) (j := 0) (k := k) (N := 6) F hE hP ⟨by decide, (show i < 2 by omega), (show 0 < 1 by omega)⟩ (fun _ => rfl) (by omega) (by decide) dd_Bank_backBy_9 ?_
    refine lv_iload_n F.1 F.2.1 dd_Bank_backBy_10 rfl (lv_at hl 2 rfl) ?_
    refine lv_icmp_ne F.1 F.2.1 dd_Bank_backBy_11 (tgt := 25) rfl (fun h11 => ?_) (fun h11 => ?_)
    · refine lv_iconst (v := nI 0) F.1 F.2.1 dd_Bank_backBy_25 (by decide) ?_
      exact zw_iret F hr hlk hP hS rfl (by rw [zs_bb, if_neg h1, if_neg h11]) dd_Bank_backBy_26
    · refine lv_iconst (v := nI 1) F.1 F.2.1 dd_Bank_backBy_14 (by decide) ?_
      refine lv_aload_n F.1 F.2.1 dd_Bank_backBy_15 rfl (lv_at hl 0 rfl) ?_
      refine zc_gF (t := 10) (i := i) (j := 0) F hE hP ⟨by decide, (show i < 2 by omega), (show 0 < 1 by omega)⟩ rfl rfl zi_Bank 2 (by decide) rfl wf_Bank_19 rfl dd_Bank_backBy_16 ?_
      refine lv_iload_n F.1 F.2.1 dd_Bank_backBy_19 rfl (lv_at hl 1 rfl) ?_
      refine zc_iald (t := 15) (i := i) (j := 0) (k := k) (N := 6) F hE hP ⟨by decide, (show i < 2 by omega), (show 0 < 1 by omega)⟩ (fun _ => rfl) (by omega) (by decide) dd_Bank_backBy_20 ?_
      refine lv_iadd F.1 F.2.1 dd_Bank_backBy_21 ?_
      refine lv_goto F.1 F.2.1 dd_Bank_backBy_22 (tgt := 26) rfl ?_
      exact zw_iret F hr hlk hP hS rfl (by rw [zs_bb, if_neg h1, if_pos h11]) dd_Bank_backBy_26
set_option maxHeartbeats 4000000 in
set_option maxRecDepth 100000 in
theorem zc_Bank_charge (lc : Launch) (G : zw_G) (b0 : Nat) (S : zs_S) (i : Nat) (j : Nat) (c : Nat) (u : Nat) (k : Nat) (hi : i < 2) (hj : j < 36) (hc : c < 3) (hu : u < 4) (hk : k < 6) (hf : S 20 i j 2 = nI u) (hkd : S 20 i j 0 = nI k) : zw_M lc ym_Bank_charge bm_Bank_charge 3 none { frames := 1, cells := 0, slots := 0, locals := 20 } G b0 176 (zp_p G b0 S) [.ref (b0 + zp_o 10 i 0), .ref (b0 + zp_o 20 i j), .int (nI c)] (zw_Qv G b0 176 (zp_p G b0 (zs_u (zs_u S 12 i u k (S 12 i u k - S 20 i j 1)) 14 i c k (if S 20 i j 5 ≤ 0 then S 14 i c k + S 20 i j 1 else S 14 i c k)))) := by
  refine zw_of (by decide) (Nat.le_of_ble_eq_true rfl) ?_
  intro p e s m below meth cx ls F hr hlk hE hP hS hl
  have hl : lv_has ls 3 [(0, .ref (b0 + zp_o 10 i 0)), (1, .ref (b0 + zp_o 20 i j)), (2, .int (nI c))] := hl
  refine lv_aload_n F.1 F.2.1 dd_Bank_charge_0 rfl (lv_at hl 0 rfl) ?_
  refine zc_gF (t := 10) (i := i) (j := 0) F hE hP ⟨by decide, (show i < 2 by omega), (show 0 < 1 by omega)⟩ rfl rfl zi_Bank 0 (by decide) rfl wf_Bank_11 rfl dd_Bank_charge_1 ?_
  refine lv_aload_n F.1 F.2.1 dd_Bank_charge_4 rfl (lv_at hl 1 rfl) ?_
  refine zc_gN (t := 20) (i := i) (j := j) F hE hP ⟨by decide, (show i < 2 by omega), (show j < 36 by omega)⟩ rfl rfl zi_Packet 2 (by decide) rfl wf_Bank_30 rfl dd_Bank_charge_5 ?_
  refine zn_top (y := nI u) (hf) ?_
  refine zc_aald (t := 11) (i := i) (j := 0) (k := u) (N := 4) (z := 6) (a := (b0 + zp_o 12 i u)) F hE hP ⟨by decide, (show i < 2 by omega), (show 0 < 1 by omega)⟩ rfl rfl rfl (by omega) (by decide) rfl dd_Bank_charge_8 ?_
  refine lv_aload_n F.1 F.2.1 dd_Bank_charge_9 rfl (lv_at hl 1 rfl) ?_
  refine zc_gN (t := 20) (i := i) (j := j) F hE hP ⟨by decide, (show i < 2 by omega), (show j < 36 by omega)⟩ rfl rfl zi_Packet 0 (by decide) rfl wf_Bank_35 rfl dd_Bank_charge_10 ?_
  refine zn_top (y := nI k) (hkd) ?_
  refine lv_dup2_11 F.1 F.2.1 dd_Bank_charge_13 rfl rfl ?_
  refine zc_iald (t := 12) (i := i) (j := u) (k := k) (N := 6) F hE hP ⟨by decide, (show i < 2 by omega), (show u < 4 by omega)⟩ (fun _ => rfl) (by omega) (by decide) dd_Bank_charge_14 ?_
  refine lv_aload_n F.1 F.2.1 dd_Bank_charge_15 rfl (lv_at hl 1 rfl) ?_
  refine zc_gN (t := 20) (i := i) (j := j) F hE hP ⟨by decide, (show i < 2 by omega), (show j < 36 by omega)⟩ rfl rfl zi_Packet 1 (by decide) rfl wf_Bank_38 rfl dd_Bank_charge_16 ?_
  refine lv_isub F.1 F.2.1 dd_Bank_charge_19 ?_
  refine zc_iast (t := 12) (i := i) (j := u) (k := k) (N := 6) F hE hP hS (fun _ h => h) ⟨by decide, (show i < 2 by omega), (show u < 4 by omega)⟩ (fun _ => rfl) (by omega) (by decide)  dd_Bank_charge_20 (fun H locs hP hS => ?_)
  refine lv_aload_n F.1 F.2.1 dd_Bank_charge_21 rfl (lv_at hl 1 rfl) ?_
  refine zw_goi (zw_rV F hE hP (zc_Packet_goesBack lc G b0 (zs_u S 12 i u k ((S 12 i u k) - (S 20 i j 1))) i j (by first | omega | assumption) (by first | omega | assumption)) zk_Packet_goesBack za_Packet_goesBack zb_Packet_goesBack wl_Bank_41 ⟨rfl, rfl, Nat.le_of_ble_eq_true rfl, Nat.le_of_ble_eq_true rfl⟩ (zc_recv (t := 20) (i := i) (j := j) hE hP ⟨by decide, (show i < 2 by omega), (show j < 36 by omega)⟩ rfl rfl) hl.1 rfl (Nat.le_of_ble_eq_true rfl) ⟨Nat.zero_le _, Nat.zero_le _⟩ dd_Bank_charge_22) hS (fun _ h => h) (fun H locs hP _ _ hS => ?_)
  refine zn_top (y := zn_b (¬ S 20 i j 5 ≤ 0)) (by rw [zs_ut (by decide)]) ?_
  refine zn_bne F dd_Bank_charge_25 (tgt := 46) rfl (fun h25 => ?_) (fun h25 => ?_)
  · exact zw_vret F hr hlk hP hS (congrArg (zp_p G b0) (by rw [if_neg h25]; exact (zs_idv (by rw [zs_ut (by decide)])).symm)) dd_Bank_charge_46
  · refine lv_aload_n F.1 F.2.1 dd_Bank_charge_28 rfl (lv_at hl 0 rfl) ?_
    refine zc_gF (t := 10) (i := i) (j := 0) F hE hP ⟨by decide, (show i < 2 by omega), (show 0 < 1 by omega)⟩ rfl rfl zi_Bank 1 (by decide) rfl wf_Bank_16 rfl dd_Bank_charge_29 ?_
    refine lv_iload_n F.1 F.2.1 dd_Bank_charge_32 rfl (lv_at hl 2 rfl) ?_
    refine zc_aald (t := 13) (i := i) (j := 0) (k := c) (N := 3) (z := 6) (a := (b0 + zp_o 14 i c)) F hE hP ⟨by decide, (show i < 2 by omega), (show 0 < 1 by omega)⟩ rfl rfl rfl (by omega) (by decide) rfl dd_Bank_charge_33 ?_
    refine lv_aload_n F.1 F.2.1 dd_Bank_charge_34 rfl (lv_at hl 1 rfl) ?_
    refine zc_gN (t := 20) (i := i) (j := j) F hE hP ⟨by decide, (show i < 2 by omega), (show j < 36 by omega)⟩ rfl rfl zi_Packet 0 (by decide) rfl wf_Bank_35 rfl dd_Bank_charge_35 ?_
    refine zn_top (y := S 20 i j 0) (by rw [zs_ut (by decide)]) ?_
    refine zn_top (y := nI k) (hkd) ?_
    refine lv_dup2_11 F.1 F.2.1 dd_Bank_charge_38 rfl rfl ?_
    refine zc_iald (t := 14) (i := i) (j := c) (k := k) (N := 6) F hE hP ⟨by decide, (show i < 2 by omega), (show c < 3 by omega)⟩ (fun _ => rfl) (by omega) (by decide) dd_Bank_charge_39 ?_
    refine zn_top (y := S 14 i c k) (by rw [zs_ut (by decide)]) ?_
    refine lv_aload_n F.1 F.2.1 dd_Bank_charge_40 rfl (lv_at hl 1 rfl) ?_
    refine zc_gN (t := 20) (i := i) (j := j) F hE hP ⟨by decide, (show i < 2 by omega), (show j < 36 by omega)⟩ rfl rfl zi_Packet 1 (by decide) rfl wf_Bank_38 rfl dd_Bank_charge_41 ?_
    refine zn_top (y := S 20 i j 1) (by rw [zs_ut (by decide)]) ?_
    refine lv_iadd F.1 F.2.1 dd_Bank_charge_44 ?_
    refine zc_iast (t := 14) (i := i) (j := c) (k := k) (N := 6) F hE hP hS (fun _ h => h) ⟨by decide, (show i < 2 by omega), (show c < 3 by omega)⟩ (fun _ => rfl) (by omega) (by decide)  dd_Bank_charge_45 (fun H locs hP hS => ?_)
    exact zw_vret F hr hlk hP hS (congrArg (zp_p G b0) (by rw [if_pos (zn_nn h25)])) dd_Bank_charge_46
set_option maxHeartbeats 4000000 in
set_option maxRecDepth 100000 in
theorem zc_Bank_refund (lc : Launch) (G : zw_G) (b0 : Nat) (S : zs_S) (i : Nat) (j : Nat) (c : Nat) (u : Nat) (k : Nat) (hi : i < 2) (hj : j < 36) (hc : c < 3) (hu : u < 4) (hk : k < 6) (hf : S 20 i j 2 = nI u) (hkd : S 20 i j 0 = nI k) : zw_M lc ym_Bank_refund bm_Bank_refund 3 none { frames := 1, cells := 0, slots := 0, locals := 20 } G b0 176 (zp_p G b0 S) [.ref (b0 + zp_o 10 i 0), .ref (b0 + zp_o 20 i j), .int (nI c)] (zw_Qv G b0 176 (zp_p G b0 (zs_u (zs_u S 12 i u k (S 12 i u k + S 20 i j 1)) 14 i c k (if S 20 i j 5 ≤ 0 then S 14 i c k - S 20 i j 1 else S 14 i c k)))) := by
  refine zw_of (by decide) (Nat.le_of_ble_eq_true rfl) ?_
  intro p e s m below meth cx ls F hr hlk hE hP hS hl
  have hl : lv_has ls 3 [(0, .ref (b0 + zp_o 10 i 0)), (1, .ref (b0 + zp_o 20 i j)), (2, .int (nI c))] := hl
  refine lv_aload_n F.1 F.2.1 dd_Bank_refund_0 rfl (lv_at hl 0 rfl) ?_
  refine zc_gF (t := 10) (i := i) (j := 0) F hE hP ⟨by decide, (show i < 2 by omega), (show 0 < 1 by omega)⟩ rfl rfl zi_Bank 0 (by decide) rfl wf_Bank_11 rfl dd_Bank_refund_1 ?_
  refine lv_aload_n F.1 F.2.1 dd_Bank_refund_4 rfl (lv_at hl 1 rfl) ?_
  refine zc_gN (t := 20) (i := i) (j := j) F hE hP ⟨by decide, (show i < 2 by omega), (show j < 36 by omega)⟩ rfl rfl zi_Packet 2 (by decide) rfl wf_Bank_30 rfl dd_Bank_refund_5 ?_
  refine zn_top (y := nI u) (hf) ?_
  refine zc_aald (t := 11) (i := i) (j := 0) (k := u) (N := 4) (z := 6) (a := (b0 + zp_o 12 i u)) F hE hP ⟨by decide, (show i < 2 by omega), (show 0 < 1 by omega)⟩ rfl rfl rfl (by omega) (by decide) rfl dd_Bank_refund_8 ?_
  refine lv_aload_n F.1 F.2.1 dd_Bank_refund_9 rfl (lv_at hl 1 rfl) ?_
  refine zc_gN (t := 20) (i := i) (j := j) F hE hP ⟨by decide, (show i < 2 by omega), (show j < 36 by omega)⟩ rfl rfl zi_Packet 0 (by decide) rfl wf_Bank_35 rfl dd_Bank_refund_10 ?_
  refine zn_top (y := nI k) (hkd) ?_
  refine lv_dup2_11 F.1 F.2.1 dd_Bank_refund_13 rfl rfl ?_
  refine zc_iald (t := 12) (i := i) (j := u) (k := k) (N := 6) F hE hP ⟨by decide, (show i < 2 by omega), (show u < 4 by omega)⟩ (fun _ => rfl) (by omega) (by decide) dd_Bank_refund_14 ?_
  refine lv_aload_n F.1 F.2.1 dd_Bank_refund_15 rfl (lv_at hl 1 rfl) ?_
  refine zc_gN (t := 20) (i := i) (j := j) F hE hP ⟨by decide, (show i < 2 by omega), (show j < 36 by omega)⟩ rfl rfl zi_Packet 1 (by decide) rfl wf_Bank_38 rfl dd_Bank_refund_16 ?_
  refine lv_iadd F.1 F.2.1 dd_Bank_refund_19 ?_
  refine zc_iast (t := 12) (i := i) (j := u) (k := k) (N := 6) F hE hP hS (fun _ h => h) ⟨by decide, (show i < 2 by omega), (show u < 4 by omega)⟩ (fun _ => rfl) (by omega) (by decide)  dd_Bank_refund_20 (fun H locs hP hS => ?_)
  refine lv_aload_n F.1 F.2.1 dd_Bank_refund_21 rfl (lv_at hl 1 rfl) ?_
  refine zw_goi (zw_rV F hE hP (zc_Packet_goesBack lc G b0 (zs_u S 12 i u k ((S 12 i u k) + (S 20 i j 1))) i j (by first | omega | assumption) (by first | omega | assumption)) zk_Packet_goesBack za_Packet_goesBack zb_Packet_goesBack wl_Bank_41 ⟨rfl, rfl, Nat.le_of_ble_eq_true rfl, Nat.le_of_ble_eq_true rfl⟩ (zc_recv (t := 20) (i := i) (j := j) hE hP ⟨by decide, (show i < 2 by omega), (show j < 36 by omega)⟩ rfl rfl) hl.1 rfl (Nat.le_of_ble_eq_true rfl) ⟨Nat.zero_le _, Nat.zero_le _⟩ dd_Bank_refund_22) hS (fun _ h => h) (fun H locs hP _ _ hS => ?_)
  refine zn_top (y := zn_b (¬ S 20 i j 5 ≤ 0)) (by rw [zs_ut (by decide)]) ?_
  refine zn_bne F dd_Bank_refund_25 (tgt := 46) rfl (fun h25 => ?_) (fun h25 => ?_)
  · exact zw_vret F hr hlk hP hS (congrArg (zp_p G b0) (by rw [if_neg h25]; exact (zs_idv (by rw [zs_ut (by decide)])).symm)) dd_Bank_refund_46
  · refine lv_aload_n F.1 F.2.1 dd_Bank_refund_28 rfl (lv_at hl 0 rfl) ?_
    refine zc_gF (t := 10) (i := i) (j := 0) F hE hP ⟨by decide, (show i < 2 by omega), (show 0 < 1 by omega)⟩ rfl rfl zi_Bank 1 (by decide) rfl wf_Bank_16 rfl dd_Bank_refund_29 ?_
    refine lv_iload_n F.1 F.2.1 dd_Bank_refund_32 rfl (lv_at hl 2 rfl) ?_
    refine zc_aald (t := 13) (i := i) (j := 0) (k := c) (N := 3) (z := 6) (a := (b0 + zp_o 14 i c)) F hE hP ⟨by decide, (show i < 2 by omega), (show 0 < 1 by omega)⟩ rfl rfl rfl (by omega) (by decide) rfl dd_Bank_refund_33 ?_
    refine lv_aload_n F.1 F.2.1 dd_Bank_refund_34 rfl (lv_at hl 1 rfl) ?_
    refine zc_gN (t := 20) (i := i) (j := j) F hE hP ⟨by decide, (show i < 2 by omega), (show j < 36 by omega)⟩ rfl rfl zi_Packet 0 (by decide) rfl wf_Bank_35 rfl dd_Bank_refund_35 ?_
    refine zn_top (y := S 20 i j 0) (by rw [zs_ut (by decide)]) ?_
    refine zn_top (y := nI k) (hkd) ?_
    refine lv_dup2_11 F.1 F.2.1 dd_Bank_refund_38 rfl rfl ?_
    refine zc_iald (t := 14) (i := i) (j := c) (k := k) (N := 6) F hE hP ⟨by decide, (show i < 2 by omega), (show c < 3 by omega)⟩ (fun _ => rfl) (by omega) (by decide) dd_Bank_refund_39 ?_
    refine zn_top (y := S 14 i c k) (by rw [zs_ut (by decide)]) ?_
    refine lv_aload_n F.1 F.2.1 dd_Bank_refund_40 rfl (lv_at hl 1 rfl) ?_
    refine zc_gN (t := 20) (i := i) (j := j) F hE hP ⟨by decide, (show i < 2 by omega), (show j < 36 by omega)⟩ rfl rfl zi_Packet 1 (by decide) rfl wf_Bank_38 rfl dd_Bank_refund_41 ?_
    refine zn_top (y := S 20 i j 1) (by rw [zs_ut (by decide)]) ?_
    refine lv_isub F.1 F.2.1 dd_Bank_refund_44 ?_
    refine zc_iast (t := 14) (i := i) (j := c) (k := k) (N := 6) F hE hP hS (fun _ h => h) ⟨by decide, (show i < 2 by omega), (show c < 3 by omega)⟩ (fun _ => rfl) (by omega) (by decide)  dd_Bank_refund_45 (fun H locs hP hS => ?_)
    exact zw_vret F hr hlk hP hS (congrArg (zp_p G b0) (by rw [if_pos (zn_nn h25)])) dd_Bank_refund_46
def zr_Bank_takeBack (S : zs_S) (i : Nat) (o : Nat) (j : Nat) (c : Nat) (t : Nat) (b : Nat) : Int32 := if S 20 o j 1 ≤ S 14 i c b then (nI 1) else (nI 0)
def zu_Bank_takeBack (S : zs_S) (i : Nat) (o : Nat) (j : Nat) (c : Nat) (t : Nat) (b : Nat) : zs_S := if S 20 o j 1 ≤ S 14 i c b then (zs_u (zs_u S 14 i c b ((S 14 i c b) - (S 20 o j 1))) 12 i t b ((S 12 i t b) + (S 20 o j 1))) else (S)
set_option maxHeartbeats 4000000 in
set_option maxRecDepth 100000 in
theorem zc_Bank_takeBack (lc : Launch) (G : zw_G) (b0 : Nat) (S : zs_S) (i : Nat) (o : Nat) (j : Nat) (c : Nat) (t : Nat) (b : Nat) (hi : i < 2) (ho : o < 2) (hj : j < 36) (hc : c < 3) (ht : t < 4) (hb : b < 6) (hto : S 20 o j 3 = nI t) (hbk : S 20 o j 5 = nI (b + 1)) : zw_M lc ym_Bank_takeBack bm_Bank_takeBack 4 (some .boolean) { frames := 0, cells := 0, slots := 0, locals := 0 } G b0 176 (zp_p G b0 S) [.ref (b0 + zp_o 10 i 0), .ref (b0 + zp_o 20 o j), .int (nI c)] (zw_Qi G b0 176 (zp_p G b0 (zu_Bank_takeBack S i o j c t b)) (zr_Bank_takeBack S i o j c t b)) := by
  refine zw_of (by decide) (Nat.le_of_ble_eq_true rfl) ?_
  intro p e s m below meth cx ls F hr hlk hE hP hS hl
  have hl : lv_has ls 4 [(0, .ref (b0 + zp_o 10 i 0)), (1, .ref (b0 + zp_o 20 o j)), (2, .int (nI c))] := hl
  refine lv_aload_n F.1 F.2.1 dd_Bank_takeBack_0 rfl (lv_at hl 1 rfl) ?_
  refine zc_gN (t := 20) (i := o) (j := j) F hE hP ⟨by decide, (show o < 2 by omega), (show j < 36 by omega)⟩ rfl rfl zi_Packet 5 (by decide) rfl wf_Bank_55 rfl dd_Bank_takeBack_1 ?_
  refine zn_top (y := nI (b + 1)) (hbk) ?_
  refine lv_iconst (v := nI 1) F.1 F.2.1 dd_Bank_takeBack_4 (by decide) ?_
  refine zn_isub F dd_Bank_takeBack_5 (by omega) ?_
  refine zn_top (y := nI b) (congrArg nI (by omega)) ?_
  refine lv_istore_n F.1 F.2.1 dd_Bank_takeBack_6 rfl hl (by decide) (lv' := [(3, .int (nI b)), (0, .ref (b0 + zp_o 10 i 0)), (1, .ref (b0 + zp_o 20 o j)), (2, .int (nI c))]) rfl (fun ls hl => ?_)
  refine lv_aload_n F.1 F.2.1 dd_Bank_takeBack_7 rfl (lv_at hl 1 rfl) ?_
  refine zc_gF (t := 10) (i := i) (j := 0) F hE hP ⟨by decide, (show i < 2 by omega), (show 0 < 1 by omega)⟩ rfl rfl zi_Bank 1 (by decide) rfl wf_Bank_16 rfl dd_Bank_takeBack_8 ?_
  refine lv_iload_n F.1 F.2.1 dd_Bank_takeBack_11 rfl (lv_at hl 3 rfl) ?_
  refine zc_aald (t := 13) (i := i) (j := 0) (k := c) (N := 3) (z := 6) (a := (b0 + zp_o 14 i c)) F hE hP ⟨by decide, (show i < 2 by omega), (show 0 < 1 by omega)⟩ rfl rfl rfl (by omega) (by decide) rfl dd_Bank_takeBack_12 ?_
  refine lv_iload_n F.1 F.2.1 dd_Bank_takeBack_13 rfl (lv_at hl 0 rfl) ?_
  refine zc_iald (t := 14) (i := i) (j := c) (k := b) (N := 6) F hE hP ⟨by decide, (show i < 2 by omega), (show c < 3 by omega)⟩ (fun _ => rfl) (by omega) (by decide) dd_Bank_takeBack_14 ?_
  refine lv_aload_n F.1 F.2.1 dd_Bank_takeBack_15 rfl (lv_at hl 2 rfl) ?_
  refine zc_gN (t := 20) (i := o) (j := j) F hE hP ⟨by decide, (show o < 2 by omega), (show j < 36 by omega)⟩ rfl rfl zi_Packet 1 (by decide) rfl wf_Bank_38 rfl dd_Bank_takeBack_16 ?_
  refine lv_icmp_ge F.1 F.2.1 dd_Bank_takeBack_19 (tgt := 24) rfl (fun h19 => ?_) (fun h19 => ?_)
  · refine lv_aload_n F.1 F.2.1 dd_Bank_takeBack_24 rfl (lv_at hl 1 rfl) ?_
    refine zc_gF (t := 10) (i := i) (j := 0) F hE hP ⟨by decide, (show i < 2 by omega), (show 0 < 1 by omega)⟩ rfl rfl zi_Bank 1 (by decide) rfl wf_Bank_16 rfl dd_Bank_takeBack_25 ?_
    refine lv_iload_n F.1 F.2.1 dd_Bank_takeBack_28 rfl (lv_at hl 3 rfl) ?_
    refine zc_aald (t := 13) (i := i) (j := 0) (k := c) (N := 3) (z := 6) (a := (b0 + zp_o 14 i c)) F hE hP ⟨by decide, (show i < 2 by omega), (show 0 < 1 by omega)⟩ rfl rfl rfl (by omega) (by decide) rfl dd_Bank_takeBack_29 ?_
    refine lv_iload_n F.1 F.2.1 dd_Bank_takeBack_30 rfl (lv_at hl 0 rfl) ?_
    refine lv_dup2_11 F.1 F.2.1 dd_Bank_takeBack_31 rfl rfl ?_
    refine zc_iald (t := 14) (i := i) (j := c) (k := b) (N := 6) F hE hP ⟨by decide, (show i < 2 by omega), (show c < 3 by omega)⟩ (fun _ => rfl) (by omega) (by decide) dd_Bank_takeBack_32 ?_
    refine lv_aload_n F.1 F.2.1 dd_Bank_takeBack_33 rfl (lv_at hl 2 rfl) ?_
    refine zc_gN (t := 20) (i := o) (j := j) F hE hP ⟨by decide, (show o < 2 by omega), (show j < 36 by omega)⟩ rfl rfl zi_Packet 1 (by decide) rfl wf_Bank_38 rfl dd_Bank_takeBack_34 ?_
    refine lv_isub F.1 F.2.1 dd_Bank_takeBack_37 ?_
    refine zc_iast (t := 14) (i := i) (j := c) (k := b) (N := 6) F hE hP hS (fun _ h => h) ⟨by decide, (show i < 2 by omega), (show c < 3 by omega)⟩ (fun _ => rfl) (by omega) (by decide)  dd_Bank_takeBack_38 (fun H locs hP hS => ?_)
    refine lv_aload_n F.1 F.2.1 dd_Bank_takeBack_39 rfl (lv_at hl 1 rfl) ?_
    refine zc_gF (t := 10) (i := i) (j := 0) F hE hP ⟨by decide, (show i < 2 by omega), (show 0 < 1 by omega)⟩ rfl rfl zi_Bank 0 (by decide) rfl wf_Bank_11 rfl dd_Bank_takeBack_40 ?_
    refine lv_aload_n F.1 F.2.1 dd_Bank_takeBack_43 rfl (lv_at hl 2 rfl) ?_
    refine zc_gN (t := 20) (i := o) (j := j) F hE hP ⟨by decide, (show o < 2 by omega), (show j < 36 by omega)⟩ rfl rfl zi_Packet 3 (by decide) rfl wf_Bank_45 rfl dd_Bank_takeBack_44 ?_
    refine zn_top (y := S 20 o j 3) (by rw [zs_ut (by decide)]) ?_
    refine zn_top (y := nI t) (hto) ?_
    refine zc_aald (t := 11) (i := i) (j := 0) (k := t) (N := 4) (z := 6) (a := (b0 + zp_o 12 i t)) F hE hP ⟨by decide, (show i < 2 by omega), (show 0 < 1 by omega)⟩ rfl rfl rfl (by omega) (by decide) rfl dd_Bank_takeBack_47 ?_
    refine lv_iload_n F.1 F.2.1 dd_Bank_takeBack_48 rfl (lv_at hl 0 rfl) ?_
    refine lv_dup2_11 F.1 F.2.1 dd_Bank_takeBack_49 rfl rfl ?_
    refine zc_iald (t := 12) (i := i) (j := t) (k := b) (N := 6) F hE hP ⟨by decide, (show i < 2 by omega), (show t < 4 by omega)⟩ (fun _ => rfl) (by omega) (by decide) dd_Bank_takeBack_50 ?_
    refine zn_top (y := S 12 i t b) (by rw [zs_ut (by decide)]) ?_
    refine lv_aload_n F.1 F.2.1 dd_Bank_takeBack_51 rfl (lv_at hl 2 rfl) ?_
    refine zc_gN (t := 20) (i := o) (j := j) F hE hP ⟨by decide, (show o < 2 by omega), (show j < 36 by omega)⟩ rfl rfl zi_Packet 1 (by decide) rfl wf_Bank_38 rfl dd_Bank_takeBack_52 ?_
    refine zn_top (y := S 20 o j 1) (by rw [zs_ut (by decide)]) ?_
    refine lv_iadd F.1 F.2.1 dd_Bank_takeBack_55 ?_
    refine zc_iast (t := 12) (i := i) (j := t) (k := b) (N := 6) F hE hP hS (fun _ h => h) ⟨by decide, (show i < 2 by omega), (show t < 4 by omega)⟩ (fun _ => rfl) (by omega) (by decide)  dd_Bank_takeBack_56 (fun H locs hP hS => ?_)
    refine lv_iconst (v := nI 1) F.1 F.2.1 dd_Bank_takeBack_57 (by decide) ?_
    exact zw_zret F hr hlk hP hS (congrArg (zp_p G b0) (by rw [zu_Bank_takeBack, if_pos h19])) (by decide) (by rw [zr_Bank_takeBack, if_pos h19]) dd_Bank_takeBack_58
  · refine lv_iconst (v := nI 0) F.1 F.2.1 dd_Bank_takeBack_22 (by decide) ?_
    exact zw_zret F hr hlk hP hS (congrArg (zp_p G b0) (by rw [zu_Bank_takeBack, if_neg h19])) (by decide) (by rw [zr_Bank_takeBack, if_neg h19]) dd_Bank_takeBack_23
set_option maxHeartbeats 4000000 in
set_option maxRecDepth 100000 in
theorem zc_Ledger_keeps (lc : Launch) (G : zw_G) (b0 : Nat) (S : zs_S) (i : Nat) (h : Int32) (hi : i < 2) : zw_M lc ym_Ledger_keeps bm_Ledger_keeps 2 (some .boolean) { frames := 0, cells := 0, slots := 0, locals := 0 } G b0 176 (zp_p G b0 S) [.ref (b0 + zp_o 2 i 0), .int h] (zw_Qi G b0 176 (zp_p G b0 S) (zn_b (zs_kp S i h))) := by
  refine zw_of (by decide) (Nat.le_of_ble_eq_true rfl) ?_
  intro p e s m below meth cx ls F hr hlk hE hP hS hl
  have hl : lv_has ls 2 [(0, .ref (b0 + zp_o 2 i 0)), (1, .int h)] := hl
  refine lv_iload_n F.1 F.2.1 dd_Ledger_keeps_0 rfl (lv_at hl 1 rfl) ?_
  refine lv_iconst (v := nI 1) F.1 F.2.1 dd_Ledger_keeps_1 (by decide) ?_
  refine lv_icmp_lt F.1 F.2.1 dd_Ledger_keeps_2 (tgt := 28) rfl (fun h2 => ?_) (fun h2 => ?_)
  · refine lv_iconst (v := nI 0) F.1 F.2.1 dd_Ledger_keeps_28 (by decide) ?_
    exact zw_zret F hr hlk hP hS rfl (by decide) ((zn_b0 (fun z => z.1 h2)).symm) dd_Ledger_keeps_29
  · refine lv_iload_n F.1 F.2.1 dd_Ledger_keeps_5 rfl (lv_at hl 1 rfl) ?_
    refine lv_aload_n F.1 F.2.1 dd_Ledger_keeps_6 rfl (lv_at hl 0 rfl) ?_
    refine zc_gF (t := 2) (i := i) (j := 0) F hE hP ⟨by decide, (show i < 2 by omega), (show 0 < 1 by omega)⟩ rfl rfl zi_Ledger 6 (by decide) rfl wf_Ledger_47 rfl dd_Ledger_keeps_7 ?_
    refine lv_icmp_gt F.1 F.2.1 dd_Ledger_keeps_10 (tgt := 28) rfl (fun h10 => ?_) (fun h10 => ?_)
    · refine lv_iconst (v := nI 0) F.1 F.2.1 dd_Ledger_keeps_28 (by decide) ?_
      exact zw_zret F hr hlk hP hS rfl (by decide) ((zn_b0 (fun z => z.2.1 h10)).symm) dd_Ledger_keeps_29
    · refine lv_iload_n F.1 F.2.1 dd_Ledger_keeps_13 rfl (lv_at hl 1 rfl) ?_
      refine lv_aload_n F.1 F.2.1 dd_Ledger_keeps_14 rfl (lv_at hl 0 rfl) ?_
      refine zc_gF (t := 2) (i := i) (j := 0) F hE hP ⟨by decide, (show i < 2 by omega), (show 0 < 1 by omega)⟩ rfl rfl zi_Ledger 6 (by decide) rfl wf_Ledger_47 rfl dd_Ledger_keeps_15 ?_
      refine lv_bipush (v := nI 8) F.1 F.2.1 dd_Ledger_keeps_18 (by decide) ?_
      refine lv_isub F.1 F.2.1 dd_Ledger_keeps_20 ?_
      refine lv_icmp_le F.1 F.2.1 dd_Ledger_keeps_21 (tgt := 28) rfl (fun h21 => ?_) (fun h21 => ?_)
      · refine lv_iconst (v := nI 0) F.1 F.2.1 dd_Ledger_keeps_28 (by decide) ?_
        exact zw_zret F hr hlk hP hS rfl (by decide) ((zn_b0 (fun z => z.2.2 h21)).symm) dd_Ledger_keeps_29
      · refine lv_iconst (v := nI 1) F.1 F.2.1 dd_Ledger_keeps_24 (by decide) ?_
        refine lv_goto F.1 F.2.1 dd_Ledger_keeps_25 (tgt := 29) rfl ?_
        exact zw_zret F hr hlk hP hS rfl (by decide) ((zn_b1 ⟨h2, h10, h21⟩).symm) dd_Ledger_keeps_29
set_option maxHeartbeats 4000000 in
set_option maxRecDepth 100000 in
theorem zc_Ledger_stateOf (lc : Launch) (G : zw_G) (b0 : Nat) (S : zs_S) (i : Nat) (c : Nat) (hi : i < 2) (hc : c < 3) : zw_M lc ym_Ledger_stateOf bm_Ledger_stateOf 2 (some .int) { frames := 1, cells := 0, slots := 0, locals := 21 } G b0 176 (zp_p G b0 S) [.ref (b0 + zp_o 2 i 0), .int (nI c)] (zw_Qi G b0 176 (zp_p G b0 S) (zs_st (S 4 i 0 c))) := by
  refine zw_of (by decide) (Nat.le_of_ble_eq_true rfl) ?_
  intro p e s m below meth cx ls F hr hlk hE hP hS hl
  have hl : lv_has ls 2 [(0, .ref (b0 + zp_o 2 i 0)), (1, .int (nI c))] := hl
  refine lv_aload_n F.1 F.2.1 dd_Ledger_stateOf_0 rfl (lv_at hl 0 rfl) ?_
  refine zc_gF (t := 2) (i := i) (j := 0) F hE hP ⟨by decide, (show i < 2 by omega), (show 0 < 1 by omega)⟩ rfl rfl zi_Ledger 0 (by decide) rfl wf_Ledger_12 rfl dd_Ledger_stateOf_1 ?_
  refine lv_iload_n F.1 F.2.1 dd_Ledger_stateOf_4 rfl (lv_at hl 1 rfl) ?_
  refine zw_goi (zw_rS F hE hP (zc_Store_endSlot lc G b0 S c) zk_Store_endSlot za_Store_endSlot wl_Ledger_63 ⟨rfl, rfl, Nat.le_of_ble_eq_true rfl, Nat.le_of_ble_eq_true rfl⟩ hl.1 rfl (Nat.le_of_ble_eq_true rfl) ⟨Nat.zero_le _, Nat.zero_le _⟩ dd_Ledger_stateOf_5) hS (fun _ h => h) (fun H locs hP _ _ hS => ?_)
  refine zw_goi (zw_rV F hE hP (zc_Store_valueIn lc G b0 S i 0 c (by first | omega | assumption) (by first | omega | assumption) (by first | omega | assumption)) zk_Store_valueIn za_Store_valueIn zb_Store_valueIn wl_Ledger_67 ⟨rfl, rfl, Nat.le_of_ble_eq_true rfl, Nat.le_of_ble_eq_true rfl⟩ (zc_recv (t := 3) (i := i) (j := 0) hE hP ⟨by decide, (show i < 2 by omega), (show 0 < 9 by omega)⟩ rfl rfl) hl.1 rfl (Nat.le_of_ble_eq_true rfl) ⟨Nat.zero_le _, Nat.zero_le _⟩ dd_Ledger_stateOf_8) hS (fun _ h => h) (fun H locs hP _ _ hS => ?_)
  refine lv_iconst (v := nI 2) F.1 F.2.1 dd_Ledger_stateOf_11 (by decide) ?_
  refine lv_idiv F.1 F.2.1 dd_Ledger_stateOf_12 (by decide) ?_
  exact zw_iret F hr hlk hP hS rfl rfl dd_Ledger_stateOf_13
set_option maxHeartbeats 4000000 in
set_option maxRecDepth 100000 in
theorem zc_Ledger_orderOf (lc : Launch) (G : zw_G) (b0 : Nat) (S : zs_S) (i : Nat) (c : Nat) (hi : i < 2) (hc : c < 3) : zw_M lc ym_Ledger_orderOf bm_Ledger_orderOf 2 (some .int) { frames := 1, cells := 0, slots := 0, locals := 21 } G b0 176 (zp_p G b0 S) [.ref (b0 + zp_o 2 i 0), .int (nI c)] (zw_Qi G b0 176 (zp_p G b0 S) (zs_or (S 4 i 0 c))) := by
  refine zw_of (by decide) (Nat.le_of_ble_eq_true rfl) ?_
  intro p e s m below meth cx ls F hr hlk hE hP hS hl
  have hl : lv_has ls 2 [(0, .ref (b0 + zp_o 2 i 0)), (1, .int (nI c))] := hl
  refine lv_aload_n F.1 F.2.1 dd_Ledger_orderOf_0 rfl (lv_at hl 0 rfl) ?_
  refine zc_gF (t := 2) (i := i) (j := 0) F hE hP ⟨by decide, (show i < 2 by omega), (show 0 < 1 by omega)⟩ rfl rfl zi_Ledger 0 (by decide) rfl wf_Ledger_12 rfl dd_Ledger_orderOf_1 ?_
  refine lv_iload_n F.1 F.2.1 dd_Ledger_orderOf_4 rfl (lv_at hl 1 rfl) ?_
  refine zw_goi (zw_rS F hE hP (zc_Store_endSlot lc G b0 S c) zk_Store_endSlot za_Store_endSlot wl_Ledger_63 ⟨rfl, rfl, Nat.le_of_ble_eq_true rfl, Nat.le_of_ble_eq_true rfl⟩ hl.1 rfl (Nat.le_of_ble_eq_true rfl) ⟨Nat.zero_le _, Nat.zero_le _⟩ dd_Ledger_orderOf_5) hS (fun _ h => h) (fun H locs hP _ _ hS => ?_)
  refine zw_goi (zw_rV F hE hP (zc_Store_valueIn lc G b0 S i 0 c (by first | omega | assumption) (by first | omega | assumption) (by first | omega | assumption)) zk_Store_valueIn za_Store_valueIn zb_Store_valueIn wl_Ledger_67 ⟨rfl, rfl, Nat.le_of_ble_eq_true rfl, Nat.le_of_ble_eq_true rfl⟩ (zc_recv (t := 3) (i := i) (j := 0) hE hP ⟨by decide, (show i < 2 by omega), (show 0 < 9 by omega)⟩ rfl rfl) hl.1 rfl (Nat.le_of_ble_eq_true rfl) ⟨Nat.zero_le _, Nat.zero_le _⟩ dd_Ledger_orderOf_8) hS (fun _ h => h) (fun H locs hP _ _ hS => ?_)
  refine lv_iconst (v := nI 2) F.1 F.2.1 dd_Ledger_orderOf_11 (by decide) ?_
  refine lv_irem F.1 F.2.1 dd_Ledger_orderOf_12 (by decide) ?_
  exact zw_iret F hr hlk hP hS rfl rfl dd_Ledger_orderOf_13
set_option maxHeartbeats 4000000 in
set_option maxRecDepth 100000 in
theorem zc_Ledger_isOrdered (lc : Launch) (G : zw_G) (b0 : Nat) (S : zs_S) (i : Nat) (c : Nat) (hi : i < 2) (hc : c < 3) : zw_M lc ym_Ledger_isOrdered bm_Ledger_isOrdered 2 (some .boolean) { frames := 2, cells := 0, slots := 0, locals := 42 } G b0 176 (zp_p G b0 S) [.ref (b0 + zp_o 2 i 0), .int (nI c)] (zw_Qi G b0 176 (zp_p G b0 S) (zn_b (zs_or (S 4 i 0 c) = nI 1))) := by
  refine zw_of (by decide) (Nat.le_of_ble_eq_true rfl) ?_
  intro p e s m below meth cx ls F hr hlk hE hP hS hl
  have hl : lv_has ls 2 [(0, .ref (b0 + zp_o 2 i 0)), (1, .int (nI c))] := hl
  refine lv_aload_n F.1 F.2.1 dd_Ledger_isOrdered_0 rfl (lv_at hl 0 rfl) ?_
  refine lv_iload_n F.1 F.2.1 dd_Ledger_isOrdered_1 rfl (lv_at hl 1 rfl) ?_
  refine zw_goi (zw_rV F hE hP (zc_Ledger_orderOf lc G b0 S i c (by first | omega | assumption) (by first | omega | assumption)) zk_Ledger_orderOf za_Ledger_orderOf zb_Ledger_orderOf wl_Ledger_70 ⟨rfl, rfl, Nat.le_of_ble_eq_true rfl, Nat.le_of_ble_eq_true rfl⟩ (zc_recv (t := 2) (i := i) (j := 0) hE hP ⟨by decide, (show i < 2 by omega), (show 0 < 1 by omega)⟩ rfl rfl) hl.1 rfl (Nat.le_of_ble_eq_true rfl) ⟨Nat.zero_le _, Nat.zero_le _⟩ dd_Ledger_isOrdered_2) hS (fun _ h => h) (fun H locs hP _ _ hS => ?_)
  refine lv_iconst (v := nI 1) F.1 F.2.1 dd_Ledger_isOrdered_5 (by decide) ?_
  refine lv_icmp_ne F.1 F.2.1 dd_Ledger_isOrdered_6 (tgt := 13) rfl (fun h6 => ?_) (fun h6 => ?_)
  · refine lv_iconst (v := nI 0) F.1 F.2.1 dd_Ledger_isOrdered_13 (by decide) ?_
    exact zw_zret F hr hlk hP hS rfl (by decide) ((zn_b0 h6).symm) dd_Ledger_isOrdered_14
  · refine lv_iconst (v := nI 1) F.1 F.2.1 dd_Ledger_isOrdered_9 (by decide) ?_
    refine lv_goto F.1 F.2.1 dd_Ledger_isOrdered_10 (tgt := 14) rfl ?_
    exact zw_zret F hr hlk hP hS rfl (by decide) ((zn_b1 h6).symm) dd_Ledger_isOrdered_14
