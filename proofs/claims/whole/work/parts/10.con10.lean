set_option maxHeartbeats 4000000 in
set_option maxRecDepth 100000 in
theorem zc_Mo_update_bad (lc : Launch) (G : zw_G) (b0 : Nat) (T : zs_T) (l : Int32) (h : Int32) (x : Int32) (w : Int32) (hb : ¬ zs_v l 2) : zw_M lc ym_Mo_update bm_Mo_update 6 (some .int) { frames := 1, cells := 0, slots := 0, locals := 22 } G b0 26 (zq_p G b0 T) [.ref (b0 + 0), .int l, .int h, .int x, .int w] (zw_Qi G b0 26 (zq_p G b0 T) (-1)) := by
  refine zw_of (by decide) (Nat.le_of_ble_eq_true rfl) ?_
  intro p e s m below meth cx ls F hr hlk hE hP hS hl
  have hl : lv_has ls 6 [(0, .ref (b0 + 0)), (1, .int l), (2, .int h), (3, .int x), (4, .int w)] := hl
  refine lv_iload_n F.1 F.2.1 dd_Mo_update_0 rfl (lv_at hl 1 rfl) ?_
  refine lv_iconst (v := nI 0) F.1 F.2.1 dd_Mo_update_1 (by decide) ?_
  refine lv_iconst (v := nI 1) F.1 F.2.1 dd_Mo_update_2 (by decide) ?_
  refine zw_goi (zw_rS F hE hP (zc_Mo_outside lc G b0 T l (nI 0) (nI 1)) zk_Mo_outside za_Mo_outside wl_Mo_91 ⟨rfl, rfl, Nat.le_of_ble_eq_true rfl, Nat.le_of_ble_eq_true rfl⟩ hl.1 rfl (Nat.le_of_ble_eq_true rfl) ⟨Nat.zero_le _, Nat.zero_le _⟩ dd_Mo_update_3) hS (fun _ h => h) (fun H locs hP _ _ hS => ?_)
  refine zn_bne F dd_Mo_update_6 (tgt := 25) rfl (fun h6 => ?_) (fun h6 => absurd (zs_vo (n := 1) (by decide) h6) hb)
  refine lv_iconst (v := (-1)) F.1 F.2.1 dd_Mo_update_25 (by decide) ?_
  exact zw_iret F hr hlk hP hS rfl rfl dd_Mo_update_26
def zu_Mo_listPacket_w0 (T : zs_T) (i : Nat) (c : Nat) (j : Nat) : zs_T := if T 9 ((3 * i) + c) < nI (j + 1) then (T) else (if T 17 ((13 * ((3 * i) + c)) + (j + 1)) = 0 then ((zs_li T i (nI ((12288 + (64 * c)) + (j + 1))) (zs_mp T ((13 * ((3 * i) + c)) + (j + 1)) (T 13 ((13 * ((3 * i) + c)) + (j + 1)))))) else (T))
set_option maxHeartbeats 4000000 in
set_option maxRecDepth 100000 in
theorem zc_Mo_listPacket_w0 (lc : Launch) (G : zw_G) (b0 : Nat) (T : zs_T) (i : Nat) (c : Nat) (j : Nat) (hi : i < 2) (hc : c < 3) (hj : j < 12) (hL : zs_LT T i 127) : zw_M lc ym_Mo_listPacket bm_Mo_listPacket 7 none { frames := 2, cells := 0, slots := 0, locals := 44 } G b0 26 (zq_p G b0 T) [.ref (b0 + 0), .int (nI i), .int (nI 0), .int (nI c), .int (nI (j + 1))] (zw_Qv G b0 26 (zq_p G b0 (zu_Mo_listPacket_w0 T i c j))) := by
  refine zw_of (by decide) (Nat.le_of_ble_eq_true rfl) ?_
  intro p e s m below meth cx ls F hr hlk hE hP hS hl
  have hl : lv_has ls 7 [(0, .ref (b0 + 0)), (1, .int (nI i)), (2, .int (nI 0)), (3, .int (nI c)), (4, .int (nI (j + 1)))] := hl
  refine lv_bipush (v := nI 13) F.1 F.2.1 dd_Mo_listPacket_0 (by decide) ?_
  refine lv_iconst (v := nI 3) F.1 F.2.1 dd_Mo_listPacket_2 (by decide) ?_
  refine lv_iload_n F.1 F.2.1 dd_Mo_listPacket_3 rfl (lv_at hl 1 rfl) ?_
  refine zn_imul F dd_Mo_listPacket_4 ?_
  refine lv_iload_n F.1 F.2.1 dd_Mo_listPacket_5 rfl (lv_at hl 3 rfl) ?_
  refine zn_iadd F dd_Mo_listPacket_6 ?_
  refine zn_imul F dd_Mo_listPacket_7 ?_
  refine lv_iload F.1 F.2.1 dd_Mo_listPacket_8 (lv_at hl 4 rfl) ?_
  refine zn_iadd F dd_Mo_listPacket_10 ?_
  refine lv_istore F.1 F.2.1 dd_Mo_listPacket_11 hl (by decide) (lv' := [(5, .int (nI ((13 * ((3 * i) + c)) + (j + 1)))), (0, .ref (b0 + 0)), (1, .int (nI i)), (2, .int (nI 0)), (3, .int (nI c)), (4, .int (nI (j + 1)))]) rfl (fun ls hl => ?_)
  refine lv_bipush (v := nI 13) F.1 F.2.1 dd_Mo_listPacket_13 (by decide) ?_
  refine lv_iconst (v := nI 3) F.1 F.2.1 dd_Mo_listPacket_15 (by decide) ?_
  refine lv_iconst (v := nI 1) F.1 F.2.1 dd_Mo_listPacket_16 (by decide) ?_
  refine lv_iload_n F.1 F.2.1 dd_Mo_listPacket_17 rfl (lv_at hl 2 rfl) ?_
  refine zn_isub F dd_Mo_listPacket_18 (by omega) ?_
  refine zn_imul F dd_Mo_listPacket_19 ?_
  refine lv_iload_n F.1 F.2.1 dd_Mo_listPacket_20 rfl (lv_at hl 4 rfl) ?_
  refine zn_iadd F dd_Mo_listPacket_21 ?_
  refine zn_imul F dd_Mo_listPacket_22 ?_
  refine lv_iload F.1 F.2.1 dd_Mo_listPacket_23 (lv_at hl 5 rfl) ?_
  refine zn_iadd F dd_Mo_listPacket_25 ?_
  refine lv_istore F.1 F.2.1 dd_Mo_listPacket_26 hl (by decide) (lv' := [(6, .int (nI ((13 * ((3 * (1 - i)) + c)) + (j + 1)))), (5, .int (nI ((13 * ((3 * i) + c)) + (j + 1)))), (0, .ref (b0 + 0)), (1, .int (nI i)), (2, .int (nI 0)), (3, .int (nI c)), (4, .int (nI (j + 1)))]) rfl (fun ls hl => ?_)
  refine lv_iload_n F.1 F.2.1 dd_Mo_listPacket_28 rfl (lv_at hl 4 rfl) ?_
  refine lv_if_ne F.1 F.2.1 dd_Mo_listPacket_29 (tgt := 86) rfl (fun h29 => absurd h29 (by decide)) (fun h29 => ?_)
  refine lv_iload F.1 F.2.1 dd_Mo_listPacket_32 (lv_at hl 6 rfl) ?_
  refine lv_aload_n F.1 F.2.1 dd_Mo_listPacket_34 rfl (lv_at hl 2 rfl) ?_
  refine zm_gF F hE hP rfl rfl zi_Mo 9 (by decide) rfl wf_Mo_35 rfl dd_Mo_listPacket_35 ?_
  refine lv_iconst (v := nI 3) F.1 F.2.1 dd_Mo_listPacket_38 (by decide) ?_
  refine lv_iload_n F.1 F.2.1 dd_Mo_listPacket_39 rfl (lv_at hl 3 rfl) ?_
  refine zn_imul F dd_Mo_listPacket_40 ?_
  refine lv_iload_n F.1 F.2.1 dd_Mo_listPacket_41 rfl (lv_at hl 5 rfl) ?_
  refine zn_iadd F dd_Mo_listPacket_42 ?_
  refine zm_iald (x := 9) (k := (3 * i) + c) (N := 6) F hE hP (by decide) (fun _ => rfl) (by omega) (by decide) dd_Mo_listPacket_43 ?_
  refine lv_icmp_gt F.1 F.2.1 dd_Mo_listPacket_44 (tgt := 86) rfl (fun h44 => ?_) (fun h44 => ?_)
  · refine lv_iload_n F.1 F.2.1 dd_Mo_listPacket_86 rfl (lv_at hl 4 rfl) ?_
    refine lv_iconst (v := nI 1) F.1 F.2.1 dd_Mo_listPacket_87 (by decide) ?_
    refine zn_cne F dd_Mo_listPacket_88 (tgt := 131) rfl (by omega) (by omega) (fun h88 => ?_) (fun h88 => absurd h88 (by decide))
    refine lv_iload_n F.1 F.2.1 dd_Mo_listPacket_131 rfl (lv_at hl 4 rfl) ?_
    refine lv_iconst (v := nI 2) F.1 F.2.1 dd_Mo_listPacket_132 (by decide) ?_
    refine zn_cne F dd_Mo_listPacket_133 (tgt := 169) rfl (by omega) (by omega) (fun h133 => ?_) (fun h133 => absurd h133 (by decide))
    exact zw_vret F hr hlk hP hS (congrArg (zq_p G b0) (by rw [zu_Mo_listPacket_w0, if_pos h44])) dd_Mo_listPacket_169
  · refine lv_aload_n F.1 F.2.1 dd_Mo_listPacket_47 rfl (lv_at hl 2 rfl) ?_
    refine zm_gF F hE hP rfl rfl zi_Mo 17 (by decide) rfl wf_Mo_59 rfl dd_Mo_listPacket_48 ?_
    refine lv_iload F.1 F.2.1 dd_Mo_listPacket_51 (lv_at hl 1 rfl) ?_
    refine zm_iald (x := 17) (k := (13 * ((3 * i) + c)) + (j + 1)) (N := 78) F hE hP (by decide) (fun _ => rfl) (by omega) (by decide) dd_Mo_listPacket_53 ?_
    refine lv_if_ne F.1 F.2.1 dd_Mo_listPacket_54 (tgt := 86) rfl (fun h54 => ?_) (fun h54 => ?_)
    · refine lv_iload_n F.1 F.2.1 dd_Mo_listPacket_86 rfl (lv_at hl 4 rfl) ?_
      refine lv_iconst (v := nI 1) F.1 F.2.1 dd_Mo_listPacket_87 (by decide) ?_
      refine zn_cne F dd_Mo_listPacket_88 (tgt := 131) rfl (by omega) (by omega) (fun h88 => ?_) (fun h88 => absurd h88 (by decide))
      refine lv_iload_n F.1 F.2.1 dd_Mo_listPacket_131 rfl (lv_at hl 4 rfl) ?_
      refine lv_iconst (v := nI 2) F.1 F.2.1 dd_Mo_listPacket_132 (by decide) ?_
      refine zn_cne F dd_Mo_listPacket_133 (tgt := 169) rfl (by omega) (by omega) (fun h133 => ?_) (fun h133 => absurd h133 (by decide))
      exact zw_vret F hr hlk hP hS (congrArg (zq_p G b0) (by rw [zu_Mo_listPacket_w0, if_neg h44, if_neg h54])) dd_Mo_listPacket_169
    · refine lv_aload_n F.1 F.2.1 dd_Mo_listPacket_57 rfl (lv_at hl 2 rfl) ?_
      refine lv_iload_n F.1 F.2.1 dd_Mo_listPacket_58 rfl (lv_at hl 3 rfl) ?_
      refine lv_sipush (v := nI 12288) F.1 F.2.1 dd_Mo_listPacket_59 (by decide) ?_
      refine lv_bipush (v := nI 64) F.1 F.2.1 dd_Mo_listPacket_62 (by decide) ?_
      refine lv_iload_n F.1 F.2.1 dd_Mo_listPacket_64 rfl (lv_at hl 5 rfl) ?_
      refine zn_imul F dd_Mo_listPacket_65 ?_
      refine zn_iadd F dd_Mo_listPacket_66 ?_
      refine lv_iload F.1 F.2.1 dd_Mo_listPacket_67 (lv_at hl 6 rfl) ?_
      refine zn_iadd F dd_Mo_listPacket_69 ?_
      refine lv_aload_n F.1 F.2.1 dd_Mo_listPacket_70 rfl (lv_at hl 2 rfl) ?_
      refine lv_iload F.1 F.2.1 dd_Mo_listPacket_71 (lv_at hl 1 rfl) ?_
      refine lv_aload_n F.1 F.2.1 dd_Mo_listPacket_73 rfl (lv_at hl 2 rfl) ?_
      refine zm_gF F hE hP rfl rfl zi_Mo 13 (by decide) rfl wf_Mo_47 rfl dd_Mo_listPacket_74 ?_
      refine lv_iload F.1 F.2.1 dd_Mo_listPacket_77 (lv_at hl 1 rfl) ?_
      refine zm_iald (x := 13) (k := (13 * ((3 * i) + c)) + (j + 1)) (N := 78) F hE hP (by decide) (fun _ => rfl) (by omega) (by decide) dd_Mo_listPacket_79 ?_
      refine zw_goi (zw_rV F hE hP (zc_Mo_print lc G b0 T ((13 * ((3 * i) + c)) + (j + 1)) (T 13 ((13 * ((3 * i) + c)) + (j + 1))) (by first | omega | assumption)) zk_Mo_print za_Mo_print zb_Mo_print wl_Mo_103 ⟨rfl, rfl, Nat.le_of_ble_eq_true rfl, Nat.le_of_ble_eq_true rfl⟩ (zm_recv hE hP rfl rfl) hl.1 rfl (Nat.le_of_ble_eq_true rfl) ⟨Nat.zero_le _, Nat.zero_le _⟩ dd_Mo_listPacket_80) hS (fun _ h => h) (fun H locs hP _ _ hS => ?_)
      refine zw_gov (zw_rV F hE hP (zc_Mo_list lc G b0 T i (nI ((12288 + (64 * c)) + (j + 1))) (zs_mp T ((13 * ((3 * i) + c)) + (j + 1)) (T 13 ((13 * ((3 * i) + c)) + (j + 1)))) (by first | omega | assumption) (by assumption)) zk_Mo_list za_Mo_list zb_Mo_list wl_Mo_95 ⟨rfl, rfl, Nat.le_of_ble_eq_true rfl, Nat.le_of_ble_eq_true rfl⟩ (zm_recv hE hP rfl rfl) hl.1 rfl (Nat.le_of_ble_eq_true rfl) ⟨Nat.zero_le _, Nat.zero_le _⟩ dd_Mo_listPacket_83) hS (fun _ h => h) (fun H locs hP _ _ hS => ?_)
      refine lv_iload_n F.1 F.2.1 dd_Mo_listPacket_86 rfl (lv_at hl 4 rfl) ?_
      refine lv_iconst (v := nI 1) F.1 F.2.1 dd_Mo_listPacket_87 (by decide) ?_
      refine zn_cne F dd_Mo_listPacket_88 (tgt := 131) rfl (by omega) (by omega) (fun h88 => ?_) (fun h88 => absurd h88 (by decide))
      refine lv_iload_n F.1 F.2.1 dd_Mo_listPacket_131 rfl (lv_at hl 4 rfl) ?_
      refine lv_iconst (v := nI 2) F.1 F.2.1 dd_Mo_listPacket_132 (by decide) ?_
      refine zn_cne F dd_Mo_listPacket_133 (tgt := 169) rfl (by omega) (by omega) (fun h133 => ?_) (fun h133 => absurd h133 (by decide))
      exact zw_vret F hr hlk hP hS (congrArg (zq_p G b0) (by rw [zu_Mo_listPacket_w0, if_neg h44, if_pos h54])) dd_Mo_listPacket_169
def zu_Mo_listPacket_w1 (T : zs_T) (i : Nat) (c : Nat) (j : Nat) : zs_T := if T 18 ((13 * ((3 * (1 - i)) + c)) + (j + 1)) ≤ 0 then (T) else (if T 8 ((3 * i) + c) = 0 then ((zs_li T i (nI ((16384 + (64 * c)) + (j + 1))) (nI 1))) else (T))
set_option maxHeartbeats 4000000 in
set_option maxRecDepth 100000 in
theorem zc_Mo_listPacket_w1 (lc : Launch) (G : zw_G) (b0 : Nat) (T : zs_T) (i : Nat) (c : Nat) (j : Nat) (hi : i < 2) (hc : c < 3) (hj : j < 12) (hL : zs_LT T i 127) : zw_M lc ym_Mo_listPacket bm_Mo_listPacket 7 none { frames := 1, cells := 0, slots := 0, locals := 24 } G b0 26 (zq_p G b0 T) [.ref (b0 + 0), .int (nI i), .int (nI 1), .int (nI c), .int (nI (j + 1))] (zw_Qv G b0 26 (zq_p G b0 (zu_Mo_listPacket_w1 T i c j))) := by
  refine zw_of (by decide) (Nat.le_of_ble_eq_true rfl) ?_
  intro p e s m below meth cx ls F hr hlk hE hP hS hl
  have hl : lv_has ls 7 [(0, .ref (b0 + 0)), (1, .int (nI i)), (2, .int (nI 1)), (3, .int (nI c)), (4, .int (nI (j + 1)))] := hl
  refine lv_bipush (v := nI 13) F.1 F.2.1 dd_Mo_listPacket_0 (by decide) ?_
  refine lv_iconst (v := nI 3) F.1 F.2.1 dd_Mo_listPacket_2 (by decide) ?_
  refine lv_iload_n F.1 F.2.1 dd_Mo_listPacket_3 rfl (lv_at hl 1 rfl) ?_
  refine zn_imul F dd_Mo_listPacket_4 ?_
  refine lv_iload_n F.1 F.2.1 dd_Mo_listPacket_5 rfl (lv_at hl 3 rfl) ?_
  refine zn_iadd F dd_Mo_listPacket_6 ?_
  refine zn_imul F dd_Mo_listPacket_7 ?_
  refine lv_iload F.1 F.2.1 dd_Mo_listPacket_8 (lv_at hl 4 rfl) ?_
  refine zn_iadd F dd_Mo_listPacket_10 ?_
  refine lv_istore F.1 F.2.1 dd_Mo_listPacket_11 hl (by decide) (lv' := [(5, .int (nI ((13 * ((3 * i) + c)) + (j + 1)))), (0, .ref (b0 + 0)), (1, .int (nI i)), (2, .int (nI 1)), (3, .int (nI c)), (4, .int (nI (j + 1)))]) rfl (fun ls hl => ?_)
  refine lv_bipush (v := nI 13) F.1 F.2.1 dd_Mo_listPacket_13 (by decide) ?_
  refine lv_iconst (v := nI 3) F.1 F.2.1 dd_Mo_listPacket_15 (by decide) ?_
  refine lv_iconst (v := nI 1) F.1 F.2.1 dd_Mo_listPacket_16 (by decide) ?_
  refine lv_iload_n F.1 F.2.1 dd_Mo_listPacket_17 rfl (lv_at hl 2 rfl) ?_
  refine zn_isub F dd_Mo_listPacket_18 (by omega) ?_
  refine zn_imul F dd_Mo_listPacket_19 ?_
  refine lv_iload_n F.1 F.2.1 dd_Mo_listPacket_20 rfl (lv_at hl 4 rfl) ?_
  refine zn_iadd F dd_Mo_listPacket_21 ?_
  refine zn_imul F dd_Mo_listPacket_22 ?_
  refine lv_iload F.1 F.2.1 dd_Mo_listPacket_23 (lv_at hl 5 rfl) ?_
  refine zn_iadd F dd_Mo_listPacket_25 ?_
  refine lv_istore F.1 F.2.1 dd_Mo_listPacket_26 hl (by decide) (lv' := [(6, .int (nI ((13 * ((3 * (1 - i)) + c)) + (j + 1)))), (5, .int (nI ((13 * ((3 * i) + c)) + (j + 1)))), (0, .ref (b0 + 0)), (1, .int (nI i)), (2, .int (nI 1)), (3, .int (nI c)), (4, .int (nI (j + 1)))]) rfl (fun ls hl => ?_)
  refine lv_iload_n F.1 F.2.1 dd_Mo_listPacket_28 rfl (lv_at hl 4 rfl) ?_
  refine lv_if_ne F.1 F.2.1 dd_Mo_listPacket_29 (tgt := 86) rfl (fun h29 => ?_) (fun h29 => absurd h29 (by decide))
  refine lv_iload_n F.1 F.2.1 dd_Mo_listPacket_86 rfl (lv_at hl 4 rfl) ?_
  refine lv_iconst (v := nI 1) F.1 F.2.1 dd_Mo_listPacket_87 (by decide) ?_
  refine zn_cne F dd_Mo_listPacket_88 (tgt := 131) rfl (by omega) (by omega) (fun h88 => absurd h88 (by decide)) (fun h88 => ?_)
  refine lv_aload_n F.1 F.2.1 dd_Mo_listPacket_91 rfl (lv_at hl 2 rfl) ?_
  refine zm_gF F hE hP rfl rfl zi_Mo 18 (by decide) rfl wf_Mo_62 rfl dd_Mo_listPacket_92 ?_
  refine lv_iload F.1 F.2.1 dd_Mo_listPacket_95 (lv_at hl 0 rfl) ?_
  refine zm_iald (x := 18) (k := (13 * ((3 * (1 - i)) + c)) + (j + 1)) (N := 78) F hE hP (by decide) (fun _ => rfl) (by omega) (by decide) dd_Mo_listPacket_97 ?_
  refine lv_if_le F.1 F.2.1 dd_Mo_listPacket_98 (tgt := 131) rfl (fun h98 => ?_) (fun h98 => ?_)
  · refine lv_iload_n F.1 F.2.1 dd_Mo_listPacket_131 rfl (lv_at hl 4 rfl) ?_
    refine lv_iconst (v := nI 2) F.1 F.2.1 dd_Mo_listPacket_132 (by decide) ?_
    refine zn_cne F dd_Mo_listPacket_133 (tgt := 169) rfl (by omega) (by omega) (fun h133 => ?_) (fun h133 => absurd h133 (by decide))
    exact zw_vret F hr hlk hP hS (congrArg (zq_p G b0) (by rw [zu_Mo_listPacket_w1, if_pos h98])) dd_Mo_listPacket_169
  · refine lv_aload_n F.1 F.2.1 dd_Mo_listPacket_101 rfl (lv_at hl 2 rfl) ?_
    refine zm_gF F hE hP rfl rfl zi_Mo 8 (by decide) rfl wf_Mo_32 rfl dd_Mo_listPacket_102 ?_
    refine lv_iconst (v := nI 3) F.1 F.2.1 dd_Mo_listPacket_105 (by decide) ?_
    refine lv_iload_n F.1 F.2.1 dd_Mo_listPacket_106 rfl (lv_at hl 3 rfl) ?_
    refine zn_imul F dd_Mo_listPacket_107 ?_
    refine lv_iload_n F.1 F.2.1 dd_Mo_listPacket_108 rfl (lv_at hl 5 rfl) ?_
    refine zn_iadd F dd_Mo_listPacket_109 ?_
    refine zm_zald (x := 8) (k := (3 * i) + c) (N := 6) F hE hP (by decide) (fun _ => rfl) (by omega) (by decide) dd_Mo_listPacket_110 ?_
    refine lv_if_ne F.1 F.2.1 dd_Mo_listPacket_111 (tgt := 131) rfl (fun h111 => ?_) (fun h111 => ?_)
    · refine lv_iload_n F.1 F.2.1 dd_Mo_listPacket_131 rfl (lv_at hl 4 rfl) ?_
      refine lv_iconst (v := nI 2) F.1 F.2.1 dd_Mo_listPacket_132 (by decide) ?_
      refine zn_cne F dd_Mo_listPacket_133 (tgt := 169) rfl (by omega) (by omega) (fun h133 => ?_) (fun h133 => absurd h133 (by decide))
      exact zw_vret F hr hlk hP hS (congrArg (zq_p G b0) (by rw [zu_Mo_listPacket_w1, if_neg h98, if_neg h111])) dd_Mo_listPacket_169
    · refine lv_aload_n F.1 F.2.1 dd_Mo_listPacket_114 rfl (lv_at hl 2 rfl) ?_
      refine lv_iload_n F.1 F.2.1 dd_Mo_listPacket_115 rfl (lv_at hl 3 rfl) ?_
      refine lv_sipush (v := nI 16384) F.1 F.2.1 dd_Mo_listPacket_116 (by decide) ?_
      refine lv_bipush (v := nI 64) F.1 F.2.1 dd_Mo_listPacket_119 (by decide) ?_
      refine lv_iload_n F.1 F.2.1 dd_Mo_listPacket_121 rfl (lv_at hl 5 rfl) ?_
      refine zn_imul F dd_Mo_listPacket_122 ?_
      refine zn_iadd F dd_Mo_listPacket_123 ?_
      refine lv_iload F.1 F.2.1 dd_Mo_listPacket_124 (lv_at hl 6 rfl) ?_
      refine zn_iadd F dd_Mo_listPacket_126 ?_
      refine lv_iconst (v := nI 1) F.1 F.2.1 dd_Mo_listPacket_127 (by decide) ?_
      refine zw_gov (zw_rV F hE hP (zc_Mo_list lc G b0 T i (nI ((16384 + (64 * c)) + (j + 1))) (nI 1) (by first | omega | assumption) (by assumption)) zk_Mo_list za_Mo_list zb_Mo_list wl_Mo_95 ⟨rfl, rfl, Nat.le_of_ble_eq_true rfl, Nat.le_of_ble_eq_true rfl⟩ (zm_recv hE hP rfl rfl) hl.1 rfl (Nat.le_of_ble_eq_true rfl) ⟨Nat.zero_le _, Nat.zero_le _⟩ dd_Mo_listPacket_128) hS (fun _ h => h) (fun H locs hP _ _ hS => ?_)
      refine lv_iload_n F.1 F.2.1 dd_Mo_listPacket_131 rfl (lv_at hl 4 rfl) ?_
      refine lv_iconst (v := nI 2) F.1 F.2.1 dd_Mo_listPacket_132 (by decide) ?_
      refine zn_cne F dd_Mo_listPacket_133 (tgt := 169) rfl (by omega) (by omega) (fun h133 => ?_) (fun h133 => absurd h133 (by decide))
      exact zw_vret F hr hlk hP hS (congrArg (zq_p G b0) (by rw [zu_Mo_listPacket_w1, if_neg h98, if_pos h111])) dd_Mo_listPacket_169
def zu_Mo_listPacket_w2 (T : zs_T) (i : Nat) (c : Nat) (j : Nat) : zs_T := if T 18 ((13 * ((3 * (1 - i)) + c)) + (j + 1)) ≤ 0 then (T) else ((zs_li T i (nI ((20480 + (64 * c)) + (j + 1))) (T 18 ((13 * ((3 * (1 - i)) + c)) + (j + 1)))))
set_option maxHeartbeats 4000000 in
set_option maxRecDepth 100000 in
theorem zc_Mo_listPacket_w2 (lc : Launch) (G : zw_G) (b0 : Nat) (T : zs_T) (i : Nat) (c : Nat) (j : Nat) (hi : i < 2) (hc : c < 3) (hj : j < 12) (hL : zs_LT T i 127) : zw_M lc ym_Mo_listPacket bm_Mo_listPacket 7 none { frames := 1, cells := 0, slots := 0, locals := 24 } G b0 26 (zq_p G b0 T) [.ref (b0 + 0), .int (nI i), .int (nI 2), .int (nI c), .int (nI (j + 1))] (zw_Qv G b0 26 (zq_p G b0 (zu_Mo_listPacket_w2 T i c j))) := by
  refine zw_of (by decide) (Nat.le_of_ble_eq_true rfl) ?_
  intro p e s m below meth cx ls F hr hlk hE hP hS hl
  have hl : lv_has ls 7 [(0, .ref (b0 + 0)), (1, .int (nI i)), (2, .int (nI 2)), (3, .int (nI c)), (4, .int (nI (j + 1)))] := hl
  refine lv_bipush (v := nI 13) F.1 F.2.1 dd_Mo_listPacket_0 (by decide) ?_
  refine lv_iconst (v := nI 3) F.1 F.2.1 dd_Mo_listPacket_2 (by decide) ?_
  refine lv_iload_n F.1 F.2.1 dd_Mo_listPacket_3 rfl (lv_at hl 1 rfl) ?_
  refine zn_imul F dd_Mo_listPacket_4 ?_
  refine lv_iload_n F.1 F.2.1 dd_Mo_listPacket_5 rfl (lv_at hl 3 rfl) ?_
  refine zn_iadd F dd_Mo_listPacket_6 ?_
  refine zn_imul F dd_Mo_listPacket_7 ?_
  refine lv_iload F.1 F.2.1 dd_Mo_listPacket_8 (lv_at hl 4 rfl) ?_
  refine zn_iadd F dd_Mo_listPacket_10 ?_
  refine lv_istore F.1 F.2.1 dd_Mo_listPacket_11 hl (by decide) (lv' := [(5, .int (nI ((13 * ((3 * i) + c)) + (j + 1)))), (0, .ref (b0 + 0)), (1, .int (nI i)), (2, .int (nI 2)), (3, .int (nI c)), (4, .int (nI (j + 1)))]) rfl (fun ls hl => ?_)
  refine lv_bipush (v := nI 13) F.1 F.2.1 dd_Mo_listPacket_13 (by decide) ?_
  refine lv_iconst (v := nI 3) F.1 F.2.1 dd_Mo_listPacket_15 (by decide) ?_
  refine lv_iconst (v := nI 1) F.1 F.2.1 dd_Mo_listPacket_16 (by decide) ?_
  refine lv_iload_n F.1 F.2.1 dd_Mo_listPacket_17 rfl (lv_at hl 2 rfl) ?_
  refine zn_isub F dd_Mo_listPacket_18 (by omega) ?_
  refine zn_imul F dd_Mo_listPacket_19 ?_
  refine lv_iload_n F.1 F.2.1 dd_Mo_listPacket_20 rfl (lv_at hl 4 rfl) ?_
  refine zn_iadd F dd_Mo_listPacket_21 ?_
  refine zn_imul F dd_Mo_listPacket_22 ?_
  refine lv_iload F.1 F.2.1 dd_Mo_listPacket_23 (lv_at hl 5 rfl) ?_
  refine zn_iadd F dd_Mo_listPacket_25 ?_
  refine lv_istore F.1 F.2.1 dd_Mo_listPacket_26 hl (by decide) (lv' := [(6, .int (nI ((13 * ((3 * (1 - i)) + c)) + (j + 1)))), (5, .int (nI ((13 * ((3 * i) + c)) + (j + 1)))), (0, .ref (b0 + 0)), (1, .int (nI i)), (2, .int (nI 2)), (3, .int (nI c)), (4, .int (nI (j + 1)))]) rfl (fun ls hl => ?_)
  refine lv_iload_n F.1 F.2.1 dd_Mo_listPacket_28 rfl (lv_at hl 4 rfl) ?_
  refine lv_if_ne F.1 F.2.1 dd_Mo_listPacket_29 (tgt := 86) rfl (fun h29 => ?_) (fun h29 => absurd h29 (by decide))
  refine lv_iload_n F.1 F.2.1 dd_Mo_listPacket_86 rfl (lv_at hl 4 rfl) ?_
  refine lv_iconst (v := nI 1) F.1 F.2.1 dd_Mo_listPacket_87 (by decide) ?_
  refine zn_cne F dd_Mo_listPacket_88 (tgt := 131) rfl (by omega) (by omega) (fun h88 => ?_) (fun h88 => absurd h88 (by decide))
  refine lv_iload_n F.1 F.2.1 dd_Mo_listPacket_131 rfl (lv_at hl 4 rfl) ?_
  refine lv_iconst (v := nI 2) F.1 F.2.1 dd_Mo_listPacket_132 (by decide) ?_
  refine zn_cne F dd_Mo_listPacket_133 (tgt := 169) rfl (by omega) (by omega) (fun h133 => absurd h133 (by decide)) (fun h133 => ?_)
  refine lv_aload_n F.1 F.2.1 dd_Mo_listPacket_136 rfl (lv_at hl 2 rfl) ?_
  refine zm_gF F hE hP rfl rfl zi_Mo 18 (by decide) rfl wf_Mo_62 rfl dd_Mo_listPacket_137 ?_
  refine lv_iload F.1 F.2.1 dd_Mo_listPacket_140 (lv_at hl 0 rfl) ?_
  refine zm_iald (x := 18) (k := (13 * ((3 * (1 - i)) + c)) + (j + 1)) (N := 78) F hE hP (by decide) (fun _ => rfl) (by omega) (by decide) dd_Mo_listPacket_142 ?_
  refine lv_if_le F.1 F.2.1 dd_Mo_listPacket_143 (tgt := 169) rfl (fun h143 => ?_) (fun h143 => ?_)
  · exact zw_vret F hr hlk hP hS (congrArg (zq_p G b0) (by rw [zu_Mo_listPacket_w2, if_pos h143])) dd_Mo_listPacket_169
  · refine lv_aload_n F.1 F.2.1 dd_Mo_listPacket_146 rfl (lv_at hl 2 rfl) ?_
    refine lv_iload_n F.1 F.2.1 dd_Mo_listPacket_147 rfl (lv_at hl 3 rfl) ?_
    refine lv_sipush (v := nI 20480) F.1 F.2.1 dd_Mo_listPacket_148 (by decide) ?_
    refine lv_bipush (v := nI 64) F.1 F.2.1 dd_Mo_listPacket_151 (by decide) ?_
    refine lv_iload_n F.1 F.2.1 dd_Mo_listPacket_153 rfl (lv_at hl 5 rfl) ?_
    refine zn_imul F dd_Mo_listPacket_154 ?_
    refine zn_iadd F dd_Mo_listPacket_155 ?_
    refine lv_iload F.1 F.2.1 dd_Mo_listPacket_156 (lv_at hl 6 rfl) ?_
    refine zn_iadd F dd_Mo_listPacket_158 ?_
    refine lv_aload_n F.1 F.2.1 dd_Mo_listPacket_159 rfl (lv_at hl 2 rfl) ?_
    refine zm_gF F hE hP rfl rfl zi_Mo 18 (by decide) rfl wf_Mo_62 rfl dd_Mo_listPacket_160 ?_
    refine lv_iload F.1 F.2.1 dd_Mo_listPacket_163 (lv_at hl 0 rfl) ?_
    refine zm_iald (x := 18) (k := (13 * ((3 * (1 - i)) + c)) + (j + 1)) (N := 78) F hE hP (by decide) (fun _ => rfl) (by omega) (by decide) dd_Mo_listPacket_165 ?_
    refine zw_gov (zw_rV F hE hP (zc_Mo_list lc G b0 T i (nI ((20480 + (64 * c)) + (j + 1))) (T 18 ((13 * ((3 * (1 - i)) + c)) + (j + 1))) (by first | omega | assumption) (by assumption)) zk_Mo_list za_Mo_list zb_Mo_list wl_Mo_95 ⟨rfl, rfl, Nat.le_of_ble_eq_true rfl, Nat.le_of_ble_eq_true rfl⟩ (zm_recv hE hP rfl rfl) hl.1 rfl (Nat.le_of_ble_eq_true rfl) ⟨Nat.zero_le _, Nat.zero_le _⟩ dd_Mo_listPacket_166) hS (fun _ h => h) (fun H locs hP _ _ hS => ?_)
    exact zw_vret F hr hlk hP hS (congrArg (zq_p G b0) (by rw [zu_Mo_listPacket_w2, if_neg h143])) dd_Mo_listPacket_169
theorem zs_LT3_0 {T : zs_T} {i b c j : Nat} (h : zs_LT T i b) (hb : b ≤ 127) : zs_LT (zu_Mo_listPacket_w0 T i c j) i (b + 1) := by
  unfold zu_Mo_listPacket_w0
  repeat (first | exact zs_LTl h hb | exact zs_LTm h (by omega) | split)
theorem zs_LT3_1 {T : zs_T} {i b c j : Nat} (h : zs_LT T i b) (hb : b ≤ 127) : zs_LT (zu_Mo_listPacket_w1 T i c j) i (b + 1) := by
  unfold zu_Mo_listPacket_w1
  repeat (first | exact zs_LTl h hb | exact zs_LTm h (by omega) | split)
theorem zs_LT3_2 {T : zs_T} {i b c j : Nat} (h : zs_LT T i b) (hb : b ≤ 127) : zs_LT (zu_Mo_listPacket_w2 T i c j) i (b + 1) := by
  unfold zu_Mo_listPacket_w2
  repeat (first | exact zs_LTl h hb | exact zs_LTm h (by omega) | split)
def zs_tk (T : zs_T) (i : Nat) : zs_T := zs_it (fun j T => zu_Mo_listPacket_w2 T i 2 j) (zs_it (fun j T => zu_Mo_listPacket_w2 T i 1 j) (zs_it (fun j T => zu_Mo_listPacket_w2 T i 0 j) (zs_it (fun j T => zu_Mo_listPacket_w1 T i 2 j) (zs_it (fun j T => zu_Mo_listPacket_w1 T i 1 j) (zs_it (fun j T => zu_Mo_listPacket_w1 T i 0 j) (zs_it (fun j T => zu_Mo_listPacket_w0 T i 2 j) (zs_it (fun j T => zu_Mo_listPacket_w0 T i 1 j) (zs_it (fun j T => zu_Mo_listPacket_w0 T i 0 j) (zs_it (zs_t2 i) (zs_it (zs_t1 i) (zs_tk0 T i) 0 3) 0 3) 0 12) 0 12) 0 12) 0 12) 0 12) 0 12) 0 12) 0 12) 0 12
set_option maxHeartbeats 4000000 in
set_option maxRecDepth 100000 in
theorem zl_Mo_tick1 {p : Program} {e : Env} {R : Room} {s : State} {m : MethodId} {below : List Frame} {meth : Method} {cx : Code} {av : Array Value} {Qf : State → Prop} (lc : Launch) (G : zw_G) (b0 : Nat) (i : Nat) (hi : i < 2)  (hR : 3 ≤ R.frames ∧ 80 ≤ R.locals) (F : CallFix p m cx bm_Mo_tick 5 s av zw_WS "TwinLedgersModel") (hE : zw_E G s) : ∀ (r k b : Nat) (T : zs_T), k + r = 3 → zs_LT T i b → b + r ≤ 127 → (∀ (ls : Array Slot) (H : Heap) (locs : List Loc), lv_has ls 5 [(2, .int (nI 3)), (0, .ref (b0 + 0)), (1, .int (nI i))] → va_P G.1 zw_cl (zw_l b0 26 (zq_p G b0 (zs_it (zs_t1 i) T k r))) H → va_S (zw_A b0 26) s.heap H locs → W p lc e R s m av below meth cx H locs 0 0 Qf (F0 m 108 ls [])) → ∀ (ls : Array Slot) (H : Heap) (locs : List Loc), lv_has ls 5 [(2, .int (nI k)), (0, .ref (b0 + 0)), (1, .int (nI i))] → va_P G.1 zw_cl (zw_l b0 26 (zq_p G b0 T)) H → va_S (zw_A b0 26) s.heap H locs → W p lc e R s m av below meth cx H locs 0 0 Qf (F0 m 43 ls []) := by
  intro r
  induction r with
  | zero =>
    intro k b T hk hL hb kk ls H locs hl hP hS
    obtain rfl : k = 3 := by omega
    refine lv_iload_n F.1 F.2.1 dd_Mo_tick_43 rfl (lv_at hl 0 rfl) ?_
    refine lv_iconst (v := nI 3) F.1 F.2.1 dd_Mo_tick_44 (by decide) ?_
    refine zn_cge F dd_Mo_tick_45 (tgt := 108) rfl (by omega) (by omega) (fun h45 => ?_) (fun h45 => absurd h45 (by decide))
    exact kk ls H locs (lv_sub hl [0, 1, 2] rfl) hP hS
  | succ r ih =>
    intro k b T hk hL hb kk ls H locs hl hP hS
    have hL7 : zs_LT T i 127 := zs_LTm hL (by omega)
    refine lv_iload_n F.1 F.2.1 dd_Mo_tick_43 rfl (lv_at hl 0 rfl) ?_
    refine lv_iconst (v := nI 3) F.1 F.2.1 dd_Mo_tick_44 (by decide) ?_
    refine zn_cge F dd_Mo_tick_45 (tgt := 108) rfl (by omega) (by omega) (fun h45 => absurd h45 (by omega)) (fun h45 => ?_)
    refine lv_aload_n F.1 F.2.1 dd_Mo_tick_48 rfl (lv_at hl 1 rfl) ?_
    refine zm_gF F hE hP rfl rfl zi_Mo 7 (by decide) rfl wf_Mo_29 rfl dd_Mo_tick_49 ?_
    refine lv_iconst (v := nI 3) F.1 F.2.1 dd_Mo_tick_52 (by decide) ?_
    refine lv_iload_n F.1 F.2.1 dd_Mo_tick_53 rfl (lv_at hl 2 rfl) ?_
    refine zn_imul F dd_Mo_tick_54 ?_
    refine lv_iload_n F.1 F.2.1 dd_Mo_tick_55 rfl (lv_at hl 0 rfl) ?_
    refine zn_iadd F dd_Mo_tick_56 ?_
    refine zm_iald (x := 7) (k := (3 * i) + k) (N := 6) F hE hP (by decide) (fun _ => rfl) (by omega) (by decide) dd_Mo_tick_57 ?_
    refine lv_if_le F.1 F.2.1 dd_Mo_tick_58 (tgt := 102) rfl (fun h58 => ?_) (fun h58 => ?_)
    · refine lv_iinc F.1 F.2.1 dd_Mo_tick_102 hl (k := 0) rfl (v := nI (k + 1)) (nI_1 _) (by decide) (lv' := [(2, .int (nI (k + 1))), (0, .ref (b0 + 0)), (1, .int (nI i))]) rfl (fun ls hl => ?_)
      refine lv_goto F.1 F.2.1 dd_Mo_tick_105 (tgt := 43) rfl ?_
      have he : (zs_t1 i) k T = T := by rw [zs_t1, if_pos h58]
      have hP : va_P G.1 zw_cl (zw_l b0 26 (zq_p G b0 ((zs_t1 i) k T))) H := by rw [he]; exact hP
      exact ih (k + 1) (b + 1) _ (by omega) (zs_LT1 hL (by omega)) (by omega) kk ls H locs (lv_sub hl [0, 1, 2] rfl) hP hS
    · refine lv_aload_n F.1 F.2.1 dd_Mo_tick_61 rfl (lv_at hl 1 rfl) ?_
      refine lv_iload_n F.1 F.2.1 dd_Mo_tick_62 rfl (lv_at hl 2 rfl) ?_
      refine lv_sipush (v := nI 4096) F.1 F.2.1 dd_Mo_tick_63 (by decide) ?_
      refine lv_iload_n F.1 F.2.1 dd_Mo_tick_66 rfl (lv_at hl 0 rfl) ?_
      refine zn_iadd F dd_Mo_tick_67 ?_
      refine lv_iconst (v := nI 2) F.1 F.2.1 dd_Mo_tick_68 (by decide) ?_
      refine lv_aload_n F.1 F.2.1 dd_Mo_tick_69 rfl (lv_at hl 1 rfl) ?_
      refine zm_gF F hE hP rfl rfl zi_Mo 7 (by decide) rfl wf_Mo_29 rfl dd_Mo_tick_70 ?_
      refine lv_iconst (v := nI 3) F.1 F.2.1 dd_Mo_tick_73 (by decide) ?_
      refine lv_iload_n F.1 F.2.1 dd_Mo_tick_74 rfl (lv_at hl 2 rfl) ?_
      refine zn_imul F dd_Mo_tick_75 ?_
      refine lv_iload_n F.1 F.2.1 dd_Mo_tick_76 rfl (lv_at hl 0 rfl) ?_
      refine zn_iadd F dd_Mo_tick_77 ?_
      refine zm_iald (x := 7) (k := (3 * i) + k) (N := 6) F hE hP (by decide) (fun _ => rfl) (by omega) (by decide) dd_Mo_tick_78 ?_
      refine lv_imul F.1 F.2.1 dd_Mo_tick_79 ?_
      refine lv_aload_n F.1 F.2.1 dd_Mo_tick_80 rfl (lv_at hl 1 rfl) ?_
      refine zm_gF F hE hP rfl rfl zi_Mo 8 (by decide) rfl wf_Mo_32 rfl dd_Mo_tick_81 ?_
      refine lv_iconst (v := nI 3) F.1 F.2.1 dd_Mo_tick_84 (by decide) ?_
      refine lv_iload_n F.1 F.2.1 dd_Mo_tick_85 rfl (lv_at hl 2 rfl) ?_
      refine zn_imul F dd_Mo_tick_86 ?_
      refine lv_iload_n F.1 F.2.1 dd_Mo_tick_87 rfl (lv_at hl 0 rfl) ?_
      refine zn_iadd F dd_Mo_tick_88 ?_
      refine zm_zald (x := 8) (k := (3 * i) + k) (N := 6) F hE hP (by decide) (fun _ => rfl) (by omega) (by decide) dd_Mo_tick_89 ?_
      refine lv_if_eq F.1 F.2.1 dd_Mo_tick_90 (tgt := 97) rfl (fun h90 => ?_) (fun h90 => ?_)
      · refine lv_iconst (v := nI 0) F.1 F.2.1 dd_Mo_tick_97 (by decide) ?_
        refine lv_iadd F.1 F.2.1 dd_Mo_tick_98 ?_
        refine zw_gov (zw_rV F hE hP (zc_Mo_list lc G b0 T i (nI (4096 + k)) (((nI 2) * (T 7 ((3 * i) + k))) + (nI 0)) (by first | omega | assumption) hL7) zk_Mo_list za_Mo_list zb_Mo_list wl_Mo_95 ⟨rfl, rfl, Nat.le_trans (Nat.le_of_ble_eq_true rfl) hR.1, Nat.le_trans (Nat.le_of_ble_eq_true rfl) hR.2⟩ (zm_recv hE hP rfl rfl) hl.1 rfl (Nat.le_of_ble_eq_true rfl) ⟨Nat.zero_le _, Nat.zero_le _⟩ dd_Mo_tick_99) hS (fun _ h => h) (fun H locs hP _ _ hS => ?_)
        refine lv_iinc F.1 F.2.1 dd_Mo_tick_102 hl (k := 0) rfl (v := nI (k + 1)) (nI_1 _) (by decide) (lv' := [(2, .int (nI (k + 1))), (0, .ref (b0 + 0)), (1, .int (nI i))]) rfl (fun ls hl => ?_)
        refine lv_goto F.1 F.2.1 dd_Mo_tick_105 (tgt := 43) rfl ?_
        have he : (zs_t1 i) k T = (zs_li T i (nI (4096 + k)) (((nI 2) * (T 7 ((3 * i) + k))) + (nI 0))) := by rw [zs_t1, if_neg h58, if_pos h90]
        have hP : va_P G.1 zw_cl (zw_l b0 26 (zq_p G b0 ((zs_t1 i) k T))) H := by rw [he]; exact hP
        exact ih (k + 1) (b + 1) _ (by omega) (zs_LT1 hL (by omega)) (by omega) kk ls H locs (lv_sub hl [0, 1, 2] rfl) hP hS
      · refine lv_iconst (v := nI 1) F.1 F.2.1 dd_Mo_tick_93 (by decide) ?_
        refine lv_goto F.1 F.2.1 dd_Mo_tick_94 (tgt := 98) rfl ?_
        refine lv_iadd F.1 F.2.1 dd_Mo_tick_98 ?_
        refine zw_gov (zw_rV F hE hP (zc_Mo_list lc G b0 T i (nI (4096 + k)) (((nI 2) * (T 7 ((3 * i) + k))) + (nI 1)) (by first | omega | assumption) hL7) zk_Mo_list za_Mo_list zb_Mo_list wl_Mo_95 ⟨rfl, rfl, Nat.le_trans (Nat.le_of_ble_eq_true rfl) hR.1, Nat.le_trans (Nat.le_of_ble_eq_true rfl) hR.2⟩ (zm_recv hE hP rfl rfl) hl.1 rfl (Nat.le_of_ble_eq_true rfl) ⟨Nat.zero_le _, Nat.zero_le _⟩ dd_Mo_tick_99) hS (fun _ h => h) (fun H locs hP _ _ hS => ?_)
        refine lv_iinc F.1 F.2.1 dd_Mo_tick_102 hl (k := 0) rfl (v := nI (k + 1)) (nI_1 _) (by decide) (lv' := [(2, .int (nI (k + 1))), (0, .ref (b0 + 0)), (1, .int (nI i))]) rfl (fun ls hl => ?_)
        refine lv_goto F.1 F.2.1 dd_Mo_tick_105 (tgt := 43) rfl ?_
        have he : (zs_t1 i) k T = (zs_li T i (nI (4096 + k)) (((nI 2) * (T 7 ((3 * i) + k))) + (nI 1))) := by rw [zs_t1, if_neg h58, if_neg h90]
        have hP : va_P G.1 zw_cl (zw_l b0 26 (zq_p G b0 ((zs_t1 i) k T))) H := by rw [he]; exact hP
        exact ih (k + 1) (b + 1) _ (by omega) (zs_LT1 hL (by omega)) (by omega) kk ls H locs (lv_sub hl [0, 1, 2] rfl) hP hS
set_option maxHeartbeats 4000000 in
set_option maxRecDepth 100000 in
theorem zl_Mo_tick2 {p : Program} {e : Env} {R : Room} {s : State} {m : MethodId} {below : List Frame} {meth : Method} {cx : Code} {av : Array Value} {Qf : State → Prop} (lc : Launch) (G : zw_G) (b0 : Nat) (i : Nat) (hi : i < 2)  (hR : 3 ≤ R.frames ∧ 80 ≤ R.locals) (F : CallFix p m cx bm_Mo_tick 5 s av zw_WS "TwinLedgersModel") (hE : zw_E G s) : ∀ (r k b : Nat) (T : zs_T), k + r = 3 → zs_LT T i b → b + r ≤ 127 → (∀ (ls : Array Slot) (H : Heap) (locs : List Loc), lv_has ls 5 [(2, .int (nI 3)), (0, .ref (b0 + 0)), (1, .int (nI i))] → va_P G.1 zw_cl (zw_l b0 26 (zq_p G b0 (zs_it (zs_t2 i) T k r))) H → va_S (zw_A b0 26) s.heap H locs → W p lc e R s m av below meth cx H locs 0 0 Qf (F0 m 167 ls [])) → ∀ (ls : Array Slot) (H : Heap) (locs : List Loc), lv_has ls 5 [(2, .int (nI k)), (0, .ref (b0 + 0)), (1, .int (nI i))] → va_P G.1 zw_cl (zw_l b0 26 (zq_p G b0 T)) H → va_S (zw_A b0 26) s.heap H locs → W p lc e R s m av below meth cx H locs 0 0 Qf (F0 m 110 ls []) := by
  intro r
  induction r with
  | zero =>
    intro k b T hk hL hb kk ls H locs hl hP hS
    obtain rfl : k = 3 := by omega
    refine lv_iload_n F.1 F.2.1 dd_Mo_tick_110 rfl (lv_at hl 0 rfl) ?_
    refine lv_iconst (v := nI 3) F.1 F.2.1 dd_Mo_tick_111 (by decide) ?_
    refine zn_cge F dd_Mo_tick_112 (tgt := 167) rfl (by omega) (by omega) (fun h112 => ?_) (fun h112 => absurd h112 (by decide))
    exact kk ls H locs (lv_sub hl [0, 1, 2] rfl) hP hS
  | succ r ih =>
    intro k b T hk hL hb kk ls H locs hl hP hS
    have hL7 : zs_LT T i 127 := zs_LTm hL (by omega)
    refine lv_iload_n F.1 F.2.1 dd_Mo_tick_110 rfl (lv_at hl 0 rfl) ?_
    refine lv_iconst (v := nI 3) F.1 F.2.1 dd_Mo_tick_111 (by decide) ?_
    refine zn_cge F dd_Mo_tick_112 (tgt := 167) rfl (by omega) (by omega) (fun h112 => absurd h112 (by omega)) (fun h112 => ?_)
    refine lv_aload_n F.1 F.2.1 dd_Mo_tick_115 rfl (lv_at hl 1 rfl) ?_
    refine zm_gF F hE hP rfl rfl zi_Mo 7 (by decide) rfl wf_Mo_29 rfl dd_Mo_tick_116 ?_
    refine lv_iconst (v := nI 3) F.1 F.2.1 dd_Mo_tick_119 (by decide) ?_
    refine lv_iload_n F.1 F.2.1 dd_Mo_tick_120 rfl (lv_at hl 2 rfl) ?_
    refine zn_imul F dd_Mo_tick_121 ?_
    refine lv_iload_n F.1 F.2.1 dd_Mo_tick_122 rfl (lv_at hl 0 rfl) ?_
    refine zn_iadd F dd_Mo_tick_123 ?_
    refine zm_iald (x := 7) (k := (3 * i) + k) (N := 6) F hE hP (by decide) (fun _ => rfl) (by omega) (by decide) dd_Mo_tick_124 ?_
    refine lv_if_le F.1 F.2.1 dd_Mo_tick_125 (tgt := 161) rfl (fun h125 => ?_) (fun h125 => ?_)
    · refine lv_iinc F.1 F.2.1 dd_Mo_tick_161 hl (k := 0) rfl (v := nI (k + 1)) (nI_1 _) (by decide) (lv' := [(2, .int (nI (k + 1))), (0, .ref (b0 + 0)), (1, .int (nI i))]) rfl (fun ls hl => ?_)
      refine lv_goto F.1 F.2.1 dd_Mo_tick_164 (tgt := 110) rfl ?_
      have he : (zs_t2 i) k T = T := by rw [zs_t2, if_pos h125]
      have hP : va_P G.1 zw_cl (zw_l b0 26 (zq_p G b0 ((zs_t2 i) k T))) H := by rw [he]; exact hP
      exact ih (k + 1) (b + 1) _ (by omega) (zs_LT2 hL (by omega)) (by omega) kk ls H locs (lv_sub hl [0, 1, 2] rfl) hP hS
    · refine lv_aload_n F.1 F.2.1 dd_Mo_tick_128 rfl (lv_at hl 1 rfl) ?_
      refine zm_gF F hE hP rfl rfl zi_Mo 8 (by decide) rfl wf_Mo_32 rfl dd_Mo_tick_129 ?_
      refine lv_iconst (v := nI 3) F.1 F.2.1 dd_Mo_tick_132 (by decide) ?_
      refine lv_iload_n F.1 F.2.1 dd_Mo_tick_133 rfl (lv_at hl 2 rfl) ?_
      refine zn_imul F dd_Mo_tick_134 ?_
      refine lv_iload_n F.1 F.2.1 dd_Mo_tick_135 rfl (lv_at hl 0 rfl) ?_
      refine zn_iadd F dd_Mo_tick_136 ?_
      refine zm_zald (x := 8) (k := (3 * i) + k) (N := 6) F hE hP (by decide) (fun _ => rfl) (by omega) (by decide) dd_Mo_tick_137 ?_
      refine lv_if_eq F.1 F.2.1 dd_Mo_tick_138 (tgt := 161) rfl (fun h138 => ?_) (fun h138 => ?_)
      · refine lv_iinc F.1 F.2.1 dd_Mo_tick_161 hl (k := 0) rfl (v := nI (k + 1)) (nI_1 _) (by decide) (lv' := [(2, .int (nI (k + 1))), (0, .ref (b0 + 0)), (1, .int (nI i))]) rfl (fun ls hl => ?_)
        refine lv_goto F.1 F.2.1 dd_Mo_tick_164 (tgt := 110) rfl ?_
        have he : (zs_t2 i) k T = T := by rw [zs_t2, if_neg h125, if_pos h138]
        have hP : va_P G.1 zw_cl (zw_l b0 26 (zq_p G b0 ((zs_t2 i) k T))) H := by rw [he]; exact hP
        exact ih (k + 1) (b + 1) _ (by omega) (zs_LT2 hL (by omega)) (by omega) kk ls H locs (lv_sub hl [0, 1, 2] rfl) hP hS
      · refine lv_aload_n F.1 F.2.1 dd_Mo_tick_141 rfl (lv_at hl 1 rfl) ?_
        refine lv_iload_n F.1 F.2.1 dd_Mo_tick_142 rfl (lv_at hl 2 rfl) ?_
        refine lv_sipush (v := nI 8192) F.1 F.2.1 dd_Mo_tick_143 (by decide) ?_
        refine lv_iload_n F.1 F.2.1 dd_Mo_tick_146 rfl (lv_at hl 0 rfl) ?_
        refine zn_iadd F dd_Mo_tick_147 ?_
        refine lv_aload_n F.1 F.2.1 dd_Mo_tick_148 rfl (lv_at hl 1 rfl) ?_
        refine zm_gF F hE hP rfl rfl zi_Mo 10 (by decide) rfl wf_Mo_38 rfl dd_Mo_tick_149 ?_
        refine lv_iconst (v := nI 3) F.1 F.2.1 dd_Mo_tick_152 (by decide) ?_
        refine lv_iload_n F.1 F.2.1 dd_Mo_tick_153 rfl (lv_at hl 2 rfl) ?_
        refine zn_imul F dd_Mo_tick_154 ?_
        refine lv_iload_n F.1 F.2.1 dd_Mo_tick_155 rfl (lv_at hl 0 rfl) ?_
        refine zn_iadd F dd_Mo_tick_156 ?_
        refine zm_iald (x := 10) (k := (3 * i) + k) (N := 6) F hE hP (by decide) (fun _ => rfl) (by omega) (by decide) dd_Mo_tick_157 ?_
        refine zw_gov (zw_rV F hE hP (zc_Mo_list lc G b0 T i (nI (8192 + k)) (T 10 ((3 * i) + k)) (by first | omega | assumption) hL7) zk_Mo_list za_Mo_list zb_Mo_list wl_Mo_95 ⟨rfl, rfl, Nat.le_trans (Nat.le_of_ble_eq_true rfl) hR.1, Nat.le_trans (Nat.le_of_ble_eq_true rfl) hR.2⟩ (zm_recv hE hP rfl rfl) hl.1 rfl (Nat.le_of_ble_eq_true rfl) ⟨Nat.zero_le _, Nat.zero_le _⟩ dd_Mo_tick_158) hS (fun _ h => h) (fun H locs hP _ _ hS => ?_)
        refine lv_iinc F.1 F.2.1 dd_Mo_tick_161 hl (k := 0) rfl (v := nI (k + 1)) (nI_1 _) (by decide) (lv' := [(2, .int (nI (k + 1))), (0, .ref (b0 + 0)), (1, .int (nI i))]) rfl (fun ls hl => ?_)
        refine lv_goto F.1 F.2.1 dd_Mo_tick_164 (tgt := 110) rfl ?_
        have he : (zs_t2 i) k T = (zs_li T i (nI (8192 + k)) (T 10 ((3 * i) + k))) := by rw [zs_t2, if_neg h125, if_neg h138]
        have hP : va_P G.1 zw_cl (zw_l b0 26 (zq_p G b0 ((zs_t2 i) k T))) H := by rw [he]; exact hP
        exact ih (k + 1) (b + 1) _ (by omega) (zs_LT2 hL (by omega)) (by omega) kk ls H locs (lv_sub hl [0, 1, 2] rfl) hP hS
set_option maxHeartbeats 4000000 in
set_option maxRecDepth 100000 in
theorem zl_Mo_tick3_0 {p : Program} {e : Env} {R : Room} {s : State} {m : MethodId} {below : List Frame} {meth : Method} {cx : Code} {av : Array Value} {Qf : State → Prop} (lc : Launch) (G : zw_G) (b0 : Nat) (i : Nat) (hi : i < 2) (c : Nat) (hc : c < 3) (hR : 3 ≤ R.frames ∧ 80 ≤ R.locals) (F : CallFix p m cx bm_Mo_tick 5 s av zw_WS "TwinLedgersModel") (hE : zw_E G s) : ∀ (r k b : Nat) (T : zs_T), k + r = 12 → zs_LT T i b → b + r ≤ 127 → (∀ (ls : Array Slot) (H : Heap) (locs : List Loc), lv_has ls 5 [(4, .int (nI 13)), (3, .int (nI c)), (2, .int (nI 0)), (0, .ref (b0 + 0)), (1, .int (nI i))] → va_P G.1 zw_cl (zw_l b0 26 (zq_p G b0 (zs_it (fun j T => zu_Mo_listPacket_w0 T i c j) T k r))) H → va_S (zw_A b0 26) s.heap H locs → W p lc e R s m av below meth cx H locs 0 0 Qf (F0 m 206 ls [])) → ∀ (ls : Array Slot) (H : Heap) (locs : List Loc), lv_has ls 5 [(4, .int (nI (k + 1))), (3, .int (nI c)), (2, .int (nI 0)), (0, .ref (b0 + 0)), (1, .int (nI i))] → va_P G.1 zw_cl (zw_l b0 26 (zq_p G b0 T)) H → va_S (zw_A b0 26) s.heap H locs → W p lc e R s m av below meth cx H locs 0 0 Qf (F0 m 184 ls []) := by
  intro r
  induction r with
  | zero =>
    intro k b T hk hL hb kk ls H locs hl hP hS
    obtain rfl : k = 12 := by omega
    refine lv_iload F.1 F.2.1 dd_Mo_tick_184 (lv_at hl 0 rfl) ?_
    refine lv_bipush (v := nI 13) F.1 F.2.1 dd_Mo_tick_186 (by decide) ?_
    refine zn_cge F dd_Mo_tick_188 (tgt := 206) rfl (by omega) (by omega) (fun h188 => ?_) (fun h188 => absurd h188 (by decide))
    exact kk ls H locs (lv_sub hl [0, 1, 2, 3, 4] rfl) hP hS
  | succ r ih =>
    intro k b T hk hL hb kk ls H locs hl hP hS
    have hL7 : zs_LT T i 127 := zs_LTm hL (by omega)
    refine lv_iload F.1 F.2.1 dd_Mo_tick_184 (lv_at hl 0 rfl) ?_
    refine lv_bipush (v := nI 13) F.1 F.2.1 dd_Mo_tick_186 (by decide) ?_
    refine zn_cge F dd_Mo_tick_188 (tgt := 206) rfl (by omega) (by omega) (fun h188 => absurd h188 (by omega)) (fun h188 => ?_)
    refine lv_aload_n F.1 F.2.1 dd_Mo_tick_191 rfl (lv_at hl 3 rfl) ?_
    refine lv_iload_n F.1 F.2.1 dd_Mo_tick_192 rfl (lv_at hl 4 rfl) ?_
    refine lv_iload_n F.1 F.2.1 dd_Mo_tick_193 rfl (lv_at hl 2 rfl) ?_
    refine lv_iload_n F.1 F.2.1 dd_Mo_tick_194 rfl (lv_at hl 1 rfl) ?_
    refine lv_iload F.1 F.2.1 dd_Mo_tick_195 (lv_at hl 0 rfl) ?_
    refine zw_gov (zw_rV F hE hP (zc_Mo_listPacket_w0 lc G b0 T i c k (by first | omega | assumption) (by first | omega | assumption) (by first | omega | assumption) hL7) zk_Mo_listPacket za_Mo_listPacket zb_Mo_listPacket wl_Mo_99 ⟨rfl, rfl, Nat.le_trans (Nat.le_of_ble_eq_true rfl) hR.1, Nat.le_trans (Nat.le_of_ble_eq_true rfl) hR.2⟩ (zm_recv hE hP rfl rfl) hl.1 rfl (Nat.le_of_ble_eq_true rfl) ⟨Nat.zero_le _, Nat.zero_le _⟩ dd_Mo_tick_197) hS (fun _ h => h) (fun H locs hP _ _ hS => ?_)
    refine lv_iinc F.1 F.2.1 dd_Mo_tick_200 hl (k := 0) rfl (v := nI (k + 1 + 1)) (nI_1 _) (by decide) (lv' := [(4, .int (nI (k + 1 + 1))), (3, .int (nI c)), (2, .int (nI 0)), (0, .ref (b0 + 0)), (1, .int (nI i))]) rfl (fun ls hl => ?_)
    refine lv_goto F.1 F.2.1 dd_Mo_tick_203 (tgt := 184) rfl ?_
    have he : (fun j T => zu_Mo_listPacket_w0 T i c j) k T = (zu_Mo_listPacket_w0 T i c k) := by rfl
    have hP : va_P G.1 zw_cl (zw_l b0 26 (zq_p G b0 ((fun j T => zu_Mo_listPacket_w0 T i c j) k T))) H := by rw [he]; exact hP
    exact ih (k + 1) (b + 1) _ (by omega) (zs_LT3_0 hL (by omega)) (by omega) kk ls H locs (lv_sub hl [0, 1, 2, 3, 4] rfl) hP hS
set_option maxHeartbeats 4000000 in
set_option maxRecDepth 100000 in
theorem zl_Mo_tick3_1 {p : Program} {e : Env} {R : Room} {s : State} {m : MethodId} {below : List Frame} {meth : Method} {cx : Code} {av : Array Value} {Qf : State → Prop} (lc : Launch) (G : zw_G) (b0 : Nat) (i : Nat) (hi : i < 2) (c : Nat) (hc : c < 3) (hR : 3 ≤ R.frames ∧ 80 ≤ R.locals) (F : CallFix p m cx bm_Mo_tick 5 s av zw_WS "TwinLedgersModel") (hE : zw_E G s) : ∀ (r k b : Nat) (T : zs_T), k + r = 12 → zs_LT T i b → b + r ≤ 127 → (∀ (ls : Array Slot) (H : Heap) (locs : List Loc), lv_has ls 5 [(4, .int (nI 13)), (3, .int (nI c)), (2, .int (nI 1)), (0, .ref (b0 + 0)), (1, .int (nI i))] → va_P G.1 zw_cl (zw_l b0 26 (zq_p G b0 (zs_it (fun j T => zu_Mo_listPacket_w1 T i c j) T k r))) H → va_S (zw_A b0 26) s.heap H locs → W p lc e R s m av below meth cx H locs 0 0 Qf (F0 m 206 ls [])) → ∀ (ls : Array Slot) (H : Heap) (locs : List Loc), lv_has ls 5 [(4, .int (nI (k + 1))), (3, .int (nI c)), (2, .int (nI 1)), (0, .ref (b0 + 0)), (1, .int (nI i))] → va_P G.1 zw_cl (zw_l b0 26 (zq_p G b0 T)) H → va_S (zw_A b0 26) s.heap H locs → W p lc e R s m av below meth cx H locs 0 0 Qf (F0 m 184 ls []) := by
  intro r
  induction r with
  | zero =>
    intro k b T hk hL hb kk ls H locs hl hP hS
    obtain rfl : k = 12 := by omega
    refine lv_iload F.1 F.2.1 dd_Mo_tick_184 (lv_at hl 0 rfl) ?_
    refine lv_bipush (v := nI 13) F.1 F.2.1 dd_Mo_tick_186 (by decide) ?_
    refine zn_cge F dd_Mo_tick_188 (tgt := 206) rfl (by omega) (by omega) (fun h188 => ?_) (fun h188 => absurd h188 (by decide))
    exact kk ls H locs (lv_sub hl [0, 1, 2, 3, 4] rfl) hP hS
  | succ r ih =>
    intro k b T hk hL hb kk ls H locs hl hP hS
    have hL7 : zs_LT T i 127 := zs_LTm hL (by omega)
    refine lv_iload F.1 F.2.1 dd_Mo_tick_184 (lv_at hl 0 rfl) ?_
    refine lv_bipush (v := nI 13) F.1 F.2.1 dd_Mo_tick_186 (by decide) ?_
    refine zn_cge F dd_Mo_tick_188 (tgt := 206) rfl (by omega) (by omega) (fun h188 => absurd h188 (by omega)) (fun h188 => ?_)
    refine lv_aload_n F.1 F.2.1 dd_Mo_tick_191 rfl (lv_at hl 3 rfl) ?_
    refine lv_iload_n F.1 F.2.1 dd_Mo_tick_192 rfl (lv_at hl 4 rfl) ?_
    refine lv_iload_n F.1 F.2.1 dd_Mo_tick_193 rfl (lv_at hl 2 rfl) ?_
    refine lv_iload_n F.1 F.2.1 dd_Mo_tick_194 rfl (lv_at hl 1 rfl) ?_
    refine lv_iload F.1 F.2.1 dd_Mo_tick_195 (lv_at hl 0 rfl) ?_
    refine zw_gov (zw_rV F hE hP (zc_Mo_listPacket_w1 lc G b0 T i c k (by first | omega | assumption) (by first | omega | assumption) (by first | omega | assumption) hL7) zk_Mo_listPacket za_Mo_listPacket zb_Mo_listPacket wl_Mo_99 ⟨rfl, rfl, Nat.le_trans (Nat.le_of_ble_eq_true rfl) hR.1, Nat.le_trans (Nat.le_of_ble_eq_true rfl) hR.2⟩ (zm_recv hE hP rfl rfl) hl.1 rfl (Nat.le_of_ble_eq_true rfl) ⟨Nat.zero_le _, Nat.zero_le _⟩ dd_Mo_tick_197) hS (fun _ h => h) (fun H locs hP _ _ hS => ?_)
    refine lv_iinc F.1 F.2.1 dd_Mo_tick_200 hl (k := 0) rfl (v := nI (k + 1 + 1)) (nI_1 _) (by decide) (lv' := [(4, .int (nI (k + 1 + 1))), (3, .int (nI c)), (2, .int (nI 1)), (0, .ref (b0 + 0)), (1, .int (nI i))]) rfl (fun ls hl => ?_)
    refine lv_goto F.1 F.2.1 dd_Mo_tick_203 (tgt := 184) rfl ?_
    have he : (fun j T => zu_Mo_listPacket_w1 T i c j) k T = (zu_Mo_listPacket_w1 T i c k) := by rfl
    have hP : va_P G.1 zw_cl (zw_l b0 26 (zq_p G b0 ((fun j T => zu_Mo_listPacket_w1 T i c j) k T))) H := by rw [he]; exact hP
    exact ih (k + 1) (b + 1) _ (by omega) (zs_LT3_1 hL (by omega)) (by omega) kk ls H locs (lv_sub hl [0, 1, 2, 3, 4] rfl) hP hS
set_option maxHeartbeats 4000000 in
set_option maxRecDepth 100000 in
theorem zl_Mo_tick3_2 {p : Program} {e : Env} {R : Room} {s : State} {m : MethodId} {below : List Frame} {meth : Method} {cx : Code} {av : Array Value} {Qf : State → Prop} (lc : Launch) (G : zw_G) (b0 : Nat) (i : Nat) (hi : i < 2) (c : Nat) (hc : c < 3) (hR : 3 ≤ R.frames ∧ 80 ≤ R.locals) (F : CallFix p m cx bm_Mo_tick 5 s av zw_WS "TwinLedgersModel") (hE : zw_E G s) : ∀ (r k b : Nat) (T : zs_T), k + r = 12 → zs_LT T i b → b + r ≤ 127 → (∀ (ls : Array Slot) (H : Heap) (locs : List Loc), lv_has ls 5 [(4, .int (nI 13)), (3, .int (nI c)), (2, .int (nI 2)), (0, .ref (b0 + 0)), (1, .int (nI i))] → va_P G.1 zw_cl (zw_l b0 26 (zq_p G b0 (zs_it (fun j T => zu_Mo_listPacket_w2 T i c j) T k r))) H → va_S (zw_A b0 26) s.heap H locs → W p lc e R s m av below meth cx H locs 0 0 Qf (F0 m 206 ls [])) → ∀ (ls : Array Slot) (H : Heap) (locs : List Loc), lv_has ls 5 [(4, .int (nI (k + 1))), (3, .int (nI c)), (2, .int (nI 2)), (0, .ref (b0 + 0)), (1, .int (nI i))] → va_P G.1 zw_cl (zw_l b0 26 (zq_p G b0 T)) H → va_S (zw_A b0 26) s.heap H locs → W p lc e R s m av below meth cx H locs 0 0 Qf (F0 m 184 ls []) := by
  intro r
  induction r with
  | zero =>
    intro k b T hk hL hb kk ls H locs hl hP hS
    obtain rfl : k = 12 := by omega
    refine lv_iload F.1 F.2.1 dd_Mo_tick_184 (lv_at hl 0 rfl) ?_
    refine lv_bipush (v := nI 13) F.1 F.2.1 dd_Mo_tick_186 (by decide) ?_
    refine zn_cge F dd_Mo_tick_188 (tgt := 206) rfl (by omega) (by omega) (fun h188 => ?_) (fun h188 => absurd h188 (by decide))
    exact kk ls H locs (lv_sub hl [0, 1, 2, 3, 4] rfl) hP hS
  | succ r ih =>
    intro k b T hk hL hb kk ls H locs hl hP hS
    have hL7 : zs_LT T i 127 := zs_LTm hL (by omega)
    refine lv_iload F.1 F.2.1 dd_Mo_tick_184 (lv_at hl 0 rfl) ?_
    refine lv_bipush (v := nI 13) F.1 F.2.1 dd_Mo_tick_186 (by decide) ?_
    refine zn_cge F dd_Mo_tick_188 (tgt := 206) rfl (by omega) (by omega) (fun h188 => absurd h188 (by omega)) (fun h188 => ?_)
    refine lv_aload_n F.1 F.2.1 dd_Mo_tick_191 rfl (lv_at hl 3 rfl) ?_
    refine lv_iload_n F.1 F.2.1 dd_Mo_tick_192 rfl (lv_at hl 4 rfl) ?_
    refine lv_iload_n F.1 F.2.1 dd_Mo_tick_193 rfl (lv_at hl 2 rfl) ?_
    refine lv_iload_n F.1 F.2.1 dd_Mo_tick_194 rfl (lv_at hl 1 rfl) ?_
    refine lv_iload F.1 F.2.1 dd_Mo_tick_195 (lv_at hl 0 rfl) ?_
    refine zw_gov (zw_rV F hE hP (zc_Mo_listPacket_w2 lc G b0 T i c k (by first | omega | assumption) (by first | omega | assumption) (by first | omega | assumption) hL7) zk_Mo_listPacket za_Mo_listPacket zb_Mo_listPacket wl_Mo_99 ⟨rfl, rfl, Nat.le_trans (Nat.le_of_ble_eq_true rfl) hR.1, Nat.le_trans (Nat.le_of_ble_eq_true rfl) hR.2⟩ (zm_recv hE hP rfl rfl) hl.1 rfl (Nat.le_of_ble_eq_true rfl) ⟨Nat.zero_le _, Nat.zero_le _⟩ dd_Mo_tick_197) hS (fun _ h => h) (fun H locs hP _ _ hS => ?_)
    refine lv_iinc F.1 F.2.1 dd_Mo_tick_200 hl (k := 0) rfl (v := nI (k + 1 + 1)) (nI_1 _) (by decide) (lv' := [(4, .int (nI (k + 1 + 1))), (3, .int (nI c)), (2, .int (nI 2)), (0, .ref (b0 + 0)), (1, .int (nI i))]) rfl (fun ls hl => ?_)
    refine lv_goto F.1 F.2.1 dd_Mo_tick_203 (tgt := 184) rfl ?_
    have he : (fun j T => zu_Mo_listPacket_w2 T i c j) k T = (zu_Mo_listPacket_w2 T i c k) := by rfl
    have hP : va_P G.1 zw_cl (zw_l b0 26 (zq_p G b0 ((fun j T => zu_Mo_listPacket_w2 T i c j) k T))) H := by rw [he]; exact hP
    exact ih (k + 1) (b + 1) _ (by omega) (zs_LT3_2 hL (by omega)) (by omega) kk ls H locs (lv_sub hl [0, 1, 2, 3, 4] rfl) hP hS
set_option maxHeartbeats 4000000 in
set_option maxRecDepth 100000 in
theorem zc_Mo_tick (lc : Launch) (G : zw_G) (b0 : Nat) (T : zs_T) (i : Nat) (hi : i < 2) (hh : T 1 i = nI (zs_n (T 1 i))) (hh2 : zs_n (T 1 i) < 999) : zw_M lc ym_Mo_tick bm_Mo_tick 5 (some .int) { frames := 3, cells := 0, slots := 0, locals := 80 } G b0 26 (zq_p G b0 T) [.ref (b0 + 0), .int (nI i)] (zw_Qi G b0 26 (zq_p G b0 (zs_tk T i)) (zs_tk T i 1 i)) := by
  refine zw_of (by decide) (Nat.le_of_ble_eq_true rfl) ?_
  intro p e s m below meth cx ls F hr hlk hE hP hS hl
  have hl : lv_has ls 5 [(0, .ref (b0 + 0)), (1, .int (nI i))] := hl
  refine lv_iload_n F.1 F.2.1 dd_Mo_tick_0 rfl (lv_at hl 1 rfl) ?_
  refine lv_iconst (v := nI 0) F.1 F.2.1 dd_Mo_tick_1 (by decide) ?_
  refine lv_iconst (v := nI 1) F.1 F.2.1 dd_Mo_tick_2 (by decide) ?_
  refine zw_goi (zw_rS F hE hP (zc_Mo_outside lc G b0 T (nI i) (nI 0) (nI 1)) zk_Mo_outside za_Mo_outside wl_Mo_91 ⟨rfl, rfl, Nat.le_of_ble_eq_true rfl, Nat.le_of_ble_eq_true rfl⟩ hl.1 rfl (Nat.le_of_ble_eq_true rfl) ⟨Nat.zero_le _, Nat.zero_le _⟩ dd_Mo_tick_3) hS (fun _ h => h) (fun H locs hP _ _ hS => ?_)
  refine zn_beq F dd_Mo_tick_6 (tgt := 11) rfl (fun h6 => ?_) (fun h6 => absurd h6 (zn_ins (by omega) (by omega) (by decide)))
  refine lv_aload_n F.1 F.2.1 dd_Mo_tick_11 rfl (lv_at hl 0 rfl) ?_
  refine zm_gF F hE hP rfl rfl zi_Mo 1 (by decide) rfl wf_Mo_7 rfl dd_Mo_tick_12 ?_
  refine lv_iload_n F.1 F.2.1 dd_Mo_tick_15 rfl (lv_at hl 1 rfl) ?_
  refine lv_dup2_11 F.1 F.2.1 dd_Mo_tick_16 rfl rfl ?_
  refine zm_iald (x := 1) (k := i) (N := 2) F hE hP (by decide) (fun _ => rfl) (by omega) (by decide) dd_Mo_tick_17 ?_
  refine zn_top (y := nI (zs_n (T 1 i))) (hh) ?_
  refine lv_iconst (v := nI 1) F.1 F.2.1 dd_Mo_tick_18 (by decide) ?_
  refine zn_iadd F dd_Mo_tick_19 ?_
  refine zm_iast (x := 1) (k := i) (N := 2) F hE hP hS (fun _ h => h) (by decide) (fun _ => rfl) (by omega) (by decide)  dd_Mo_tick_20 (fun H locs hP hS => ?_)
  refine lv_aload_n F.1 F.2.1 dd_Mo_tick_21 rfl (lv_at hl 0 rfl) ?_
  refine zm_gF F hE hP rfl rfl zi_Mo 4 (by decide) rfl wf_Mo_20 rfl dd_Mo_tick_22 ?_
  refine lv_bipush (v := nI 8) F.1 F.2.1 dd_Mo_tick_25 (by decide) ?_
  refine lv_iload_n F.1 F.2.1 dd_Mo_tick_27 rfl (lv_at hl 1 rfl) ?_
  refine zn_imul F dd_Mo_tick_28 ?_
  refine lv_aload_n F.1 F.2.1 dd_Mo_tick_29 rfl (lv_at hl 0 rfl) ?_
  refine zm_gF F hE hP rfl rfl zi_Mo 1 (by decide) rfl wf_Mo_7 rfl dd_Mo_tick_30 ?_
  refine lv_iload_n F.1 F.2.1 dd_Mo_tick_33 rfl (lv_at hl 1 rfl) ?_
  refine zm_iald (x := 1) (k := i) (N := 2) F hE hP (by decide) (fun _ => rfl) (by omega) (by decide) dd_Mo_tick_34 ?_
  refine zn_top (y := nI ((zs_n (T 1 i)) + 1)) (by rw [zs_ws]) ?_
  refine lv_bipush (v := nI 8) F.1 F.2.1 dd_Mo_tick_35 (by decide) ?_
  refine zn_irem F dd_Mo_tick_37 (by omega) (by decide) (by decide) ?_
  refine zn_iadd F dd_Mo_tick_38 ?_
  refine lv_iconst (v := nI 0) F.1 F.2.1 dd_Mo_tick_39 (by decide) ?_
  refine zm_iast (x := 4) (k := (8 * i) + (((zs_n (T 1 i)) + 1) % 8)) (N := 16) F hE hP hS (fun _ h => h) (by decide) (fun _ => rfl) (by omega) (by decide)  dd_Mo_tick_40 (fun H locs hP hS => ?_)
  refine lv_iconst (v := nI 0) F.1 F.2.1 dd_Mo_tick_41 (by decide) ?_
  refine lv_istore_n F.1 F.2.1 dd_Mo_tick_42 rfl hl (by decide) (lv' := [(2, .int (nI 0)), (0, .ref (b0 + 0)), (1, .int (nI i))]) rfl (fun ls hl => ?_)
  have hL0 : zs_LT (zs_tk0 T i) i 0 := zs_LT0 hh2
  refine zl_Mo_tick1 lc G b0 i hi ⟨Nat.le_of_ble_eq_true rfl, Nat.le_of_ble_eq_true rfl⟩ F hE 3 0 0 (zs_tk0 T i) rfl hL0 (by omega) (fun ls H locs hl hP hS => ?_) ls _ _ (lv_sub hl [0, 1, 2] rfl) hP hS
  have hL1 := zs_its (f := zs_t1 i) (fun k b T hb h => zs_LT1 h hb) 3 0 0 _ (by omega) hL0
  refine lv_iconst (v := nI 0) F.1 F.2.1 dd_Mo_tick_108 (by decide) ?_
  refine lv_istore_n F.1 F.2.1 dd_Mo_tick_109 rfl hl (by decide) (lv' := [(2, .int (nI 0)), (0, .ref (b0 + 0)), (1, .int (nI i))]) rfl (fun ls hl => ?_)
  refine zl_Mo_tick2 lc G b0 i hi ⟨Nat.le_of_ble_eq_true rfl, Nat.le_of_ble_eq_true rfl⟩ F hE 3 0 3 (zs_it (zs_t1 i) (zs_tk0 T i) 0 3) rfl hL1 (by omega) (fun ls H locs hl hP hS => ?_) ls _ _ (lv_sub hl [0, 1, 2] rfl) hP hS
  have hL2 := zs_its (f := zs_t2 i) (fun k b T hb h => zs_LT2 h hb) 3 0 3 _ (by omega) hL1
  refine lv_iconst (v := nI 0) F.1 F.2.1 dd_Mo_tick_167 (by decide) ?_
  refine lv_istore_n F.1 F.2.1 dd_Mo_tick_168 rfl hl (by decide) (lv' := [(2, .int (nI 0)), (0, .ref (b0 + 0)), (1, .int (nI i))]) rfl (fun ls hl => ?_)
  refine lv_iload_n F.1 F.2.1 dd_Mo_tick_169 rfl (lv_at hl 0 rfl) ?_
  refine lv_iconst (v := nI 3) F.1 F.2.1 dd_Mo_tick_170 (by decide) ?_
  refine zn_cge F dd_Mo_tick_171 (tgt := 218) rfl (by omega) (by omega) (fun h171 => absurd h171 (by decide)) (fun h171 => ?_)
  refine lv_iconst (v := nI 0) F.1 F.2.1 dd_Mo_tick_174 (by decide) ?_
  refine lv_istore_n F.1 F.2.1 dd_Mo_tick_175 rfl hl (by decide) (lv' := [(3, .int (nI 0)), (2, .int (nI 0)), (0, .ref (b0 + 0)), (1, .int (nI i))]) rfl (fun ls hl => ?_)
  refine lv_iload_n F.1 F.2.1 dd_Mo_tick_176 rfl (lv_at hl 0 rfl) ?_
  refine lv_iconst (v := nI 3) F.1 F.2.1 dd_Mo_tick_177 (by decide) ?_
  refine zn_cge F dd_Mo_tick_178 (tgt := 212) rfl (by omega) (by omega) (fun h178 => absurd h178 (by decide)) (fun h178 => ?_)
  refine lv_iconst (v := nI 1) F.1 F.2.1 dd_Mo_tick_181 (by decide) ?_
  refine lv_istore F.1 F.2.1 dd_Mo_tick_182 hl (by decide) (lv' := [(4, .int (nI 1)), (3, .int (nI 0)), (2, .int (nI 0)), (0, .ref (b0 + 0)), (1, .int (nI i))]) rfl (fun ls hl => ?_)
  refine zl_Mo_tick3_0 lc G b0 i hi 0 (by decide) ⟨Nat.le_of_ble_eq_true rfl, Nat.le_of_ble_eq_true rfl⟩ F hE 12 0 6 _ rfl hL2 (by omega) (fun ls H locs hl hP hS => ?_) ls _ _ (lv_sub hl [0, 1, 2, 3, 4] rfl) hP hS
  have hL3 := zs_its (f := fun j T => zu_Mo_listPacket_w0 T i 0 j) (fun k b T hb h => zs_LT3_0 (c := 0) h hb) 12 0 6 _ (by omega) hL2
  refine lv_iinc F.1 F.2.1 dd_Mo_tick_206 hl (k := 1) rfl (v := nI 1) (by decide) (by decide) (lv' := [(3, .int (nI 1)), (4, .int (nI 13)), (2, .int (nI 0)), (0, .ref (b0 + 0)), (1, .int (nI i))]) rfl (fun ls hl => ?_)
  refine lv_goto F.1 F.2.1 dd_Mo_tick_209 (tgt := 176) rfl ?_
  refine lv_iload_n F.1 F.2.1 dd_Mo_tick_176 rfl (lv_at hl 0 rfl) ?_
  refine lv_iconst (v := nI 3) F.1 F.2.1 dd_Mo_tick_177 (by decide) ?_
  refine zn_cge F dd_Mo_tick_178 (tgt := 212) rfl (by omega) (by omega) (fun h178 => absurd h178 (by decide)) (fun h178 => ?_)
  refine lv_iconst (v := nI 1) F.1 F.2.1 dd_Mo_tick_181 (by decide) ?_
  refine lv_istore F.1 F.2.1 dd_Mo_tick_182 hl (by decide) (lv' := [(4, .int (nI 1)), (3, .int (nI 1)), (2, .int (nI 0)), (0, .ref (b0 + 0)), (1, .int (nI i))]) rfl (fun ls hl => ?_)
  refine zl_Mo_tick3_0 lc G b0 i hi 1 (by decide) ⟨Nat.le_of_ble_eq_true rfl, Nat.le_of_ble_eq_true rfl⟩ F hE 12 0 18 _ rfl hL3 (by omega) (fun ls H locs hl hP hS => ?_) ls _ _ (lv_sub hl [0, 1, 2, 3, 4] rfl) hP hS
  have hL4 := zs_its (f := fun j T => zu_Mo_listPacket_w0 T i 1 j) (fun k b T hb h => zs_LT3_0 (c := 1) h hb) 12 0 18 _ (by omega) hL3
  refine lv_iinc F.1 F.2.1 dd_Mo_tick_206 hl (k := 1) rfl (v := nI 2) (by decide) (by decide) (lv' := [(3, .int (nI 2)), (4, .int (nI 13)), (2, .int (nI 0)), (0, .ref (b0 + 0)), (1, .int (nI i))]) rfl (fun ls hl => ?_)
  refine lv_goto F.1 F.2.1 dd_Mo_tick_209 (tgt := 176) rfl ?_
  refine lv_iload_n F.1 F.2.1 dd_Mo_tick_176 rfl (lv_at hl 0 rfl) ?_
  refine lv_iconst (v := nI 3) F.1 F.2.1 dd_Mo_tick_177 (by decide) ?_
  refine zn_cge F dd_Mo_tick_178 (tgt := 212) rfl (by omega) (by omega) (fun h178 => absurd h178 (by decide)) (fun h178 => ?_)
  refine lv_iconst (v := nI 1) F.1 F.2.1 dd_Mo_tick_181 (by decide) ?_
  refine lv_istore F.1 F.2.1 dd_Mo_tick_182 hl (by decide) (lv' := [(4, .int (nI 1)), (3, .int (nI 2)), (2, .int (nI 0)), (0, .ref (b0 + 0)), (1, .int (nI i))]) rfl (fun ls hl => ?_)
  refine zl_Mo_tick3_0 lc G b0 i hi 2 (by decide) ⟨Nat.le_of_ble_eq_true rfl, Nat.le_of_ble_eq_true rfl⟩ F hE 12 0 30 _ rfl hL4 (by omega) (fun ls H locs hl hP hS => ?_) ls _ _ (lv_sub hl [0, 1, 2, 3, 4] rfl) hP hS
  have hL5 := zs_its (f := fun j T => zu_Mo_listPacket_w0 T i 2 j) (fun k b T hb h => zs_LT3_0 (c := 2) h hb) 12 0 30 _ (by omega) hL4
  refine lv_iinc F.1 F.2.1 dd_Mo_tick_206 hl (k := 1) rfl (v := nI 3) (by decide) (by decide) (lv' := [(3, .int (nI 3)), (4, .int (nI 13)), (2, .int (nI 0)), (0, .ref (b0 + 0)), (1, .int (nI i))]) rfl (fun ls hl => ?_)
  refine lv_goto F.1 F.2.1 dd_Mo_tick_209 (tgt := 176) rfl ?_
  refine lv_iload_n F.1 F.2.1 dd_Mo_tick_176 rfl (lv_at hl 0 rfl) ?_
  refine lv_iconst (v := nI 3) F.1 F.2.1 dd_Mo_tick_177 (by decide) ?_
  refine zn_cge F dd_Mo_tick_178 (tgt := 212) rfl (by omega) (by omega) (fun h178 => ?_) (fun h178 => absurd h178 (by decide))
  refine lv_iinc F.1 F.2.1 dd_Mo_tick_212 hl (k := 2) rfl (v := nI 1) (by decide) (by decide) (lv' := [(2, .int (nI 1)), (3, .int (nI 3)), (4, .int (nI 13)), (0, .ref (b0 + 0)), (1, .int (nI i))]) rfl (fun ls hl => ?_)
  refine lv_goto F.1 F.2.1 dd_Mo_tick_215 (tgt := 169) rfl ?_
  refine lv_iload_n F.1 F.2.1 dd_Mo_tick_169 rfl (lv_at hl 0 rfl) ?_
  refine lv_iconst (v := nI 3) F.1 F.2.1 dd_Mo_tick_170 (by decide) ?_
  refine zn_cge F dd_Mo_tick_171 (tgt := 218) rfl (by omega) (by omega) (fun h171 => absurd h171 (by decide)) (fun h171 => ?_)
  refine lv_iconst (v := nI 0) F.1 F.2.1 dd_Mo_tick_174 (by decide) ?_
  refine lv_istore_n F.1 F.2.1 dd_Mo_tick_175 rfl hl (by decide) (lv' := [(3, .int (nI 0)), (2, .int (nI 1)), (4, .int (nI 13)), (0, .ref (b0 + 0)), (1, .int (nI i))]) rfl (fun ls hl => ?_)
  refine lv_iload_n F.1 F.2.1 dd_Mo_tick_176 rfl (lv_at hl 0 rfl) ?_
  refine lv_iconst (v := nI 3) F.1 F.2.1 dd_Mo_tick_177 (by decide) ?_
  refine zn_cge F dd_Mo_tick_178 (tgt := 212) rfl (by omega) (by omega) (fun h178 => absurd h178 (by decide)) (fun h178 => ?_)
  refine lv_iconst (v := nI 1) F.1 F.2.1 dd_Mo_tick_181 (by decide) ?_
  refine lv_istore F.1 F.2.1 dd_Mo_tick_182 hl (by decide) (lv' := [(4, .int (nI 1)), (3, .int (nI 0)), (2, .int (nI 1)), (0, .ref (b0 + 0)), (1, .int (nI i))]) rfl (fun ls hl => ?_)
  refine zl_Mo_tick3_1 lc G b0 i hi 0 (by decide) ⟨Nat.le_of_ble_eq_true rfl, Nat.le_of_ble_eq_true rfl⟩ F hE 12 0 42 _ rfl hL5 (by omega) (fun ls H locs hl hP hS => ?_) ls _ _ (lv_sub hl [0, 1, 2, 3, 4] rfl) hP hS
  have hL6 := zs_its (f := fun j T => zu_Mo_listPacket_w1 T i 0 j) (fun k b T hb h => zs_LT3_1 (c := 0) h hb) 12 0 42 _ (by omega) hL5
  refine lv_iinc F.1 F.2.1 dd_Mo_tick_206 hl (k := 1) rfl (v := nI 1) (by decide) (by decide) (lv' := [(3, .int (nI 1)), (4, .int (nI 13)), (2, .int (nI 1)), (0, .ref (b0 + 0)), (1, .int (nI i))]) rfl (fun ls hl => ?_)
  refine lv_goto F.1 F.2.1 dd_Mo_tick_209 (tgt := 176) rfl ?_
  refine lv_iload_n F.1 F.2.1 dd_Mo_tick_176 rfl (lv_at hl 0 rfl) ?_
  refine lv_iconst (v := nI 3) F.1 F.2.1 dd_Mo_tick_177 (by decide) ?_
  refine zn_cge F dd_Mo_tick_178 (tgt := 212) rfl (by omega) (by omega) (fun h178 => absurd h178 (by decide)) (fun h178 => ?_)
  refine lv_iconst (v := nI 1) F.1 F.2.1 dd_Mo_tick_181 (by decide) ?_
  refine lv_istore F.1 F.2.1 dd_Mo_tick_182 hl (by decide) (lv' := [(4, .int (nI 1)), (3, .int (nI 1)), (2, .int (nI 1)), (0, .ref (b0 + 0)), (1, .int (nI i))]) rfl (fun ls hl => ?_)
  refine zl_Mo_tick3_1 lc G b0 i hi 1 (by decide) ⟨Nat.le_of_ble_eq_true rfl, Nat.le_of_ble_eq_true rfl⟩ F hE 12 0 54 _ rfl hL6 (by omega) (fun ls H locs hl hP hS => ?_) ls _ _ (lv_sub hl [0, 1, 2, 3, 4] rfl) hP hS
  have hL7 := zs_its (f := fun j T => zu_Mo_listPacket_w1 T i 1 j) (fun k b T hb h => zs_LT3_1 (c := 1) h hb) 12 0 54 _ (by omega) hL6
  refine lv_iinc F.1 F.2.1 dd_Mo_tick_206 hl (k := 1) rfl (v := nI 2) (by decide) (by decide) (lv' := [(3, .int (nI 2)), (4, .int (nI 13)), (2, .int (nI 1)), (0, .ref (b0 + 0)), (1, .int (nI i))]) rfl (fun ls hl => ?_)
  refine lv_goto F.1 F.2.1 dd_Mo_tick_209 (tgt := 176) rfl ?_
  refine lv_iload_n F.1 F.2.1 dd_Mo_tick_176 rfl (lv_at hl 0 rfl) ?_
  refine lv_iconst (v := nI 3) F.1 F.2.1 dd_Mo_tick_177 (by decide) ?_
  refine zn_cge F dd_Mo_tick_178 (tgt := 212) rfl (by omega) (by omega) (fun h178 => absurd h178 (by decide)) (fun h178 => ?_)
  refine lv_iconst (v := nI 1) F.1 F.2.1 dd_Mo_tick_181 (by decide) ?_
  refine lv_istore F.1 F.2.1 dd_Mo_tick_182 hl (by decide) (lv' := [(4, .int (nI 1)), (3, .int (nI 2)), (2, .int (nI 1)), (0, .ref (b0 + 0)), (1, .int (nI i))]) rfl (fun ls hl => ?_)
  refine zl_Mo_tick3_1 lc G b0 i hi 2 (by decide) ⟨Nat.le_of_ble_eq_true rfl, Nat.le_of_ble_eq_true rfl⟩ F hE 12 0 66 _ rfl hL7 (by omega) (fun ls H locs hl hP hS => ?_) ls _ _ (lv_sub hl [0, 1, 2, 3, 4] rfl) hP hS
  have hL8 := zs_its (f := fun j T => zu_Mo_listPacket_w1 T i 2 j) (fun k b T hb h => zs_LT3_1 (c := 2) h hb) 12 0 66 _ (by omega) hL7
  refine lv_iinc F.1 F.2.1 dd_Mo_tick_206 hl (k := 1) rfl (v := nI 3) (by decide) (by decide) (lv' := [(3, .int (nI 3)), (4, .int (nI 13)), (2, .int (nI 1)), (0, .ref (b0 + 0)), (1, .int (nI i))]) rfl (fun ls hl => ?_)
  refine lv_goto F.1 F.2.1 dd_Mo_tick_209 (tgt := 176) rfl ?_
  refine lv_iload_n F.1 F.2.1 dd_Mo_tick_176 rfl (lv_at hl 0 rfl) ?_
  refine lv_iconst (v := nI 3) F.1 F.2.1 dd_Mo_tick_177 (by decide) ?_
  refine zn_cge F dd_Mo_tick_178 (tgt := 212) rfl (by omega) (by omega) (fun h178 => ?_) (fun h178 => absurd h178 (by decide))
  refine lv_iinc F.1 F.2.1 dd_Mo_tick_212 hl (k := 2) rfl (v := nI 2) (by decide) (by decide) (lv' := [(2, .int (nI 2)), (3, .int (nI 3)), (4, .int (nI 13)), (0, .ref (b0 + 0)), (1, .int (nI i))]) rfl (fun ls hl => ?_)
  refine lv_goto F.1 F.2.1 dd_Mo_tick_215 (tgt := 169) rfl ?_
  refine lv_iload_n F.1 F.2.1 dd_Mo_tick_169 rfl (lv_at hl 0 rfl) ?_
  refine lv_iconst (v := nI 3) F.1 F.2.1 dd_Mo_tick_170 (by decide) ?_
  refine zn_cge F dd_Mo_tick_171 (tgt := 218) rfl (by omega) (by omega) (fun h171 => absurd h171 (by decide)) (fun h171 => ?_)
  refine lv_iconst (v := nI 0) F.1 F.2.1 dd_Mo_tick_174 (by decide) ?_
  refine lv_istore_n F.1 F.2.1 dd_Mo_tick_175 rfl hl (by decide) (lv' := [(3, .int (nI 0)), (2, .int (nI 2)), (4, .int (nI 13)), (0, .ref (b0 + 0)), (1, .int (nI i))]) rfl (fun ls hl => ?_)
  refine lv_iload_n F.1 F.2.1 dd_Mo_tick_176 rfl (lv_at hl 0 rfl) ?_
  refine lv_iconst (v := nI 3) F.1 F.2.1 dd_Mo_tick_177 (by decide) ?_
  refine zn_cge F dd_Mo_tick_178 (tgt := 212) rfl (by omega) (by omega) (fun h178 => absurd h178 (by decide)) (fun h178 => ?_)
  refine lv_iconst (v := nI 1) F.1 F.2.1 dd_Mo_tick_181 (by decide) ?_
  refine lv_istore F.1 F.2.1 dd_Mo_tick_182 hl (by decide) (lv' := [(4, .int (nI 1)), (3, .int (nI 0)), (2, .int (nI 2)), (0, .ref (b0 + 0)), (1, .int (nI i))]) rfl (fun ls hl => ?_)
  refine zl_Mo_tick3_2 lc G b0 i hi 0 (by decide) ⟨Nat.le_of_ble_eq_true rfl, Nat.le_of_ble_eq_true rfl⟩ F hE 12 0 78 _ rfl hL8 (by omega) (fun ls H locs hl hP hS => ?_) ls _ _ (lv_sub hl [0, 1, 2, 3, 4] rfl) hP hS
  have hL9 := zs_its (f := fun j T => zu_Mo_listPacket_w2 T i 0 j) (fun k b T hb h => zs_LT3_2 (c := 0) h hb) 12 0 78 _ (by omega) hL8
  refine lv_iinc F.1 F.2.1 dd_Mo_tick_206 hl (k := 1) rfl (v := nI 1) (by decide) (by decide) (lv' := [(3, .int (nI 1)), (4, .int (nI 13)), (2, .int (nI 2)), (0, .ref (b0 + 0)), (1, .int (nI i))]) rfl (fun ls hl => ?_)
  refine lv_goto F.1 F.2.1 dd_Mo_tick_209 (tgt := 176) rfl ?_
  refine lv_iload_n F.1 F.2.1 dd_Mo_tick_176 rfl (lv_at hl 0 rfl) ?_
  refine lv_iconst (v := nI 3) F.1 F.2.1 dd_Mo_tick_177 (by decide) ?_
  refine zn_cge F dd_Mo_tick_178 (tgt := 212) rfl (by omega) (by omega) (fun h178 => absurd h178 (by decide)) (fun h178 => ?_)
  refine lv_iconst (v := nI 1) F.1 F.2.1 dd_Mo_tick_181 (by decide) ?_
  refine lv_istore F.1 F.2.1 dd_Mo_tick_182 hl (by decide) (lv' := [(4, .int (nI 1)), (3, .int (nI 1)), (2, .int (nI 2)), (0, .ref (b0 + 0)), (1, .int (nI i))]) rfl (fun ls hl => ?_)
  refine zl_Mo_tick3_2 lc G b0 i hi 1 (by decide) ⟨Nat.le_of_ble_eq_true rfl, Nat.le_of_ble_eq_true rfl⟩ F hE 12 0 90 _ rfl hL9 (by omega) (fun ls H locs hl hP hS => ?_) ls _ _ (lv_sub hl [0, 1, 2, 3, 4] rfl) hP hS
  have hL10 := zs_its (f := fun j T => zu_Mo_listPacket_w2 T i 1 j) (fun k b T hb h => zs_LT3_2 (c := 1) h hb) 12 0 90 _ (by omega) hL9
  refine lv_iinc F.1 F.2.1 dd_Mo_tick_206 hl (k := 1) rfl (v := nI 2) (by decide) (by decide) (lv' := [(3, .int (nI 2)), (4, .int (nI 13)), (2, .int (nI 2)), (0, .ref (b0 + 0)), (1, .int (nI i))]) rfl (fun ls hl => ?_)
  refine lv_goto F.1 F.2.1 dd_Mo_tick_209 (tgt := 176) rfl ?_
  refine lv_iload_n F.1 F.2.1 dd_Mo_tick_176 rfl (lv_at hl 0 rfl) ?_
  refine lv_iconst (v := nI 3) F.1 F.2.1 dd_Mo_tick_177 (by decide) ?_
  refine zn_cge F dd_Mo_tick_178 (tgt := 212) rfl (by omega) (by omega) (fun h178 => absurd h178 (by decide)) (fun h178 => ?_)
  refine lv_iconst (v := nI 1) F.1 F.2.1 dd_Mo_tick_181 (by decide) ?_
  refine lv_istore F.1 F.2.1 dd_Mo_tick_182 hl (by decide) (lv' := [(4, .int (nI 1)), (3, .int (nI 2)), (2, .int (nI 2)), (0, .ref (b0 + 0)), (1, .int (nI i))]) rfl (fun ls hl => ?_)
  refine zl_Mo_tick3_2 lc G b0 i hi 2 (by decide) ⟨Nat.le_of_ble_eq_true rfl, Nat.le_of_ble_eq_true rfl⟩ F hE 12 0 102 _ rfl hL10 (by omega) (fun ls H locs hl hP hS => ?_) ls _ _ (lv_sub hl [0, 1, 2, 3, 4] rfl) hP hS
  have hL11 := zs_its (f := fun j T => zu_Mo_listPacket_w2 T i 2 j) (fun k b T hb h => zs_LT3_2 (c := 2) h hb) 12 0 102 _ (by omega) hL10
  refine lv_iinc F.1 F.2.1 dd_Mo_tick_206 hl (k := 1) rfl (v := nI 3) (by decide) (by decide) (lv' := [(3, .int (nI 3)), (4, .int (nI 13)), (2, .int (nI 2)), (0, .ref (b0 + 0)), (1, .int (nI i))]) rfl (fun ls hl => ?_)
  refine lv_goto F.1 F.2.1 dd_Mo_tick_209 (tgt := 176) rfl ?_
  refine lv_iload_n F.1 F.2.1 dd_Mo_tick_176 rfl (lv_at hl 0 rfl) ?_
  refine lv_iconst (v := nI 3) F.1 F.2.1 dd_Mo_tick_177 (by decide) ?_
  refine zn_cge F dd_Mo_tick_178 (tgt := 212) rfl (by omega) (by omega) (fun h178 => ?_) (fun h178 => absurd h178 (by decide))
  refine lv_iinc F.1 F.2.1 dd_Mo_tick_212 hl (k := 2) rfl (v := nI 3) (by decide) (by decide) (lv' := [(2, .int (nI 3)), (3, .int (nI 3)), (4, .int (nI 13)), (0, .ref (b0 + 0)), (1, .int (nI i))]) rfl (fun ls hl => ?_)
  refine lv_goto F.1 F.2.1 dd_Mo_tick_215 (tgt := 169) rfl ?_
  refine lv_iload_n F.1 F.2.1 dd_Mo_tick_169 rfl (lv_at hl 0 rfl) ?_
  refine lv_iconst (v := nI 3) F.1 F.2.1 dd_Mo_tick_170 (by decide) ?_
  refine zn_cge F dd_Mo_tick_171 (tgt := 218) rfl (by omega) (by omega) (fun h171 => ?_) (fun h171 => absurd h171 (by decide))
  refine lv_aload_n F.1 F.2.1 dd_Mo_tick_218 rfl (lv_at hl 3 rfl) ?_
  refine zm_gF F hE hP rfl rfl zi_Mo 1 (by decide) rfl wf_Mo_7 rfl dd_Mo_tick_219 ?_
  refine lv_iload_n F.1 F.2.1 dd_Mo_tick_222 rfl (lv_at hl 4 rfl) ?_
  refine zm_iald (x := 1) (k := i) (N := 2) F hE hP (by decide) (fun _ => rfl) (by omega) (by decide) dd_Mo_tick_223 ?_
  exact zw_iret F hr hlk hP hS rfl rfl dd_Mo_tick_224
