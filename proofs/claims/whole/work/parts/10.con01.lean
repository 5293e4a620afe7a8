set_option maxHeartbeats 4000000 in
set_option maxRecDepth 100000 in
theorem zc_Ledger_nextToReceive (lc : Launch) (G : zw_G) (b0 : Nat) (S : zs_S) (i : Nat) (c : Nat) (hi : i < 2) (hc : c < 3) : zw_M lc ym_Ledger_nextToReceive bm_Ledger_nextToReceive 2 (some .int) { frames := 1, cells := 0, slots := 0, locals := 21 } G b0 176 (zp_p G b0 S) [.ref (b0 + zp_o 2 i 0), .int (nI c)] (zw_Qi G b0 176 (zp_p G b0 S) (zs_nx (S 4 i 0 (3 + c)))) := by
  refine zw_of (by decide) (Nat.le_of_ble_eq_true rfl) ?_
  intro p e s m below meth cx ls F hr hlk hE hP hS hl
  have hl : lv_has ls 2 [(0, .ref (b0 + zp_o 2 i 0)), (1, .int (nI c))] := hl
  refine lv_iconst (v := nI 1) F.1 F.2.1 dd_Ledger_nextToReceive_0 (by decide) ?_
  refine lv_aload_n F.1 F.2.1 dd_Ledger_nextToReceive_1 rfl (lv_at hl 0 rfl) ?_
  refine zc_gF (t := 2) (i := i) (j := 0) F hE hP ⟨by decide, (show i < 2 by omega), (show 0 < 1 by omega)⟩ rfl rfl zi_Ledger 0 (by decide) rfl wf_Ledger_12 rfl dd_Ledger_nextToReceive_2 ?_
  refine lv_iload_n F.1 F.2.1 dd_Ledger_nextToReceive_5 rfl (lv_at hl 1 rfl) ?_
  refine zw_goi (zw_rS F hE hP (zc_Store_nextSlot lc G b0 S c) zk_Store_nextSlot za_Store_nextSlot wl_Ledger_73 ⟨rfl, rfl, Nat.le_of_ble_eq_true rfl, Nat.le_of_ble_eq_true rfl⟩ hl.1 rfl (Nat.le_of_ble_eq_true rfl) ⟨Nat.zero_le _, Nat.zero_le _⟩ dd_Ledger_nextToReceive_6) hS (fun _ h => h) (fun H locs hP _ _ hS => ?_)
  refine zw_goi (zw_rV F hE hP (zc_Store_valueIn lc G b0 S i 0 (3 + c) (by first | omega | assumption) (by first | omega | assumption) (by first | omega | assumption)) zk_Store_valueIn za_Store_valueIn zb_Store_valueIn wl_Ledger_67 ⟨rfl, rfl, Nat.le_of_ble_eq_true rfl, Nat.le_of_ble_eq_true rfl⟩ (zc_recv (t := 3) (i := i) (j := 0) hE hP ⟨by decide, (show i < 2 by omega), (show 0 < 9 by omega)⟩ rfl rfl) hl.1 rfl (Nat.le_of_ble_eq_true rfl) ⟨Nat.zero_le _, Nat.zero_le _⟩ dd_Ledger_nextToReceive_9) hS (fun _ h => h) (fun H locs hP _ _ hS => ?_)
  refine va_mmax F.1 F.2.1 (F.2.2.1.trans hl.1.symm) F.2.2.2.1 (F.2.2.2.2 _ wl_Ledger_76) (F.2.2.2.2 _ wx_mathS) (F.2.2.2.2 _ wx_mathI) (F.2.2.2.2 _ wx_mathC) (Nat.le_of_ble_eq_true rfl) (Nat.le_of_ble_eq_true rfl) (Nat.zero_le _) (Nat.zero_le _) dd_Ledger_nextToReceive_12 ?_
  exact zw_iret F hr hlk hP hS rfl rfl dd_Ledger_nextToReceive_15
set_option maxHeartbeats 4000000 in
set_option maxRecDepth 100000 in
theorem zc_Ledger_reach (lc : Launch) (G : zw_G) (b0 : Nat) (S : zs_S) (i : Nat) (o : Nat) (h : Int32) (hi : i < 2) (ho : o < 2) : zw_M lc ym_Ledger_reach bm_Ledger_reach 3 (some .int) { frames := 1, cells := 0, slots := 0, locals := 21 } G b0 176 (zp_p G b0 S) [.ref (b0 + zp_o 2 i 0), .ref (b0 + zp_o 2 o 0), .int h] (zw_Qi G b0 176 (zp_p G b0 S) (zs_rc S i o h)) := by
  refine zw_of (by decide) (Nat.le_of_ble_eq_true rfl) ?_
  intro p e s m below meth cx ls F hr hlk hE hP hS hl
  have hl : lv_has ls 3 [(0, .ref (b0 + zp_o 2 i 0)), (1, .ref (b0 + zp_o 2 o 0)), (2, .int h)] := hl
  refine lv_aload_n F.1 F.2.1 dd_Ledger_reach_0 rfl (lv_at hl 0 rfl) ?_
  refine zc_gF (t := 2) (i := i) (j := 0) F hE hP ⟨by decide, (show i < 2 by omega), (show 0 < 1 by omega)⟩ rfl rfl zi_Ledger 3 (by decide) rfl wf_Ledger_29 rfl dd_Ledger_reach_1 ?_
  refine lv_iload_n F.1 F.2.1 dd_Ledger_reach_4 rfl (lv_at hl 2 rfl) ?_
  refine zw_goi (zw_rV F hE hP (zc_Client_hasHeader lc G b0 S i h (by first | omega | assumption)) zk_Client_hasHeader za_Client_hasHeader zb_Client_hasHeader wl_Ledger_82 ⟨rfl, rfl, Nat.le_of_ble_eq_true rfl, Nat.le_of_ble_eq_true rfl⟩ (zc_recv (t := 8) (i := i) (j := 0) hE hP ⟨by decide, (show i < 2 by omega), (show 0 < 1 by omega)⟩ rfl rfl) hl.1 rfl (Nat.le_of_ble_eq_true rfl) ⟨Nat.zero_le _, Nat.zero_le _⟩ dd_Ledger_reach_5) hS (fun _ h => h) (fun H locs hP _ _ hS => ?_)
  refine zn_bne F dd_Ledger_reach_8 (tgt := 14) rfl (fun h8 => ?_) (fun h8 => ?_)
  · refine lv_aload_n F.1 F.2.1 dd_Ledger_reach_14 rfl (lv_at hl 1 rfl) ?_
    refine lv_iload_n F.1 F.2.1 dd_Ledger_reach_15 rfl (lv_at hl 2 rfl) ?_
    refine zw_goi (zw_rV F hE hP (zc_Ledger_keeps lc G b0 S o h (by first | omega | assumption)) zk_Ledger_keeps za_Ledger_keeps zb_Ledger_keeps wl_Ledger_55 ⟨rfl, rfl, Nat.le_of_ble_eq_true rfl, Nat.le_of_ble_eq_true rfl⟩ (zc_recv (t := 2) (i := o) (j := 0) hE hP ⟨by decide, (show o < 2 by omega), (show 0 < 1 by omega)⟩ rfl rfl) hl.1 rfl (Nat.le_of_ble_eq_true rfl) ⟨Nat.zero_le _, Nat.zero_le _⟩ dd_Ledger_reach_16) hS (fun _ h => h) (fun H locs hP _ _ hS => ?_)
    refine zn_beq F dd_Ledger_reach_19 (tgt := 26) rfl (fun h19 => ?_) (fun h19 => ?_)
    · refine lv_bipush (v := (-4)) F.1 F.2.1 dd_Ledger_reach_26 (by decide) ?_
      exact zw_iret F hr hlk hP hS rfl (by rw [zs_rc, if_pos h8, if_neg h19]) dd_Ledger_reach_28
    · refine lv_iconst (v := nI 0) F.1 F.2.1 dd_Ledger_reach_22 (by decide) ?_
      refine lv_goto F.1 F.2.1 dd_Ledger_reach_23 (tgt := 28) rfl ?_
      exact zw_iret F hr hlk hP hS rfl (by rw [zs_rc, if_pos h8, if_pos h19]) dd_Ledger_reach_28
  · refine lv_bipush (v := (-3)) F.1 F.2.1 dd_Ledger_reach_11 (by decide) ?_
    exact zw_iret F hr hlk hP hS rfl (by rw [zs_rc, if_neg h8]) dd_Ledger_reach_13
set_option maxHeartbeats 4000000 in
set_option maxRecDepth 100000 in
theorem zc_Ledger_proveValue (lc : Launch) (G : zw_G) (b0 : Nat) (S : zs_S) (i : Nat) (o : Nat) (h : Int32) (k : Nat) (v : Int32) (hi : i < 2) (ho : o < 2) (hk : k < 114) (hB : zs_B S) : zw_M lc ym_Ledger_proveValue bm_Ledger_proveValue 7 (some .int) { frames := 2, cells := 0, slots := 0, locals := 43 } G b0 176 (zp_p G b0 S) [.ref (b0 + zp_o 2 i 0), .ref (b0 + zp_o 2 o 0), .int h, .int (nI k), .int v] (zw_Qi G b0 176 (zp_p G b0 S) (zs_pv S i o h k v)) := by
  refine zw_of (by decide) (Nat.le_of_ble_eq_true rfl) ?_
  intro p e s m below meth cx ls F hr hlk hE hP hS hl
  have hl : lv_has ls 7 [(0, .ref (b0 + zp_o 2 i 0)), (1, .ref (b0 + zp_o 2 o 0)), (2, .int h), (3, .int (nI k)), (4, .int v)] := hl
  refine lv_aload_n F.1 F.2.1 dd_Ledger_proveValue_0 rfl (lv_at hl 0 rfl) ?_
  refine lv_aload_n F.1 F.2.1 dd_Ledger_proveValue_1 rfl (lv_at hl 1 rfl) ?_
  refine lv_iload_n F.1 F.2.1 dd_Ledger_proveValue_2 rfl (lv_at hl 2 rfl) ?_
  refine zw_goi (zw_rV F hE hP (zc_Ledger_reach lc G b0 S i o h (by first | omega | assumption) (by first | omega | assumption)) zk_Ledger_reach za_Ledger_reach zb_Ledger_reach wl_Ledger_85 ⟨rfl, rfl, Nat.le_of_ble_eq_true rfl, Nat.le_of_ble_eq_true rfl⟩ (zc_recv (t := 2) (i := i) (j := 0) hE hP ⟨by decide, (show i < 2 by omega), (show 0 < 1 by omega)⟩ rfl rfl) hl.1 rfl (Nat.le_of_ble_eq_true rfl) ⟨Nat.zero_le _, Nat.zero_le _⟩ dd_Ledger_proveValue_3) hS (fun _ h => h) (fun H locs hP _ _ hS => ?_)
  refine lv_istore F.1 F.2.1 dd_Ledger_proveValue_6 hl (by decide) (lv' := [(5, .int (zs_rc S i o h)), (0, .ref (b0 + zp_o 2 i 0)), (1, .ref (b0 + zp_o 2 o 0)), (2, .int h), (3, .int (nI k)), (4, .int v)]) rfl (fun ls hl => ?_)
  refine lv_iload F.1 F.2.1 dd_Ledger_proveValue_8 (lv_at hl 0 rfl) ?_
  refine lv_if_eq F.1 F.2.1 dd_Ledger_proveValue_10 (tgt := 16) rfl (fun h10 => ?_) (fun h10 => ?_)
  · obtain ⟨q, hq, rfl⟩ := zs_rcq h10
    refine lv_aload_n F.1 F.2.1 dd_Ledger_proveValue_16 rfl (lv_at hl 2 rfl) ?_
    refine zc_gF (t := 2) (i := o) (j := 0) F hE hP ⟨by decide, (show o < 2 by omega), (show 0 < 1 by omega)⟩ rfl rfl zi_Ledger 1 (by decide) rfl wf_Ledger_18 rfl dd_Ledger_proveValue_17 ?_
    refine lv_iload_n F.1 F.2.1 dd_Ledger_proveValue_20 rfl (lv_at hl 3 rfl) ?_
    refine lv_bipush (v := nI 8) F.1 F.2.1 dd_Ledger_proveValue_21 (by decide) ?_
    refine zn_irem F dd_Ledger_proveValue_23 (by omega) (by decide) (by decide) ?_
    refine zc_aald (t := 6) (i := o) (j := 0) (k := q % 8) (N := 8) (z := 3) (a := (b0 + zp_o 3 o ((q % 8) + 1))) F hE hP ⟨by decide, (show o < 2 by omega), (show 0 < 1 by omega)⟩ rfl rfl rfl (by omega) (by decide) rfl dd_Ledger_proveValue_24 ?_
    refine lv_astore F.1 F.2.1 dd_Ledger_proveValue_25 hl (by decide) (lv' := [(6, .ref (b0 + zp_o 3 o ((q % 8) + 1))), (5, .int (zs_rc S i o (nI q))), (0, .ref (b0 + zp_o 2 i 0)), (1, .ref (b0 + zp_o 2 o 0)), (2, .int (nI q)), (3, .int (nI k)), (4, .int v)]) rfl (fun ls hl => ?_)
    refine lv_aload F.1 F.2.1 dd_Ledger_proveValue_27 (lv_at hl 0 rfl) ?_
    refine lv_iload_n F.1 F.2.1 dd_Ledger_proveValue_29 rfl (lv_at hl 5 rfl) ?_
    refine zw_goi (zw_rV F hE hP (zc_Store_has lc G b0 S o ((q % 8) + 1) k (by first | omega | assumption) (by first | omega | assumption) (by first | omega | assumption) (hB _ _ _)) zk_Store_has za_Store_has zb_Store_has wl_Ledger_89 ⟨rfl, rfl, Nat.le_of_ble_eq_true rfl, Nat.le_of_ble_eq_true rfl⟩ (zc_recv (t := 3) (i := o) (j := (q % 8) + 1) hE hP ⟨by decide, (show o < 2 by omega), (show (q % 8) + 1 < 9 by omega)⟩ rfl rfl) hl.1 rfl (Nat.le_of_ble_eq_true rfl) ⟨Nat.zero_le _, Nat.zero_le _⟩ dd_Ledger_proveValue_30) hS (fun _ h => h) (fun H locs hP _ _ hS => ?_)
    refine lv_if_eq F.1 F.2.1 dd_Ledger_proveValue_33 (tgt := 51) rfl (fun h33 => ?_) (fun h33 => ?_)
    · refine lv_bipush (v := (-5)) F.1 F.2.1 dd_Ledger_proveValue_51 (by decide) ?_
      exact zw_iret F hr hlk hP hS rfl (by rw [zs_pv, if_pos h10, nI_clamp hq, if_pos h33]) dd_Ledger_proveValue_53
    · refine lv_aload F.1 F.2.1 dd_Ledger_proveValue_36 (lv_at hl 0 rfl) ?_
      refine lv_iload_n F.1 F.2.1 dd_Ledger_proveValue_38 rfl (lv_at hl 5 rfl) ?_
      refine zw_goi (zw_rV F hE hP (zc_Store_valueIn lc G b0 S o ((q % 8) + 1) k (by first | omega | assumption) (by first | omega | assumption) (by first | omega | assumption)) zk_Store_valueIn za_Store_valueIn zb_Store_valueIn wl_Ledger_67 ⟨rfl, rfl, Nat.le_of_ble_eq_true rfl, Nat.le_of_ble_eq_true rfl⟩ (zc_recv (t := 3) (i := o) (j := (q % 8) + 1) hE hP ⟨by decide, (show o < 2 by omega), (show (q % 8) + 1 < 9 by omega)⟩ rfl rfl) hl.1 rfl (Nat.le_of_ble_eq_true rfl) ⟨Nat.zero_le _, Nat.zero_le _⟩ dd_Ledger_proveValue_39) hS (fun _ h => h) (fun H locs hP _ _ hS => ?_)
      refine lv_iload F.1 F.2.1 dd_Ledger_proveValue_42 (lv_at hl 6 rfl) ?_
      refine lv_icmp_ne F.1 F.2.1 dd_Ledger_proveValue_44 (tgt := 51) rfl (fun h44 => ?_) (fun h44 => ?_)
      · refine lv_bipush (v := (-5)) F.1 F.2.1 dd_Ledger_proveValue_51 (by decide) ?_
        exact zw_iret F hr hlk hP hS rfl (by rw [zs_pv, if_pos h10, nI_clamp hq, if_neg h33, if_neg h44]) dd_Ledger_proveValue_53
      · refine lv_iconst (v := nI 0) F.1 F.2.1 dd_Ledger_proveValue_47 (by decide) ?_
        refine lv_goto F.1 F.2.1 dd_Ledger_proveValue_48 (tgt := 53) rfl ?_
        exact zw_iret F hr hlk hP hS rfl (by rw [zs_pv, if_pos h10, nI_clamp hq, if_neg h33, if_pos h44]) dd_Ledger_proveValue_53
  · refine lv_iload F.1 F.2.1 dd_Ledger_proveValue_13 (lv_at hl 0 rfl) ?_
    exact zw_iret F hr hlk hP hS rfl (by rw [zs_pv, if_neg h10]) dd_Ledger_proveValue_15
set_option maxHeartbeats 4000000 in
set_option maxRecDepth 100000 in
theorem zc_Ledger_proveAbsence (lc : Launch) (G : zw_G) (b0 : Nat) (S : zs_S) (i : Nat) (o : Nat) (h : Int32) (k : Nat) (hi : i < 2) (ho : o < 2) (hk : k < 114) (hB : zs_B S) : zw_M lc ym_Ledger_proveAbsence bm_Ledger_proveAbsence 5 (some .int) { frames := 2, cells := 0, slots := 0, locals := 43 } G b0 176 (zp_p G b0 S) [.ref (b0 + zp_o 2 i 0), .ref (b0 + zp_o 2 o 0), .int h, .int (nI k)] (zw_Qi G b0 176 (zp_p G b0 S) (zs_pa S i o h k)) := by
  refine zw_of (by decide) (Nat.le_of_ble_eq_true rfl) ?_
  intro p e s m below meth cx ls F hr hlk hE hP hS hl
  have hl : lv_has ls 5 [(0, .ref (b0 + zp_o 2 i 0)), (1, .ref (b0 + zp_o 2 o 0)), (2, .int h), (3, .int (nI k))] := hl
  refine lv_aload_n F.1 F.2.1 dd_Ledger_proveAbsence_0 rfl (lv_at hl 0 rfl) ?_
  refine lv_aload_n F.1 F.2.1 dd_Ledger_proveAbsence_1 rfl (lv_at hl 1 rfl) ?_
  refine lv_iload_n F.1 F.2.1 dd_Ledger_proveAbsence_2 rfl (lv_at hl 2 rfl) ?_
  refine zw_goi (zw_rV F hE hP (zc_Ledger_reach lc G b0 S i o h (by first | omega | assumption) (by first | omega | assumption)) zk_Ledger_reach za_Ledger_reach zb_Ledger_reach wl_Ledger_85 ⟨rfl, rfl, Nat.le_of_ble_eq_true rfl, Nat.le_of_ble_eq_true rfl⟩ (zc_recv (t := 2) (i := i) (j := 0) hE hP ⟨by decide, (show i < 2 by omega), (show 0 < 1 by omega)⟩ rfl rfl) hl.1 rfl (Nat.le_of_ble_eq_true rfl) ⟨Nat.zero_le _, Nat.zero_le _⟩ dd_Ledger_proveAbsence_3) hS (fun _ h => h) (fun H locs hP _ _ hS => ?_)
  refine lv_istore F.1 F.2.1 dd_Ledger_proveAbsence_6 hl (by decide) (lv' := [(4, .int (zs_rc S i o h)), (0, .ref (b0 + zp_o 2 i 0)), (1, .ref (b0 + zp_o 2 o 0)), (2, .int h), (3, .int (nI k))]) rfl (fun ls hl => ?_)
  refine lv_iload F.1 F.2.1 dd_Ledger_proveAbsence_8 (lv_at hl 0 rfl) ?_
  refine lv_if_eq F.1 F.2.1 dd_Ledger_proveAbsence_10 (tgt := 16) rfl (fun h10 => ?_) (fun h10 => ?_)
  · obtain ⟨q, hq, rfl⟩ := zs_rcq h10
    refine lv_aload_n F.1 F.2.1 dd_Ledger_proveAbsence_16 rfl (lv_at hl 2 rfl) ?_
    refine zc_gF (t := 2) (i := o) (j := 0) F hE hP ⟨by decide, (show o < 2 by omega), (show 0 < 1 by omega)⟩ rfl rfl zi_Ledger 1 (by decide) rfl wf_Ledger_18 rfl dd_Ledger_proveAbsence_17 ?_
    refine lv_iload_n F.1 F.2.1 dd_Ledger_proveAbsence_20 rfl (lv_at hl 3 rfl) ?_
    refine lv_bipush (v := nI 8) F.1 F.2.1 dd_Ledger_proveAbsence_21 (by decide) ?_
    refine zn_irem F dd_Ledger_proveAbsence_23 (by omega) (by decide) (by decide) ?_
    refine zc_aald (t := 6) (i := o) (j := 0) (k := q % 8) (N := 8) (z := 3) (a := (b0 + zp_o 3 o ((q % 8) + 1))) F hE hP ⟨by decide, (show o < 2 by omega), (show 0 < 1 by omega)⟩ rfl rfl rfl (by omega) (by decide) rfl dd_Ledger_proveAbsence_24 ?_
    refine lv_iload_n F.1 F.2.1 dd_Ledger_proveAbsence_25 rfl (lv_at hl 4 rfl) ?_
    refine zw_goi (zw_rV F hE hP (zc_Store_has lc G b0 S o ((q % 8) + 1) k (by first | omega | assumption) (by first | omega | assumption) (by first | omega | assumption) (hB _ _ _)) zk_Store_has za_Store_has zb_Store_has wl_Ledger_89 ⟨rfl, rfl, Nat.le_of_ble_eq_true rfl, Nat.le_of_ble_eq_true rfl⟩ (zc_recv (t := 3) (i := o) (j := (q % 8) + 1) hE hP ⟨by decide, (show o < 2 by omega), (show (q % 8) + 1 < 9 by omega)⟩ rfl rfl) hl.1 rfl (Nat.le_of_ble_eq_true rfl) ⟨Nat.zero_le _, Nat.zero_le _⟩ dd_Ledger_proveAbsence_26) hS (fun _ h => h) (fun H locs hP _ _ hS => ?_)
    refine lv_if_eq F.1 F.2.1 dd_Ledger_proveAbsence_29 (tgt := 37) rfl (fun h29 => ?_) (fun h29 => ?_)
    · refine lv_iconst (v := nI 0) F.1 F.2.1 dd_Ledger_proveAbsence_37 (by decide) ?_
      exact zw_iret F hr hlk hP hS rfl (by rw [zs_pa, if_pos h10, nI_clamp hq, if_pos h29]) dd_Ledger_proveAbsence_38
    · refine lv_bipush (v := (-5)) F.1 F.2.1 dd_Ledger_proveAbsence_32 (by decide) ?_
      refine lv_goto F.1 F.2.1 dd_Ledger_proveAbsence_34 (tgt := 38) rfl ?_
      exact zw_iret F hr hlk hP hS rfl (by rw [zs_pa, if_pos h10, nI_clamp hq, if_neg h29]) dd_Ledger_proveAbsence_38
  · refine lv_iload F.1 F.2.1 dd_Ledger_proveAbsence_13 (lv_at hl 0 rfl) ?_
    exact zw_iret F hr hlk hP hS rfl (by rw [zs_pa, if_neg h10]) dd_Ledger_proveAbsence_15
set_option maxHeartbeats 4000000 in
set_option maxRecDepth 100000 in
theorem zc_Ledger_proveEnd (lc : Launch) (G : zw_G) (b0 : Nat) (S : zs_S) (i : Nat) (o : Nat) (h : Int32) (c : Nat) (x : Int32) (y : Int32) (hi : i < 2) (ho : o < 2) (hc : c < 3) (hB : zs_B S) : zw_M lc ym_Ledger_proveEnd bm_Ledger_proveEnd 6 (some .int) { frames := 3, cells := 0, slots := 0, locals := 69 } G b0 176 (zp_p G b0 S) [.ref (b0 + zp_o 2 i 0), .ref (b0 + zp_o 2 o 0), .int h, .int (nI c), .int x, .int y] (zw_Qi G b0 176 (zp_p G b0 S) (zs_pv S i o h c (nI 2 * x + y))) := by
  refine zw_of (by decide) (Nat.le_of_ble_eq_true rfl) ?_
  intro p e s m below meth cx ls F hr hlk hE hP hS hl
  have hl : lv_has ls 6 [(0, .ref (b0 + zp_o 2 i 0)), (1, .ref (b0 + zp_o 2 o 0)), (2, .int h), (3, .int (nI c)), (4, .int x), (5, .int y)] := hl
  refine lv_aload_n F.1 F.2.1 dd_Ledger_proveEnd_0 rfl (lv_at hl 0 rfl) ?_
  refine lv_aload_n F.1 F.2.1 dd_Ledger_proveEnd_1 rfl (lv_at hl 1 rfl) ?_
  refine lv_iload_n F.1 F.2.1 dd_Ledger_proveEnd_2 rfl (lv_at hl 2 rfl) ?_
  refine lv_iload_n F.1 F.2.1 dd_Ledger_proveEnd_3 rfl (lv_at hl 3 rfl) ?_
  refine zw_goi (zw_rS F hE hP (zc_Store_endSlot lc G b0 S c) zk_Store_endSlot za_Store_endSlot wl_Ledger_63 ⟨rfl, rfl, Nat.le_of_ble_eq_true rfl, Nat.le_of_ble_eq_true rfl⟩ hl.1 rfl (Nat.le_of_ble_eq_true rfl) ⟨Nat.zero_le _, Nat.zero_le _⟩ dd_Ledger_proveEnd_4) hS (fun _ h => h) (fun H locs hP _ _ hS => ?_)
  refine lv_iconst (v := nI 2) F.1 F.2.1 dd_Ledger_proveEnd_7 (by decide) ?_
  refine lv_iload F.1 F.2.1 dd_Ledger_proveEnd_8 (lv_at hl 4 rfl) ?_
  refine lv_imul F.1 F.2.1 dd_Ledger_proveEnd_10 ?_
  refine lv_iload F.1 F.2.1 dd_Ledger_proveEnd_11 (lv_at hl 5 rfl) ?_
  refine lv_iadd F.1 F.2.1 dd_Ledger_proveEnd_13 ?_
  refine zw_goi (zw_rV F hE hP (zc_Ledger_proveValue lc G b0 S i o h c (((nI 2) * x) + y) (by first | omega | assumption) (by first | omega | assumption) (by first | omega | assumption) (by assumption)) zk_Ledger_proveValue za_Ledger_proveValue zb_Ledger_proveValue wl_Ledger_92 ⟨rfl, rfl, Nat.le_of_ble_eq_true rfl, Nat.le_of_ble_eq_true rfl⟩ (zc_recv (t := 2) (i := i) (j := 0) hE hP ⟨by decide, (show i < 2 by omega), (show 0 < 1 by omega)⟩ rfl rfl) hl.1 rfl (Nat.le_of_ble_eq_true rfl) ⟨Nat.zero_le _, Nat.zero_le _⟩ dd_Ledger_proveEnd_14) hS (fun _ h => h) (fun H locs hP _ _ hS => ?_)
  exact zw_iret F hr hlk hP hS rfl rfl dd_Ledger_proveEnd_17
set_option maxHeartbeats 4000000 in
set_option maxRecDepth 100000 in
theorem zc_Ledger_makeEnd (lc : Launch) (G : zw_G) (b0 : Nat) (S : zs_S) (i : Nat) (c : Nat) (x : Int32) (y : Int32) (hi : i < 2) (hc : c < 3) : zw_M lc ym_Ledger_makeEnd bm_Ledger_makeEnd 4 none { frames := 1, cells := 0, slots := 0, locals := 22 } G b0 176 (zp_p G b0 S) [.ref (b0 + zp_o 2 i 0), .int (nI c), .int x, .int y] (zw_Qv G b0 176 (zp_p G b0 (zs_u (zs_u (zs_u (zs_u S 4 i 0 c (nI 2 * x + y)) 5 i 0 c (nI 1)) 4 i 0 (3 + c) (if y = nI 1 then nI 1 else S 4 i 0 (3 + c))) 5 i 0 (3 + c) (if y = nI 1 then nI 1 else S 5 i 0 (3 + c))))) := by
  refine zw_of (by decide) (Nat.le_of_ble_eq_true rfl) ?_
  intro p e s m below meth cx ls F hr hlk hE hP hS hl
  have hl : lv_has ls 4 [(0, .ref (b0 + zp_o 2 i 0)), (1, .int (nI c)), (2, .int x), (3, .int y)] := hl
  refine lv_aload_n F.1 F.2.1 dd_Ledger_makeEnd_0 rfl (lv_at hl 0 rfl) ?_
  refine zc_gF (t := 2) (i := i) (j := 0) F hE hP ⟨by decide, (show i < 2 by omega), (show 0 < 1 by omega)⟩ rfl rfl zi_Ledger 0 (by decide) rfl wf_Ledger_12 rfl dd_Ledger_makeEnd_1 ?_
  refine lv_iload_n F.1 F.2.1 dd_Ledger_makeEnd_4 rfl (lv_at hl 1 rfl) ?_
  refine zw_goi (zw_rS F hE hP (zc_Store_endSlot lc G b0 S c) zk_Store_endSlot za_Store_endSlot wl_Ledger_63 ⟨rfl, rfl, Nat.le_of_ble_eq_true rfl, Nat.le_of_ble_eq_true rfl⟩ hl.1 rfl (Nat.le_of_ble_eq_true rfl) ⟨Nat.zero_le _, Nat.zero_le _⟩ dd_Ledger_makeEnd_5) hS (fun _ h => h) (fun H locs hP _ _ hS => ?_)
  refine lv_iconst (v := nI 2) F.1 F.2.1 dd_Ledger_makeEnd_8 (by decide) ?_
  refine lv_iload_n F.1 F.2.1 dd_Ledger_makeEnd_9 rfl (lv_at hl 2 rfl) ?_
  refine lv_imul F.1 F.2.1 dd_Ledger_makeEnd_10 ?_
  refine lv_iload_n F.1 F.2.1 dd_Ledger_makeEnd_11 rfl (lv_at hl 3 rfl) ?_
  refine lv_iadd F.1 F.2.1 dd_Ledger_makeEnd_12 ?_
  refine zw_gov (zw_rV F hE hP (zc_Store_put lc G b0 S i 0 c (((nI 2) * x) + y) (by first | omega | assumption) (by first | omega | assumption) (by first | omega | assumption)) zk_Store_put za_Store_put zb_Store_put wl_Ledger_103 ⟨rfl, rfl, Nat.le_of_ble_eq_true rfl, Nat.le_of_ble_eq_true rfl⟩ (zc_recv (t := 3) (i := i) (j := 0) hE hP ⟨by decide, (show i < 2 by omega), (show 0 < 9 by omega)⟩ rfl rfl) hl.1 rfl (Nat.le_of_ble_eq_true rfl) ⟨Nat.zero_le _, Nat.zero_le _⟩ dd_Ledger_makeEnd_13) hS (fun _ h => h) (fun H locs hP _ _ hS => ?_)
  refine lv_iload_n F.1 F.2.1 dd_Ledger_makeEnd_16 rfl (lv_at hl 3 rfl) ?_
  refine lv_iconst (v := nI 1) F.1 F.2.1 dd_Ledger_makeEnd_17 (by decide) ?_
  refine lv_icmp_ne F.1 F.2.1 dd_Ledger_makeEnd_18 (tgt := 33) rfl (fun h18 => ?_) (fun h18 => ?_)
  · exact zw_vret F hr hlk hP hS (congrArg (zp_p G b0) (Eq.symm (by rw [if_neg h18, if_neg h18, zs_idv (by rw [zs_ut (by decide), zs_uk (by omega), zs_ut (by decide)]), zs_idv (by rw [zs_ut (by decide), zs_uk (by omega)])]))) dd_Ledger_makeEnd_33
  · refine lv_aload_n F.1 F.2.1 dd_Ledger_makeEnd_21 rfl (lv_at hl 0 rfl) ?_
    refine zc_gF (t := 2) (i := i) (j := 0) F hE hP ⟨by decide, (show i < 2 by omega), (show 0 < 1 by omega)⟩ rfl rfl zi_Ledger 0 (by decide) rfl wf_Ledger_12 rfl dd_Ledger_makeEnd_22 ?_
    refine lv_iload_n F.1 F.2.1 dd_Ledger_makeEnd_25 rfl (lv_at hl 1 rfl) ?_
    refine zw_goi (zw_rS F hE hP (zc_Store_nextSlot lc G b0 (zs_u (zs_u S 4 i 0 c (((nI 2) * x) + y)) 5 i 0 c (nI 1)) c) zk_Store_nextSlot za_Store_nextSlot wl_Ledger_73 ⟨rfl, rfl, Nat.le_of_ble_eq_true rfl, Nat.le_of_ble_eq_true rfl⟩ hl.1 rfl (Nat.le_of_ble_eq_true rfl) ⟨Nat.zero_le _, Nat.zero_le _⟩ dd_Ledger_makeEnd_26) hS (fun _ h => h) (fun H locs hP _ _ hS => ?_)
    refine lv_iconst (v := nI 1) F.1 F.2.1 dd_Ledger_makeEnd_29 (by decide) ?_
    refine zw_gov (zw_rV F hE hP (zc_Store_put lc G b0 (zs_u (zs_u S 4 i 0 c (((nI 2) * x) + y)) 5 i 0 c (nI 1)) i 0 (3 + c) (nI 1) (by first | omega | assumption) (by first | omega | assumption) (by first | omega | assumption)) zk_Store_put za_Store_put zb_Store_put wl_Ledger_103 ⟨rfl, rfl, Nat.le_of_ble_eq_true rfl, Nat.le_of_ble_eq_true rfl⟩ (zc_recv (t := 3) (i := i) (j := 0) hE hP ⟨by decide, (show i < 2 by omega), (show 0 < 9 by omega)⟩ rfl rfl) hl.1 rfl (Nat.le_of_ble_eq_true rfl) ⟨Nat.zero_le _, Nat.zero_le _⟩ dd_Ledger_makeEnd_30) hS (fun _ h => h) (fun H locs hP _ _ hS => ?_)
    exact zw_vret F hr hlk hP hS (congrArg (zp_p G b0) (by rw [if_pos h18, if_pos h18])) dd_Ledger_makeEnd_33
set_option maxHeartbeats 4000000 in
set_option maxRecDepth 100000 in
theorem zc_Ledger_moveEnd (lc : Launch) (G : zw_G) (b0 : Nat) (S : zs_S) (i : Nat) (c : Nat) (x : Int32) (hi : i < 2) (hc : c < 3) : zw_M lc ym_Ledger_moveEnd bm_Ledger_moveEnd 3 none { frames := 2, cells := 0, slots := 0, locals := 42 } G b0 176 (zp_p G b0 S) [.ref (b0 + zp_o 2 i 0), .int (nI c), .int x] (zw_Qv G b0 176 (zp_p G b0 (zs_u (zs_u S 4 i 0 c (nI 2 * x + zs_or (S 4 i 0 c))) 5 i 0 c (nI 1)))) := by
  refine zw_of (by decide) (Nat.le_of_ble_eq_true rfl) ?_
  intro p e s m below meth cx ls F hr hlk hE hP hS hl
  have hl : lv_has ls 3 [(0, .ref (b0 + zp_o 2 i 0)), (1, .int (nI c)), (2, .int x)] := hl
  refine lv_aload_n F.1 F.2.1 dd_Ledger_moveEnd_0 rfl (lv_at hl 0 rfl) ?_
  refine zc_gF (t := 2) (i := i) (j := 0) F hE hP ⟨by decide, (show i < 2 by omega), (show 0 < 1 by omega)⟩ rfl rfl zi_Ledger 0 (by decide) rfl wf_Ledger_12 rfl dd_Ledger_moveEnd_1 ?_
  refine lv_iload_n F.1 F.2.1 dd_Ledger_moveEnd_4 rfl (lv_at hl 1 rfl) ?_
  refine zw_goi (zw_rS F hE hP (zc_Store_endSlot lc G b0 S c) zk_Store_endSlot za_Store_endSlot wl_Ledger_63 ⟨rfl, rfl, Nat.le_of_ble_eq_true rfl, Nat.le_of_ble_eq_true rfl⟩ hl.1 rfl (Nat.le_of_ble_eq_true rfl) ⟨Nat.zero_le _, Nat.zero_le _⟩ dd_Ledger_moveEnd_5) hS (fun _ h => h) (fun H locs hP _ _ hS => ?_)
  refine lv_iconst (v := nI 2) F.1 F.2.1 dd_Ledger_moveEnd_8 (by decide) ?_
  refine lv_iload_n F.1 F.2.1 dd_Ledger_moveEnd_9 rfl (lv_at hl 2 rfl) ?_
  refine lv_imul F.1 F.2.1 dd_Ledger_moveEnd_10 ?_
  refine lv_aload_n F.1 F.2.1 dd_Ledger_moveEnd_11 rfl (lv_at hl 0 rfl) ?_
  refine lv_iload_n F.1 F.2.1 dd_Ledger_moveEnd_12 rfl (lv_at hl 1 rfl) ?_
  refine zw_goi (zw_rV F hE hP (zc_Ledger_orderOf lc G b0 S i c (by first | omega | assumption) (by first | omega | assumption)) zk_Ledger_orderOf za_Ledger_orderOf zb_Ledger_orderOf wl_Ledger_70 ⟨rfl, rfl, Nat.le_of_ble_eq_true rfl, Nat.le_of_ble_eq_true rfl⟩ (zc_recv (t := 2) (i := i) (j := 0) hE hP ⟨by decide, (show i < 2 by omega), (show 0 < 1 by omega)⟩ rfl rfl) hl.1 rfl (Nat.le_of_ble_eq_true rfl) ⟨Nat.zero_le _, Nat.zero_le _⟩ dd_Ledger_moveEnd_13) hS (fun _ h => h) (fun H locs hP _ _ hS => ?_)
  refine lv_iadd F.1 F.2.1 dd_Ledger_moveEnd_16 ?_
  refine zw_gov (zw_rV F hE hP (zc_Store_put lc G b0 S i 0 c (((nI 2) * x) + (zs_or (S 4 i 0 c))) (by first | omega | assumption) (by first | omega | assumption) (by first | omega | assumption)) zk_Store_put za_Store_put zb_Store_put wl_Ledger_103 ⟨rfl, rfl, Nat.le_of_ble_eq_true rfl, Nat.le_of_ble_eq_true rfl⟩ (zc_recv (t := 3) (i := i) (j := 0) hE hP ⟨by decide, (show i < 2 by omega), (show 0 < 9 by omega)⟩ rfl rfl) hl.1 rfl (Nat.le_of_ble_eq_true rfl) ⟨Nat.zero_le _, Nat.zero_le _⟩ dd_Ledger_moveEnd_17) hS (fun _ h => h) (fun H locs hP _ _ hS => ?_)
  exact zw_vret F hr hlk hP hS rfl dd_Ledger_moveEnd_20
def zr_Ledger_startEnd (S : zs_S) (i : Nat) (c : Nat) (w : Int32) : Int32 := if zs_st (S 4 i 0 c) = 0 then (if w = 0 then (nI 0) else (nI 0)) else ((-2))
def zu_Ledger_startEnd (S : zs_S) (i : Nat) (c : Nat) (w : Int32) : zs_S := if zs_st (S 4 i 0 c) = 0 then (if w = 0 then (zs_u (zs_u (zs_u (zs_u S 4 i 0 c (nI 2 * (nI 1) + (nI 0))) 5 i 0 c (nI 1)) 4 i 0 (3 + c) (if (nI 0) = nI 1 then nI 1 else S 4 i 0 (3 + c))) 5 i 0 (3 + c) (if (nI 0) = nI 1 then nI 1 else S 5 i 0 (3 + c))) else (zs_u (zs_u (zs_u (zs_u S 4 i 0 c (nI 2 * (nI 1) + (nI 1))) 5 i 0 c (nI 1)) 4 i 0 (3 + c) (if (nI 1) = nI 1 then nI 1 else S 4 i 0 (3 + c))) 5 i 0 (3 + c) (if (nI 1) = nI 1 then nI 1 else S 5 i 0 (3 + c)))) else (S)
set_option maxHeartbeats 4000000 in
set_option maxRecDepth 100000 in
theorem zc_Ledger_startEnd (lc : Launch) (G : zw_G) (b0 : Nat) (S : zs_S) (i : Nat) (c : Nat) (w : Int32) (hi : i < 2) (hc : c < 3) : zw_M lc ym_Ledger_startEnd bm_Ledger_startEnd 3 (some .int) { frames := 2, cells := 0, slots := 0, locals := 45 } G b0 176 (zp_p G b0 S) [.ref (b0 + zp_o 2 i 0), .int (nI c), .int w] (zw_Qi G b0 176 (zp_p G b0 (zu_Ledger_startEnd S i c w)) (zr_Ledger_startEnd S i c w)) := by
  refine zw_of (by decide) (Nat.le_of_ble_eq_true rfl) ?_
  intro p e s m below meth cx ls F hr hlk hE hP hS hl
  have hl : lv_has ls 3 [(0, .ref (b0 + zp_o 2 i 0)), (1, .int (nI c)), (2, .int w)] := hl
  refine lv_aload_n F.1 F.2.1 dd_Ledger_startEnd_0 rfl (lv_at hl 0 rfl) ?_
  refine lv_iload_n F.1 F.2.1 dd_Ledger_startEnd_1 rfl (lv_at hl 1 rfl) ?_
  refine zw_goi (zw_rV F hE hP (zc_Ledger_stateOf lc G b0 S i c (by first | omega | assumption) (by first | omega | assumption)) zk_Ledger_stateOf za_Ledger_stateOf zb_Ledger_stateOf wl_Ledger_96 ⟨rfl, rfl, Nat.le_of_ble_eq_true rfl, Nat.le_of_ble_eq_true rfl⟩ (zc_recv (t := 2) (i := i) (j := 0) hE hP ⟨by decide, (show i < 2 by omega), (show 0 < 1 by omega)⟩ rfl rfl) hl.1 rfl (Nat.le_of_ble_eq_true rfl) ⟨Nat.zero_le _, Nat.zero_le _⟩ dd_Ledger_startEnd_2) hS (fun _ h => h) (fun H locs hP _ _ hS => ?_)
  refine lv_if_eq F.1 F.2.1 dd_Ledger_startEnd_5 (tgt := 11) rfl (fun h5 => ?_) (fun h5 => ?_)
  · refine lv_aload_n F.1 F.2.1 dd_Ledger_startEnd_11 rfl (lv_at hl 0 rfl) ?_
    refine lv_iload_n F.1 F.2.1 dd_Ledger_startEnd_12 rfl (lv_at hl 1 rfl) ?_
    refine lv_iconst (v := nI 1) F.1 F.2.1 dd_Ledger_startEnd_13 (by decide) ?_
    refine lv_iload_n F.1 F.2.1 dd_Ledger_startEnd_14 rfl (lv_at hl 2 rfl) ?_
    refine lv_if_eq F.1 F.2.1 dd_Ledger_startEnd_15 (tgt := 22) rfl (fun h15 => ?_) (fun h15 => ?_)
    · refine lv_iconst (v := nI 0) F.1 F.2.1 dd_Ledger_startEnd_22 (by decide) ?_
      refine zw_gov (zw_rV F hE hP (zc_Ledger_makeEnd lc G b0 S i c (nI 1) (nI 0) (by first | omega | assumption) (by first | omega | assumption)) zk_Ledger_makeEnd za_Ledger_makeEnd zb_Ledger_makeEnd wl_Ledger_99 ⟨rfl, rfl, Nat.le_of_ble_eq_true rfl, Nat.le_of_ble_eq_true rfl⟩ (zc_recv (t := 2) (i := i) (j := 0) hE hP ⟨by decide, (show i < 2 by omega), (show 0 < 1 by omega)⟩ rfl rfl) hl.1 rfl (Nat.le_of_ble_eq_true rfl) ⟨Nat.zero_le _, Nat.zero_le _⟩ dd_Ledger_startEnd_23) hS (fun _ h => h) (fun H locs hP _ _ hS => ?_)
      refine lv_iconst (v := nI 0) F.1 F.2.1 dd_Ledger_startEnd_26 (by decide) ?_
      exact zw_iret F hr hlk hP hS (congrArg (zp_p G b0) (by rw [zu_Ledger_startEnd, if_pos h5, if_pos h15])) (by rw [zr_Ledger_startEnd, if_pos h5, if_pos h15]) dd_Ledger_startEnd_27
    · refine lv_iconst (v := nI 1) F.1 F.2.1 dd_Ledger_startEnd_18 (by decide) ?_
      refine lv_goto F.1 F.2.1 dd_Ledger_startEnd_19 (tgt := 23) rfl ?_
      refine zw_gov (zw_rV F hE hP (zc_Ledger_makeEnd lc G b0 S i c (nI 1) (nI 1) (by first | omega | assumption) (by first | omega | assumption)) zk_Ledger_makeEnd za_Ledger_makeEnd zb_Ledger_makeEnd wl_Ledger_99 ⟨rfl, rfl, Nat.le_of_ble_eq_true rfl, Nat.le_of_ble_eq_true rfl⟩ (zc_recv (t := 2) (i := i) (j := 0) hE hP ⟨by decide, (show i < 2 by omega), (show 0 < 1 by omega)⟩ rfl rfl) hl.1 rfl (Nat.le_of_ble_eq_true rfl) ⟨Nat.zero_le _, Nat.zero_le _⟩ dd_Ledger_startEnd_23) hS (fun _ h => h) (fun H locs hP _ _ hS => ?_)
      refine lv_iconst (v := nI 0) F.1 F.2.1 dd_Ledger_startEnd_26 (by decide) ?_
      exact zw_iret F hr hlk hP hS (congrArg (zp_p G b0) (by rw [zu_Ledger_startEnd, if_pos h5, if_neg h15])) (by rw [zr_Ledger_startEnd, if_pos h5, if_neg h15]) dd_Ledger_startEnd_27
  · refine lv_bipush (v := (-2)) F.1 F.2.1 dd_Ledger_startEnd_8 (by decide) ?_
    exact zw_iret F hr hlk hP hS (congrArg (zp_p G b0) (by rw [zu_Ledger_startEnd, if_neg h5])) (by rw [zr_Ledger_startEnd, if_neg h5]) dd_Ledger_startEnd_10
def zr_Ledger_tryEnd (S : zs_S) (i : Nat) (o : Nat) (c : Nat) (w : Int32) (h : Int32) : Int32 := if w = 0 then (if zs_st (S 4 i 0 c) = nI 1 then (if zs_or (S 4 i 0 c) = nI 0 then (if zs_st (S 4 i 0 c) = 0 then (if zs_pv S i o h c (nI 2 * (nI 1) + (nI 0)) = 0 then (nI 0) else (zs_pv S i o h c (nI 2 * (nI 1) + (nI 0)))) else (if zs_pv S i o h c (nI 2 * (nI 1) + (nI 0)) = 0 then (nI 0) else (zs_pv S i o h c (nI 2 * (nI 1) + (nI 0))))) else (if zs_st (S 4 i 0 c) = 0 then (if zs_pv S i o h c (nI 2 * (nI 1) + (nI 0)) = 0 then (nI 0) else (zs_pv S i o h c (nI 2 * (nI 1) + (nI 0)))) else ((-2)))) else (if zs_st (S 4 i 0 c) = 0 then (if zs_pv S i o h c (nI 2 * (nI 1) + (nI 0)) = 0 then (nI 0) else (zs_pv S i o h c (nI 2 * (nI 1) + (nI 0)))) else ((-2)))) else (if zs_st (S 4 i 0 c) = nI 1 then (if zs_or (S 4 i 0 c) = nI 1 then (if zs_st (S 4 i 0 c) = 0 then (if zs_pv S i o h c (nI 2 * (nI 1) + (nI 1)) = 0 then (nI 0) else (zs_pv S i o h c (nI 2 * (nI 1) + (nI 1)))) else (if zs_pv S i o h c (nI 2 * (nI 1) + (nI 1)) = 0 then (nI 0) else (zs_pv S i o h c (nI 2 * (nI 1) + (nI 1))))) else (if zs_st (S 4 i 0 c) = 0 then (if zs_pv S i o h c (nI 2 * (nI 1) + (nI 1)) = 0 then (nI 0) else (zs_pv S i o h c (nI 2 * (nI 1) + (nI 1)))) else ((-2)))) else (if zs_st (S 4 i 0 c) = 0 then (if zs_pv S i o h c (nI 2 * (nI 1) + (nI 1)) = 0 then (nI 0) else (zs_pv S i o h c (nI 2 * (nI 1) + (nI 1)))) else ((-2))))
def zu_Ledger_tryEnd (S : zs_S) (i : Nat) (o : Nat) (c : Nat) (w : Int32) (h : Int32) : zs_S := if w = 0 then (if zs_st (S 4 i 0 c) = nI 1 then (if zs_or (S 4 i 0 c) = nI 0 then (if zs_st (S 4 i 0 c) = 0 then (if zs_pv S i o h c (nI 2 * (nI 1) + (nI 0)) = 0 then (zs_u (zs_u (zs_u (zs_u S 4 i 0 c (nI 2 * (nI 2) + (nI 0))) 5 i 0 c (nI 1)) 4 i 0 (3 + c) (if (nI 0) = nI 1 then nI 1 else S 4 i 0 (3 + c))) 5 i 0 (3 + c) (if (nI 0) = nI 1 then nI 1 else S 5 i 0 (3 + c))) else (S)) else (if zs_pv S i o h c (nI 2 * (nI 1) + (nI 0)) = 0 then (zs_u (zs_u (zs_u (zs_u S 4 i 0 c (nI 2 * (nI 2) + (nI 0))) 5 i 0 c (nI 1)) 4 i 0 (3 + c) (if (nI 0) = nI 1 then nI 1 else S 4 i 0 (3 + c))) 5 i 0 (3 + c) (if (nI 0) = nI 1 then nI 1 else S 5 i 0 (3 + c))) else (S))) else (if zs_st (S 4 i 0 c) = 0 then (if zs_pv S i o h c (nI 2 * (nI 1) + (nI 0)) = 0 then (zs_u (zs_u (zs_u (zs_u S 4 i 0 c (nI 2 * (nI 2) + (nI 0))) 5 i 0 c (nI 1)) 4 i 0 (3 + c) (if (nI 0) = nI 1 then nI 1 else S 4 i 0 (3 + c))) 5 i 0 (3 + c) (if (nI 0) = nI 1 then nI 1 else S 5 i 0 (3 + c))) else (S)) else (S))) else (if zs_st (S 4 i 0 c) = 0 then (if zs_pv S i o h c (nI 2 * (nI 1) + (nI 0)) = 0 then (zs_u (zs_u (zs_u (zs_u S 4 i 0 c (nI 2 * (nI 2) + (nI 0))) 5 i 0 c (nI 1)) 4 i 0 (3 + c) (if (nI 0) = nI 1 then nI 1 else S 4 i 0 (3 + c))) 5 i 0 (3 + c) (if (nI 0) = nI 1 then nI 1 else S 5 i 0 (3 + c))) else (S)) else (S))) else (if zs_st (S 4 i 0 c) = nI 1 then (if zs_or (S 4 i 0 c) = nI 1 then (if zs_st (S 4 i 0 c) = 0 then (if zs_pv S i o h c (nI 2 * (nI 1) + (nI 1)) = 0 then (zs_u (zs_u (zs_u (zs_u S 4 i 0 c (nI 2 * (nI 2) + (nI 1))) 5 i 0 c (nI 1)) 4 i 0 (3 + c) (if (nI 1) = nI 1 then nI 1 else S 4 i 0 (3 + c))) 5 i 0 (3 + c) (if (nI 1) = nI 1 then nI 1 else S 5 i 0 (3 + c))) else (S)) else (if zs_pv S i o h c (nI 2 * (nI 1) + (nI 1)) = 0 then (zs_u (zs_u (zs_u (zs_u S 4 i 0 c (nI 2 * (nI 2) + (nI 1))) 5 i 0 c (nI 1)) 4 i 0 (3 + c) (if (nI 1) = nI 1 then nI 1 else S 4 i 0 (3 + c))) 5 i 0 (3 + c) (if (nI 1) = nI 1 then nI 1 else S 5 i 0 (3 + c))) else (S))) else (if zs_st (S 4 i 0 c) = 0 then (if zs_pv S i o h c (nI 2 * (nI 1) + (nI 1)) = 0 then (zs_u (zs_u (zs_u (zs_u S 4 i 0 c (nI 2 * (nI 2) + (nI 1))) 5 i 0 c (nI 1)) 4 i 0 (3 + c) (if (nI 1) = nI 1 then nI 1 else S 4 i 0 (3 + c))) 5 i 0 (3 + c) (if (nI 1) = nI 1 then nI 1 else S 5 i 0 (3 + c))) else (S)) else (S))) else (if zs_st (S 4 i 0 c) = 0 then (if zs_pv S i o h c (nI 2 * (nI 1) + (nI 1)) = 0 then (zs_u (zs_u (zs_u (zs_u S 4 i 0 c (nI 2 * (nI 2) + (nI 1))) 5 i 0 c (nI 1)) 4 i 0 (3 + c) (if (nI 1) = nI 1 then nI 1 else S 4 i 0 (3 + c))) 5 i 0 (3 + c) (if (nI 1) = nI 1 then nI 1 else S 5 i 0 (3 + c))) else (S)) else (S)))
set_option maxHeartbeats 4000000 in
set_option maxRecDepth 100000 in
theorem zc_Ledger_tryEnd (lc : Launch) (G : zw_G) (b0 : Nat) (S : zs_S) (i : Nat) (o : Nat) (c : Nat) (w : Int32) (h : Int32) (hi : i < 2) (ho : o < 2) (hc : c < 3) (hB : zs_B S) : zw_M lc ym_Ledger_tryEnd bm_Ledger_tryEnd 8 (some .int) { frames := 4, cells := 0, slots := 0, locals := 94 } G b0 176 (zp_p G b0 S) [.ref (b0 + zp_o 2 i 0), .ref (b0 + zp_o 2 o 0), .int (nI c), .int w, .int h] (zw_Qi G b0 176 (zp_p G b0 (zu_Ledger_tryEnd S i o c w h)) (zr_Ledger_tryEnd S i o c w h)) := by
  refine zw_of (by decide) (Nat.le_of_ble_eq_true rfl) ?_
  intro p e s m below meth cx ls F hr hlk hE hP hS hl
  have hl : lv_has ls 8 [(0, .ref (b0 + zp_o 2 i 0)), (1, .ref (b0 + zp_o 2 o 0)), (2, .int (nI c)), (3, .int w), (4, .int h)] := hl
  refine lv_iload_n F.1 F.2.1 dd_Ledger_tryEnd_0 rfl (lv_at hl 3 rfl) ?_
  refine lv_if_eq F.1 F.2.1 dd_Ledger_tryEnd_1 (tgt := 8) rfl (fun h1 => ?_) (fun h1 => ?_)
  · refine lv_iconst (v := nI 0) F.1 F.2.1 dd_Ledger_tryEnd_8 (by decide) ?_
    refine lv_istore F.1 F.2.1 dd_Ledger_tryEnd_9 hl (by decide) (lv' := [(5, .int (nI 0)), (0, .ref (b0 + zp_o 2 i 0)), (1, .ref (b0 + zp_o 2 o 0)), (2, .int (nI c)), (3, .int w), (4, .int h)]) rfl (fun ls hl => ?_)
    refine lv_aload_n F.1 F.2.1 dd_Ledger_tryEnd_11 rfl (lv_at hl 1 rfl) ?_
    refine lv_iload_n F.1 F.2.1 dd_Ledger_tryEnd_12 rfl (lv_at hl 3 rfl) ?_
    refine zw_goi (zw_rV F hE hP (zc_Ledger_stateOf lc G b0 S i c (by first | omega | assumption) (by first | omega | assumption)) zk_Ledger_stateOf za_Ledger_stateOf zb_Ledger_stateOf wl_Ledger_96 ⟨rfl, rfl, Nat.le_of_ble_eq_true rfl, Nat.le_of_ble_eq_true rfl⟩ (zc_recv (t := 2) (i := i) (j := 0) hE hP ⟨by decide, (show i < 2 by omega), (show 0 < 1 by omega)⟩ rfl rfl) hl.1 rfl (Nat.le_of_ble_eq_true rfl) ⟨Nat.zero_le _, Nat.zero_le _⟩ dd_Ledger_tryEnd_13) hS (fun _ h => h) (fun H locs hP _ _ hS => ?_)
    refine lv_iconst (v := nI 1) F.1 F.2.1 dd_Ledger_tryEnd_16 (by decide) ?_
    refine lv_icmp_ne F.1 F.2.1 dd_Ledger_tryEnd_17 (tgt := 34) rfl (fun h17 => ?_) (fun h17 => ?_)
    · refine lv_iconst (v := nI 0) F.1 F.2.1 dd_Ledger_tryEnd_34 (by decide) ?_
      refine lv_istore F.1 F.2.1 dd_Ledger_tryEnd_35 hl (by decide) (lv' := [(6, .int (nI 0)), (5, .int (nI 0)), (0, .ref (b0 + zp_o 2 i 0)), (1, .ref (b0 + zp_o 2 o 0)), (2, .int (nI c)), (3, .int w), (4, .int h)]) rfl (fun ls hl => ?_)
      refine lv_aload_n F.1 F.2.1 dd_Ledger_tryEnd_37 rfl (lv_at hl 2 rfl) ?_
      refine lv_iload_n F.1 F.2.1 dd_Ledger_tryEnd_38 rfl (lv_at hl 4 rfl) ?_
      refine zw_goi (zw_rV F hE hP (zc_Ledger_stateOf lc G b0 S i c (by first | omega | assumption) (by first | omega | assumption)) zk_Ledger_stateOf za_Ledger_stateOf zb_Ledger_stateOf wl_Ledger_96 ⟨rfl, rfl, Nat.le_of_ble_eq_true rfl, Nat.le_of_ble_eq_true rfl⟩ (zc_recv (t := 2) (i := i) (j := 0) hE hP ⟨by decide, (show i < 2 by omega), (show 0 < 1 by omega)⟩ rfl rfl) hl.1 rfl (Nat.le_of_ble_eq_true rfl) ⟨Nat.zero_le _, Nat.zero_le _⟩ dd_Ledger_tryEnd_39) hS (fun _ h => h) (fun H locs hP _ _ hS => ?_)
      refine lv_if_eq F.1 F.2.1 dd_Ledger_tryEnd_42 (tgt := 53) rfl (fun h42 => ?_) (fun h42 => ?_)
      · refine lv_aload_n F.1 F.2.1 dd_Ledger_tryEnd_53 rfl (lv_at hl 2 rfl) ?_
        refine lv_aload_n F.1 F.2.1 dd_Ledger_tryEnd_54 rfl (lv_at hl 3 rfl) ?_
        refine lv_iload F.1 F.2.1 dd_Ledger_tryEnd_55 (lv_at hl 6 rfl) ?_
        refine lv_iload_n F.1 F.2.1 dd_Ledger_tryEnd_57 rfl (lv_at hl 4 rfl) ?_
        refine lv_iconst (v := nI 1) F.1 F.2.1 dd_Ledger_tryEnd_58 (by decide) ?_
        refine lv_iload F.1 F.2.1 dd_Ledger_tryEnd_59 (lv_at hl 1 rfl) ?_
        refine zw_goi (zw_rV F hE hP (zc_Ledger_proveEnd lc G b0 S i o h c (nI 1) (nI 0) (by first | omega | assumption) (by first | omega | assumption) (by first | omega | assumption) (by assumption)) zk_Ledger_proveEnd za_Ledger_proveEnd zb_Ledger_proveEnd wl_Ledger_107 ⟨rfl, rfl, Nat.le_of_ble_eq_true rfl, Nat.le_of_ble_eq_true rfl⟩ (zc_recv (t := 2) (i := i) (j := 0) hE hP ⟨by decide, (show i < 2 by omega), (show 0 < 1 by omega)⟩ rfl rfl) hl.1 rfl (Nat.le_of_ble_eq_true rfl) ⟨Nat.zero_le _, Nat.zero_le _⟩ dd_Ledger_tryEnd_61) hS (fun _ h => h) (fun H locs hP _ _ hS => ?_)
        refine lv_istore F.1 F.2.1 dd_Ledger_tryEnd_64 hl (by decide) (lv' := [(7, .int (zs_pv S i o h c (nI 2 * (nI 1) + (nI 0)))), (6, .int (nI 0)), (5, .int (nI 0)), (0, .ref (b0 + zp_o 2 i 0)), (1, .ref (b0 + zp_o 2 o 0)), (2, .int (nI c)), (3, .int w), (4, .int h)]) rfl (fun ls hl => ?_)
        refine lv_iload F.1 F.2.1 dd_Ledger_tryEnd_66 (lv_at hl 0 rfl) ?_
        refine lv_if_eq F.1 F.2.1 dd_Ledger_tryEnd_68 (tgt := 74) rfl (fun h68 => ?_) (fun h68 => ?_)
        · refine lv_aload_n F.1 F.2.1 dd_Ledger_tryEnd_74 rfl (lv_at hl 3 rfl) ?_
          refine lv_iload_n F.1 F.2.1 dd_Ledger_tryEnd_75 rfl (lv_at hl 5 rfl) ?_
          refine lv_iconst (v := nI 2) F.1 F.2.1 dd_Ledger_tryEnd_76 (by decide) ?_
          refine lv_iload F.1 F.2.1 dd_Ledger_tryEnd_77 (lv_at hl 2 rfl) ?_
          refine zw_gov (zw_rV F hE hP (zc_Ledger_makeEnd lc G b0 S i c (nI 2) (nI 0) (by first | omega | assumption) (by first | omega | assumption)) zk_Ledger_makeEnd za_Ledger_makeEnd zb_Ledger_makeEnd wl_Ledger_99 ⟨rfl, rfl, Nat.le_of_ble_eq_true rfl, Nat.le_of_ble_eq_true rfl⟩ (zc_recv (t := 2) (i := i) (j := 0) hE hP ⟨by decide, (show i < 2 by omega), (show 0 < 1 by omega)⟩ rfl rfl) hl.1 rfl (Nat.le_of_ble_eq_true rfl) ⟨Nat.zero_le _, Nat.zero_le _⟩ dd_Ledger_tryEnd_79) hS (fun _ h => h) (fun H locs hP _ _ hS => ?_)
          refine lv_iconst (v := nI 0) F.1 F.2.1 dd_Ledger_tryEnd_82 (by decide) ?_
          exact zw_iret F hr hlk hP hS (congrArg (zp_p G b0) (by rw [zu_Ledger_tryEnd, if_pos h1, if_neg h17, if_pos h42, if_pos h68])) (by rw [zr_Ledger_tryEnd, if_pos h1, if_neg h17, if_pos h42, if_pos h68]) dd_Ledger_tryEnd_83
        · refine lv_iload F.1 F.2.1 dd_Ledger_tryEnd_71 (lv_at hl 0 rfl) ?_
          exact zw_iret F hr hlk hP hS (congrArg (zp_p G b0) (by rw [zu_Ledger_tryEnd, if_pos h1, if_neg h17, if_pos h42, if_neg h68])) (by rw [zr_Ledger_tryEnd, if_pos h1, if_neg h17, if_pos h42, if_neg h68]) dd_Ledger_tryEnd_73
      · refine lv_iload F.1 F.2.1 dd_Ledger_tryEnd_45 (lv_at hl 0 rfl) ?_
        refine lv_if_ne F.1 F.2.1 dd_Ledger_tryEnd_47 (tgt := 53) rfl (fun h47 => absurd h47 (by decide)) (fun h47 => ?_)
        refine lv_bipush (v := (-2)) F.1 F.2.1 dd_Ledger_tryEnd_50 (by decide) ?_
        exact zw_iret F hr hlk hP hS (congrArg (zp_p G b0) (by rw [zu_Ledger_tryEnd, if_pos h1, if_neg h17, if_neg h42])) (by rw [zr_Ledger_tryEnd, if_pos h1, if_neg h17, if_neg h42]) dd_Ledger_tryEnd_52
    · refine lv_aload_n F.1 F.2.1 dd_Ledger_tryEnd_20 rfl (lv_at hl 1 rfl) ?_
      refine lv_iload_n F.1 F.2.1 dd_Ledger_tryEnd_21 rfl (lv_at hl 3 rfl) ?_
      refine zw_goi (zw_rV F hE hP (zc_Ledger_orderOf lc G b0 S i c (by first | omega | assumption) (by first | omega | assumption)) zk_Ledger_orderOf za_Ledger_orderOf zb_Ledger_orderOf wl_Ledger_70 ⟨rfl, rfl, Nat.le_of_ble_eq_true rfl, Nat.le_of_ble_eq_true rfl⟩ (zc_recv (t := 2) (i := i) (j := 0) hE hP ⟨by decide, (show i < 2 by omega), (show 0 < 1 by omega)⟩ rfl rfl) hl.1 rfl (Nat.le_of_ble_eq_true rfl) ⟨Nat.zero_le _, Nat.zero_le _⟩ dd_Ledger_tryEnd_22) hS (fun _ h => h) (fun H locs hP _ _ hS => ?_)
      refine lv_iload F.1 F.2.1 dd_Ledger_tryEnd_25 (lv_at hl 0 rfl) ?_
      refine lv_icmp_ne F.1 F.2.1 dd_Ledger_tryEnd_27 (tgt := 34) rfl (fun h27 => ?_) (fun h27 => ?_)
      · refine lv_iconst (v := nI 0) F.1 F.2.1 dd_Ledger_tryEnd_34 (by decide) ?_
        refine lv_istore F.1 F.2.1 dd_Ledger_tryEnd_35 hl (by decide) (lv' := [(6, .int (nI 0)), (5, .int (nI 0)), (0, .ref (b0 + zp_o 2 i 0)), (1, .ref (b0 + zp_o 2 o 0)), (2, .int (nI c)), (3, .int w), (4, .int h)]) rfl (fun ls hl => ?_)
        refine lv_aload_n F.1 F.2.1 dd_Ledger_tryEnd_37 rfl (lv_at hl 2 rfl) ?_
        refine lv_iload_n F.1 F.2.1 dd_Ledger_tryEnd_38 rfl (lv_at hl 4 rfl) ?_
        refine zw_goi (zw_rV F hE hP (zc_Ledger_stateOf lc G b0 S i c (by first | omega | assumption) (by first | omega | assumption)) zk_Ledger_stateOf za_Ledger_stateOf zb_Ledger_stateOf wl_Ledger_96 ⟨rfl, rfl, Nat.le_of_ble_eq_true rfl, Nat.le_of_ble_eq_true rfl⟩ (zc_recv (t := 2) (i := i) (j := 0) hE hP ⟨by decide, (show i < 2 by omega), (show 0 < 1 by omega)⟩ rfl rfl) hl.1 rfl (Nat.le_of_ble_eq_true rfl) ⟨Nat.zero_le _, Nat.zero_le _⟩ dd_Ledger_tryEnd_39) hS (fun _ h => h) (fun H locs hP _ _ hS => ?_)
        refine lv_if_eq F.1 F.2.1 dd_Ledger_tryEnd_42 (tgt := 53) rfl (fun h42 => ?_) (fun h42 => ?_)
        · refine lv_aload_n F.1 F.2.1 dd_Ledger_tryEnd_53 rfl (lv_at hl 2 rfl) ?_
          refine lv_aload_n F.1 F.2.1 dd_Ledger_tryEnd_54 rfl (lv_at hl 3 rfl) ?_
          refine lv_iload F.1 F.2.1 dd_Ledger_tryEnd_55 (lv_at hl 6 rfl) ?_
          refine lv_iload_n F.1 F.2.1 dd_Ledger_tryEnd_57 rfl (lv_at hl 4 rfl) ?_
          refine lv_iconst (v := nI 1) F.1 F.2.1 dd_Ledger_tryEnd_58 (by decide) ?_
          refine lv_iload F.1 F.2.1 dd_Ledger_tryEnd_59 (lv_at hl 1 rfl) ?_
          refine zw_goi (zw_rV F hE hP (zc_Ledger_proveEnd lc G b0 S i o h c (nI 1) (nI 0) (by first | omega | assumption) (by first | omega | assumption) (by first | omega | assumption) (by assumption)) zk_Ledger_proveEnd za_Ledger_proveEnd zb_Ledger_proveEnd wl_Ledger_107 ⟨rfl, rfl, Nat.le_of_ble_eq_true rfl, Nat.le_of_ble_eq_true rfl⟩ (zc_recv (t := 2) (i := i) (j := 0) hE hP ⟨by decide, (show i < 2 by omega), (show 0 < 1 by omega)⟩ rfl rfl) hl.1 rfl (Nat.le_of_ble_eq_true rfl) ⟨Nat.zero_le _, Nat.zero_le _⟩ dd_Ledger_tryEnd_61) hS (fun _ h => h) (fun H locs hP _ _ hS => ?_)
          refine lv_istore F.1 F.2.1 dd_Ledger_tryEnd_64 hl (by decide) (lv' := [(7, .int (zs_pv S i o h c (nI 2 * (nI 1) + (nI 0)))), (6, .int (nI 0)), (5, .int (nI 0)), (0, .ref (b0 + zp_o 2 i 0)), (1, .ref (b0 + zp_o 2 o 0)), (2, .int (nI c)), (3, .int w), (4, .int h)]) rfl (fun ls hl => ?_)
          refine lv_iload F.1 F.2.1 dd_Ledger_tryEnd_66 (lv_at hl 0 rfl) ?_
          refine lv_if_eq F.1 F.2.1 dd_Ledger_tryEnd_68 (tgt := 74) rfl (fun h68 => ?_) (fun h68 => ?_)
          · refine lv_aload_n F.1 F.2.1 dd_Ledger_tryEnd_74 rfl (lv_at hl 3 rfl) ?_
            refine lv_iload_n F.1 F.2.1 dd_Ledger_tryEnd_75 rfl (lv_at hl 5 rfl) ?_
            refine lv_iconst (v := nI 2) F.1 F.2.1 dd_Ledger_tryEnd_76 (by decide) ?_
            refine lv_iload F.1 F.2.1 dd_Ledger_tryEnd_77 (lv_at hl 2 rfl) ?_
            refine zw_gov (zw_rV F hE hP (zc_Ledger_makeEnd lc G b0 S i c (nI 2) (nI 0) (by first | omega | assumption) (by first | omega | assumption)) zk_Ledger_makeEnd za_Ledger_makeEnd zb_Ledger_makeEnd wl_Ledger_99 ⟨rfl, rfl, Nat.le_of_ble_eq_true rfl, Nat.le_of_ble_eq_true rfl⟩ (zc_recv (t := 2) (i := i) (j := 0) hE hP ⟨by decide, (show i < 2 by omega), (show 0 < 1 by omega)⟩ rfl rfl) hl.1 rfl (Nat.le_of_ble_eq_true rfl) ⟨Nat.zero_le _, Nat.zero_le _⟩ dd_Ledger_tryEnd_79) hS (fun _ h => h) (fun H locs hP _ _ hS => ?_)
            refine lv_iconst (v := nI 0) F.1 F.2.1 dd_Ledger_tryEnd_82 (by decide) ?_
            exact zw_iret F hr hlk hP hS (congrArg (zp_p G b0) (by rw [zu_Ledger_tryEnd, if_pos h1, if_pos h17, if_neg h27, if_pos h42, if_pos h68])) (by rw [zr_Ledger_tryEnd, if_pos h1, if_pos h17, if_neg h27, if_pos h42, if_pos h68]) dd_Ledger_tryEnd_83
          · refine lv_iload F.1 F.2.1 dd_Ledger_tryEnd_71 (lv_at hl 0 rfl) ?_
            exact zw_iret F hr hlk hP hS (congrArg (zp_p G b0) (by rw [zu_Ledger_tryEnd, if_pos h1, if_pos h17, if_neg h27, if_pos h42, if_neg h68])) (by rw [zr_Ledger_tryEnd, if_pos h1, if_pos h17, if_neg h27, if_pos h42, if_neg h68]) dd_Ledger_tryEnd_73
        · refine lv_iload F.1 F.2.1 dd_Ledger_tryEnd_45 (lv_at hl 0 rfl) ?_
          refine lv_if_ne F.1 F.2.1 dd_Ledger_tryEnd_47 (tgt := 53) rfl (fun h47 => absurd h47 (by decide)) (fun h47 => ?_)
          refine lv_bipush (v := (-2)) F.1 F.2.1 dd_Ledger_tryEnd_50 (by decide) ?_
          exact zw_iret F hr hlk hP hS (congrArg (zp_p G b0) (by rw [zu_Ledger_tryEnd, if_pos h1, if_pos h17, if_neg h27, if_neg h42])) (by rw [zr_Ledger_tryEnd, if_pos h1, if_pos h17, if_neg h27, if_neg h42]) dd_Ledger_tryEnd_52
      · refine lv_iconst (v := nI 1) F.1 F.2.1 dd_Ledger_tryEnd_30 (by decide) ?_
        refine lv_goto F.1 F.2.1 dd_Ledger_tryEnd_31 (tgt := 35) rfl ?_
        refine lv_istore F.1 F.2.1 dd_Ledger_tryEnd_35 hl (by decide) (lv' := [(6, .int (nI 1)), (5, .int (nI 0)), (0, .ref (b0 + zp_o 2 i 0)), (1, .ref (b0 + zp_o 2 o 0)), (2, .int (nI c)), (3, .int w), (4, .int h)]) rfl (fun ls hl => ?_)
        refine lv_aload_n F.1 F.2.1 dd_Ledger_tryEnd_37 rfl (lv_at hl 2 rfl) ?_
        refine lv_iload_n F.1 F.2.1 dd_Ledger_tryEnd_38 rfl (lv_at hl 4 rfl) ?_
        refine zw_goi (zw_rV F hE hP (zc_Ledger_stateOf lc G b0 S i c (by first | omega | assumption) (by first | omega | assumption)) zk_Ledger_stateOf za_Ledger_stateOf zb_Ledger_stateOf wl_Ledger_96 ⟨rfl, rfl, Nat.le_of_ble_eq_true rfl, Nat.le_of_ble_eq_true rfl⟩ (zc_recv (t := 2) (i := i) (j := 0) hE hP ⟨by decide, (show i < 2 by omega), (show 0 < 1 by omega)⟩ rfl rfl) hl.1 rfl (Nat.le_of_ble_eq_true rfl) ⟨Nat.zero_le _, Nat.zero_le _⟩ dd_Ledger_tryEnd_39) hS (fun _ h => h) (fun H locs hP _ _ hS => ?_)
        refine lv_if_eq F.1 F.2.1 dd_Ledger_tryEnd_42 (tgt := 53) rfl (fun h42 => ?_) (fun h42 => ?_)
        · refine lv_aload_n F.1 F.2.1 dd_Ledger_tryEnd_53 rfl (lv_at hl 2 rfl) ?_
          refine lv_aload_n F.1 F.2.1 dd_Ledger_tryEnd_54 rfl (lv_at hl 3 rfl) ?_
          refine lv_iload F.1 F.2.1 dd_Ledger_tryEnd_55 (lv_at hl 6 rfl) ?_
          refine lv_iload_n F.1 F.2.1 dd_Ledger_tryEnd_57 rfl (lv_at hl 4 rfl) ?_
          refine lv_iconst (v := nI 1) F.1 F.2.1 dd_Ledger_tryEnd_58 (by decide) ?_
          refine lv_iload F.1 F.2.1 dd_Ledger_tryEnd_59 (lv_at hl 1 rfl) ?_
          refine zw_goi (zw_rV F hE hP (zc_Ledger_proveEnd lc G b0 S i o h c (nI 1) (nI 0) (by first | omega | assumption) (by first | omega | assumption) (by first | omega | assumption) (by assumption)) zk_Ledger_proveEnd za_Ledger_proveEnd zb_Ledger_proveEnd wl_Ledger_107 ⟨rfl, rfl, Nat.le_of_ble_eq_true rfl, Nat.le_of_ble_eq_true rfl⟩ (zc_recv (t := 2) (i := i) (j := 0) hE hP ⟨by decide, (show i < 2 by omega), (show 0 < 1 by omega)⟩ rfl rfl) hl.1 rfl (Nat.le_of_ble_eq_true rfl) ⟨Nat.zero_le _, Nat.zero_le _⟩ dd_Ledger_tryEnd_61) hS (fun _ h => h) (fun H locs hP _ _ hS => ?_)
          refine lv_istore F.1 F.2.1 dd_Ledger_tryEnd_64 hl (by decide) (lv' := [(7, .int (zs_pv S i o h c (nI 2 * (nI 1) + (nI 0)))), (6, .int (nI 1)), (5, .int (nI 0)), (0, .ref (b0 + zp_o 2 i 0)), (1, .ref (b0 + zp_o 2 o 0)), (2, .int (nI c)), (3, .int w), (4, .int h)]) rfl (fun ls hl => ?_)
          refine lv_iload F.1 F.2.1 dd_Ledger_tryEnd_66 (lv_at hl 0 rfl) ?_
          refine lv_if_eq F.1 F.2.1 dd_Ledger_tryEnd_68 (tgt := 74) rfl (fun h68 => ?_) (fun h68 => ?_)
          · refine lv_aload_n F.1 F.2.1 dd_Ledger_tryEnd_74 rfl (lv_at hl 3 rfl) ?_
            refine lv_iload_n F.1 F.2.1 dd_Ledger_tryEnd_75 rfl (lv_at hl 5 rfl) ?_
            refine lv_iconst (v := nI 2) F.1 F.2.1 dd_Ledger_tryEnd_76 (by decide) ?_
            refine lv_iload F.1 F.2.1 dd_Ledger_tryEnd_77 (lv_at hl 2 rfl) ?_
            refine zw_gov (zw_rV F hE hP (zc_Ledger_makeEnd lc G b0 S i c (nI 2) (nI 0) (by first | omega | assumption) (by first | omega | assumption)) zk_Ledger_makeEnd za_Ledger_makeEnd zb_Ledger_makeEnd wl_Ledger_99 ⟨rfl, rfl, Nat.le_of_ble_eq_true rfl, Nat.le_of_ble_eq_true rfl⟩ (zc_recv (t := 2) (i := i) (j := 0) hE hP ⟨by decide, (show i < 2 by omega), (show 0 < 1 by omega)⟩ rfl rfl) hl.1 rfl (Nat.le_of_ble_eq_true rfl) ⟨Nat.zero_le _, Nat.zero_le _⟩ dd_Ledger_tryEnd_79) hS (fun _ h => h) (fun H locs hP _ _ hS => ?_)
            refine lv_iconst (v := nI 0) F.1 F.2.1 dd_Ledger_tryEnd_82 (by decide) ?_
            exact zw_iret F hr hlk hP hS (congrArg (zp_p G b0) (by rw [zu_Ledger_tryEnd, if_pos h1, if_pos h17, if_pos h27, if_pos h42, if_pos h68])) (by rw [zr_Ledger_tryEnd, if_pos h1, if_pos h17, if_pos h27, if_pos h42, if_pos h68]) dd_Ledger_tryEnd_83
          · refine lv_iload F.1 F.2.1 dd_Ledger_tryEnd_71 (lv_at hl 0 rfl) ?_
            exact zw_iret F hr hlk hP hS (congrArg (zp_p G b0) (by rw [zu_Ledger_tryEnd, if_pos h1, if_pos h17, if_pos h27, if_pos h42, if_neg h68])) (by rw [zr_Ledger_tryEnd, if_pos h1, if_pos h17, if_pos h27, if_pos h42, if_neg h68]) dd_Ledger_tryEnd_73
        · refine lv_iload F.1 F.2.1 dd_Ledger_tryEnd_45 (lv_at hl 0 rfl) ?_
          refine lv_if_ne F.1 F.2.1 dd_Ledger_tryEnd_47 (tgt := 53) rfl (fun h47 => ?_) (fun h47 => absurd h47 (by decide))
          refine lv_aload_n F.1 F.2.1 dd_Ledger_tryEnd_53 rfl (lv_at hl 2 rfl) ?_
          refine lv_aload_n F.1 F.2.1 dd_Ledger_tryEnd_54 rfl (lv_at hl 3 rfl) ?_
          refine lv_iload F.1 F.2.1 dd_Ledger_tryEnd_55 (lv_at hl 6 rfl) ?_
          refine lv_iload_n F.1 F.2.1 dd_Ledger_tryEnd_57 rfl (lv_at hl 4 rfl) ?_
          refine lv_iconst (v := nI 1) F.1 F.2.1 dd_Ledger_tryEnd_58 (by decide) ?_
          refine lv_iload F.1 F.2.1 dd_Ledger_tryEnd_59 (lv_at hl 1 rfl) ?_
          refine zw_goi (zw_rV F hE hP (zc_Ledger_proveEnd lc G b0 S i o h c (nI 1) (nI 0) (by first | omega | assumption) (by first | omega | assumption) (by first | omega | assumption) (by assumption)) zk_Ledger_proveEnd za_Ledger_proveEnd zb_Ledger_proveEnd wl_Ledger_107 ⟨rfl, rfl, Nat.le_of_ble_eq_true rfl, Nat.le_of_ble_eq_true rfl⟩ (zc_recv (t := 2) (i := i) (j := 0) hE hP ⟨by decide, (show i < 2 by omega), (show 0 < 1 by omega)⟩ rfl rfl) hl.1 rfl (Nat.le_of_ble_eq_true rfl) ⟨Nat.zero_le _, Nat.zero_le _⟩ dd_Ledger_tryEnd_61) hS (fun _ h => h) (fun H locs hP _ _ hS => ?_)
          refine lv_istore F.1 F.2.1 dd_Ledger_tryEnd_64 hl (by decide) (lv' := [(7, .int (zs_pv S i o h c (nI 2 * (nI 1) + (nI 0)))), (6, .int (nI 1)), (5, .int (nI 0)), (0, .ref (b0 + zp_o 2 i 0)), (1, .ref (b0 + zp_o 2 o 0)), (2, .int (nI c)), (3, .int w), (4, .int h)]) rfl (fun ls hl => ?_)
          refine lv_iload F.1 F.2.1 dd_Ledger_tryEnd_66 (lv_at hl 0 rfl) ?_
          refine lv_if_eq F.1 F.2.1 dd_Ledger_tryEnd_68 (tgt := 74) rfl (fun h68 => ?_) (fun h68 => ?_)
          · refine lv_aload_n F.1 F.2.1 dd_Ledger_tryEnd_74 rfl (lv_at hl 3 rfl) ?_
            refine lv_iload_n F.1 F.2.1 dd_Ledger_tryEnd_75 rfl (lv_at hl 5 rfl) ?_
            refine lv_iconst (v := nI 2) F.1 F.2.1 dd_Ledger_tryEnd_76 (by decide) ?_
            refine lv_iload F.1 F.2.1 dd_Ledger_tryEnd_77 (lv_at hl 2 rfl) ?_
            refine zw_gov (zw_rV F hE hP (zc_Ledger_makeEnd lc G b0 S i c (nI 2) (nI 0) (by first | omega | assumption) (by first | omega | assumption)) zk_Ledger_makeEnd za_Ledger_makeEnd zb_Ledger_makeEnd wl_Ledger_99 ⟨rfl, rfl, Nat.le_of_ble_eq_true rfl, Nat.le_of_ble_eq_true rfl⟩ (zc_recv (t := 2) (i := i) (j := 0) hE hP ⟨by decide, (show i < 2 by omega), (show 0 < 1 by omega)⟩ rfl rfl) hl.1 rfl (Nat.le_of_ble_eq_true rfl) ⟨Nat.zero_le _, Nat.zero_le _⟩ dd_Ledger_tryEnd_79) hS (fun _ h => h) (fun H locs hP _ _ hS => ?_)
            refine lv_iconst (v := nI 0) F.1 F.2.1 dd_Ledger_tryEnd_82 (by decide) ?_
            exact zw_iret F hr hlk hP hS (congrArg (zp_p G b0) (by rw [zu_Ledger_tryEnd, if_pos h1, if_pos h17, if_pos h27, if_neg h42, if_pos h68])) (by rw [zr_Ledger_tryEnd, if_pos h1, if_pos h17, if_pos h27, if_neg h42, if_pos h68]) dd_Ledger_tryEnd_83
          · refine lv_iload F.1 F.2.1 dd_Ledger_tryEnd_71 (lv_at hl 0 rfl) ?_
            exact zw_iret F hr hlk hP hS (congrArg (zp_p G b0) (by rw [zu_Ledger_tryEnd, if_pos h1, if_pos h17, if_pos h27, if_neg h42, if_neg h68])) (by rw [zr_Ledger_tryEnd, if_pos h1, if_pos h17, if_pos h27, if_neg h42, if_neg h68]) dd_Ledger_tryEnd_73
  · refine lv_iconst (v := nI 1) F.1 F.2.1 dd_Ledger_tryEnd_4 (by decide) ?_
    refine lv_goto F.1 F.2.1 dd_Ledger_tryEnd_5 (tgt := 9) rfl ?_
    refine lv_istore F.1 F.2.1 dd_Ledger_tryEnd_9 hl (by decide) (lv' := [(5, .int (nI 1)), (0, .ref (b0 + zp_o 2 i 0)), (1, .ref (b0 + zp_o 2 o 0)), (2, .int (nI c)), (3, .int w), (4, .int h)]) rfl (fun ls hl => ?_)
    refine lv_aload_n F.1 F.2.1 dd_Ledger_tryEnd_11 rfl (lv_at hl 1 rfl) ?_
    refine lv_iload_n F.1 F.2.1 dd_Ledger_tryEnd_12 rfl (lv_at hl 3 rfl) ?_
    refine zw_goi (zw_rV F hE hP (zc_Ledger_stateOf lc G b0 S i c (by first | omega | assumption) (by first | omega | assumption)) zk_Ledger_stateOf za_Ledger_stateOf zb_Ledger_stateOf wl_Ledger_96 ⟨rfl, rfl, Nat.le_of_ble_eq_true rfl, Nat.le_of_ble_eq_true rfl⟩ (zc_recv (t := 2) (i := i) (j := 0) hE hP ⟨by decide, (show i < 2 by omega), (show 0 < 1 by omega)⟩ rfl rfl) hl.1 rfl (Nat.le_of_ble_eq_true rfl) ⟨Nat.zero_le _, Nat.zero_le _⟩ dd_Ledger_tryEnd_13) hS (fun _ h => h) (fun H locs hP _ _ hS => ?_)
    refine lv_iconst (v := nI 1) F.1 F.2.1 dd_Ledger_tryEnd_16 (by decide) ?_
    refine lv_icmp_ne F.1 F.2.1 dd_Ledger_tryEnd_17 (tgt := 34) rfl (fun h17 => ?_) (fun h17 => ?_)
    · refine lv_iconst (v := nI 0) F.1 F.2.1 dd_Ledger_tryEnd_34 (by decide) ?_
      refine lv_istore F.1 F.2.1 dd_Ledger_tryEnd_35 hl (by decide) (lv' := [(6, .int (nI 0)), (5, .int (nI 1)), (0, .ref (b0 + zp_o 2 i 0)), (1, .ref (b0 + zp_o 2 o 0)), (2, .int (nI c)), (3, .int w), (4, .int h)]) rfl (fun ls hl => ?_)
      refine lv_aload_n F.1 F.2.1 dd_Ledger_tryEnd_37 rfl (lv_at hl 2 rfl) ?_
      refine lv_iload_n F.1 F.2.1 dd_Ledger_tryEnd_38 rfl (lv_at hl 4 rfl) ?_
      refine zw_goi (zw_rV F hE hP (zc_Ledger_stateOf lc G b0 S i c (by first | omega | assumption) (by first | omega | assumption)) zk_Ledger_stateOf za_Ledger_stateOf zb_Ledger_stateOf wl_Ledger_96 ⟨rfl, rfl, Nat.le_of_ble_eq_true rfl, Nat.le_of_ble_eq_true rfl⟩ (zc_recv (t := 2) (i := i) (j := 0) hE hP ⟨by decide, (show i < 2 by omega), (show 0 < 1 by omega)⟩ rfl rfl) hl.1 rfl (Nat.le_of_ble_eq_true rfl) ⟨Nat.zero_le _, Nat.zero_le _⟩ dd_Ledger_tryEnd_39) hS (fun _ h => h) (fun H locs hP _ _ hS => ?_)
      refine lv_if_eq F.1 F.2.1 dd_Ledger_tryEnd_42 (tgt := 53) rfl (fun h42 => ?_) (fun h42 => ?_)
      · refine lv_aload_n F.1 F.2.1 dd_Ledger_tryEnd_53 rfl (lv_at hl 2 rfl) ?_
        refine lv_aload_n F.1 F.2.1 dd_Ledger_tryEnd_54 rfl (lv_at hl 3 rfl) ?_
        refine lv_iload F.1 F.2.1 dd_Ledger_tryEnd_55 (lv_at hl 6 rfl) ?_
        refine lv_iload_n F.1 F.2.1 dd_Ledger_tryEnd_57 rfl (lv_at hl 4 rfl) ?_
        refine lv_iconst (v := nI 1) F.1 F.2.1 dd_Ledger_tryEnd_58 (by decide) ?_
        refine lv_iload F.1 F.2.1 dd_Ledger_tryEnd_59 (lv_at hl 1 rfl) ?_
        refine zw_goi (zw_rV F hE hP (zc_Ledger_proveEnd lc G b0 S i o h c (nI 1) (nI 1) (by first | omega | assumption) (by first | omega | assumption) (by first | omega | assumption) (by assumption)) zk_Ledger_proveEnd za_Ledger_proveEnd zb_Ledger_proveEnd wl_Ledger_107 ⟨rfl, rfl, Nat.le_of_ble_eq_true rfl, Nat.le_of_ble_eq_true rfl⟩ (zc_recv (t := 2) (i := i) (j := 0) hE hP ⟨by decide, (show i < 2 by omega), (show 0 < 1 by omega)⟩ rfl rfl) hl.1 rfl (Nat.le_of_ble_eq_true rfl) ⟨Nat.zero_le _, Nat.zero_le _⟩ dd_Ledger_tryEnd_61) hS (fun _ h => h) (fun H locs hP _ _ hS => ?_)
        refine lv_istore F.1 F.2.1 dd_Ledger_tryEnd_64 hl (by decide) (lv' := [(7, .int (zs_pv S i o h c (nI 2 * (nI 1) + (nI 1)))), (6, .int (nI 0)), (5, .int (nI 1)), (0, .ref (b0 + zp_o 2 i 0)), (1, .ref (b0 + zp_o 2 o 0)), (2, .int (nI c)), (3, .int w), (4, .int h)]) rfl (fun ls hl => ?_)
        refine lv_iload F.1 F.2.1 dd_Ledger_tryEnd_66 (lv_at hl 0 rfl) ?_
        refine lv_if_eq F.1 F.2.1 dd_Ledger_tryEnd_68 (tgt := 74) rfl (fun h68 => ?_) (fun h68 => ?_)
        · refine lv_aload_n F.1 F.2.1 dd_Ledger_tryEnd_74 rfl (lv_at hl 3 rfl) ?_
          refine lv_iload_n F.1 F.2.1 dd_Ledger_tryEnd_75 rfl (lv_at hl 5 rfl) ?_
          refine lv_iconst (v := nI 2) F.1 F.2.1 dd_Ledger_tryEnd_76 (by decide) ?_
          refine lv_iload F.1 F.2.1 dd_Ledger_tryEnd_77 (lv_at hl 2 rfl) ?_
          refine zw_gov (zw_rV F hE hP (zc_Ledger_makeEnd lc G b0 S i c (nI 2) (nI 1) (by first | omega | assumption) (by first | omega | assumption)) zk_Ledger_makeEnd za_Ledger_makeEnd zb_Ledger_makeEnd wl_Ledger_99 ⟨rfl, rfl, Nat.le_of_ble_eq_true rfl, Nat.le_of_ble_eq_true rfl⟩ (zc_recv (t := 2) (i := i) (j := 0) hE hP ⟨by decide, (show i < 2 by omega), (show 0 < 1 by omega)⟩ rfl rfl) hl.1 rfl (Nat.le_of_ble_eq_true rfl) ⟨Nat.zero_le _, Nat.zero_le _⟩ dd_Ledger_tryEnd_79) hS (fun _ h => h) (fun H locs hP _ _ hS => ?_)
          refine lv_iconst (v := nI 0) F.1 F.2.1 dd_Ledger_tryEnd_82 (by decide) ?_
          exact zw_iret F hr hlk hP hS (congrArg (zp_p G b0) (by rw [zu_Ledger_tryEnd, if_neg h1, if_neg h17, if_pos h42, if_pos h68])) (by rw [zr_Ledger_tryEnd, if_neg h1, if_neg h17, if_pos h42, if_pos h68]) dd_Ledger_tryEnd_83
        · refine lv_iload F.1 F.2.1 dd_Ledger_tryEnd_71 (lv_at hl 0 rfl) ?_
          exact zw_iret F hr hlk hP hS (congrArg (zp_p G b0) (by rw [zu_Ledger_tryEnd, if_neg h1, if_neg h17, if_pos h42, if_neg h68])) (by rw [zr_Ledger_tryEnd, if_neg h1, if_neg h17, if_pos h42, if_neg h68]) dd_Ledger_tryEnd_73
      · refine lv_iload F.1 F.2.1 dd_Ledger_tryEnd_45 (lv_at hl 0 rfl) ?_
        refine lv_if_ne F.1 F.2.1 dd_Ledger_tryEnd_47 (tgt := 53) rfl (fun h47 => absurd h47 (by decide)) (fun h47 => ?_)
        refine lv_bipush (v := (-2)) F.1 F.2.1 dd_Ledger_tryEnd_50 (by decide) ?_
        exact zw_iret F hr hlk hP hS (congrArg (zp_p G b0) (by rw [zu_Ledger_tryEnd, if_neg h1, if_neg h17, if_neg h42])) (by rw [zr_Ledger_tryEnd, if_neg h1, if_neg h17, if_neg h42]) dd_Ledger_tryEnd_52
    · refine lv_aload_n F.1 F.2.1 dd_Ledger_tryEnd_20 rfl (lv_at hl 1 rfl) ?_
      refine lv_iload_n F.1 F.2.1 dd_Ledger_tryEnd_21 rfl (lv_at hl 3 rfl) ?_
      refine zw_goi (zw_rV F hE hP (zc_Ledger_orderOf lc G b0 S i c (by first | omega | assumption) (by first | omega | assumption)) zk_Ledger_orderOf za_Ledger_orderOf zb_Ledger_orderOf wl_Ledger_70 ⟨rfl, rfl, Nat.le_of_ble_eq_true rfl, Nat.le_of_ble_eq_true rfl⟩ (zc_recv (t := 2) (i := i) (j := 0) hE hP ⟨by decide, (show i < 2 by omega), (show 0 < 1 by omega)⟩ rfl rfl) hl.1 rfl (Nat.le_of_ble_eq_true rfl) ⟨Nat.zero_le _, Nat.zero_le _⟩ dd_Ledger_tryEnd_22) hS (fun _ h => h) (fun H locs hP _ _ hS => ?_)
      refine lv_iload F.1 F.2.1 dd_Ledger_tryEnd_25 (lv_at hl 0 rfl) ?_
      refine lv_icmp_ne F.1 F.2.1 dd_Ledger_tryEnd_27 (tgt := 34) rfl (fun h27 => ?_) (fun h27 => ?_)
      · refine lv_iconst (v := nI 0) F.1 F.2.1 dd_Ledger_tryEnd_34 (by decide) ?_
        refine lv_istore F.1 F.2.1 dd_Ledger_tryEnd_35 hl (by decide) (lv' := [(6, .int (nI 0)), (5, .int (nI 1)), (0, .ref (b0 + zp_o 2 i 0)), (1, .ref (b0 + zp_o 2 o 0)), (2, .int (nI c)), (3, .int w), (4, .int h)]) rfl (fun ls hl => ?_)
        refine lv_aload_n F.1 F.2.1 dd_Ledger_tryEnd_37 rfl (lv_at hl 2 rfl) ?_
        refine lv_iload_n F.1 F.2.1 dd_Ledger_tryEnd_38 rfl (lv_at hl 4 rfl) ?_
        refine zw_goi (zw_rV F hE hP (zc_Ledger_stateOf lc G b0 S i c (by first | omega | assumption) (by first | omega | assumption)) zk_Ledger_stateOf za_Ledger_stateOf zb_Ledger_stateOf wl_Ledger_96 ⟨rfl, rfl, Nat.le_of_ble_eq_true rfl, Nat.le_of_ble_eq_true rfl⟩ (zc_recv (t := 2) (i := i) (j := 0) hE hP ⟨by decide, (show i < 2 by omega), (show 0 < 1 by omega)⟩ rfl rfl) hl.1 rfl (Nat.le_of_ble_eq_true rfl) ⟨Nat.zero_le _, Nat.zero_le _⟩ dd_Ledger_tryEnd_39) hS (fun _ h => h) (fun H locs hP _ _ hS => ?_)
        refine lv_if_eq F.1 F.2.1 dd_Ledger_tryEnd_42 (tgt := 53) rfl (fun h42 => ?_) (fun h42 => ?_)
        · refine lv_aload_n F.1 F.2.1 dd_Ledger_tryEnd_53 rfl (lv_at hl 2 rfl) ?_
          refine lv_aload_n F.1 F.2.1 dd_Ledger_tryEnd_54 rfl (lv_at hl 3 rfl) ?_
          refine lv_iload F.1 F.2.1 dd_Ledger_tryEnd_55 (lv_at hl 6 rfl) ?_
          refine lv_iload_n F.1 F.2.1 dd_Ledger_tryEnd_57 rfl (lv_at hl 4 rfl) ?_
          refine lv_iconst (v := nI 1) F.1 F.2.1 dd_Ledger_tryEnd_58 (by decide) ?_
          refine lv_iload F.1 F.2.1 dd_Ledger_tryEnd_59 (lv_at hl 1 rfl) ?_
          refine zw_goi (zw_rV F hE hP (zc_Ledger_proveEnd lc G b0 S i o h c (nI 1) (nI 1) (by first | omega | assumption) (by first | omega | assumption) (by first | omega | assumption) (by assumption)) zk_Ledger_proveEnd za_Ledger_proveEnd zb_Ledger_proveEnd wl_Ledger_107 ⟨rfl, rfl, Nat.le_of_ble_eq_true rfl, Nat.le_of_ble_eq_true rfl⟩ (zc_recv (t := 2) (i := i) (j := 0) hE hP ⟨by decide, (show i < 2 by omega), (show 0 < 1 by omega)⟩ rfl rfl) hl.1 rfl (Nat.le_of_ble_eq_true rfl) ⟨Nat.zero_le _, Nat.zero_le _⟩ dd_Ledger_tryEnd_61) hS (fun _ h => h) (fun H locs hP _ _ hS => ?_)
          refine lv_istore F.1 F.2.1 dd_Ledger_tryEnd_64 hl (by decide) (lv' := [(7, .int (zs_pv S i o h c (nI 2 * (nI 1) + (nI 1)))), (6, .int (nI 0)), (5, .int (nI 1)), (0, .ref (b0 + zp_o 2 i 0)), (1, .ref (b0 + zp_o 2 o 0)), (2, .int (nI c)), (3, .int w), (4, .int h)]) rfl (fun ls hl => ?_)
          refine lv_iload F.1 F.2.1 dd_Ledger_tryEnd_66 (lv_at hl 0 rfl) ?_
          refine lv_if_eq F.1 F.2.1 dd_Ledger_tryEnd_68 (tgt := 74) rfl (fun h68 => ?_) (fun h68 => ?_)
          · refine lv_aload_n F.1 F.2.1 dd_Ledger_tryEnd_74 rfl (lv_at hl 3 rfl) ?_
            refine lv_iload_n F.1 F.2.1 dd_Ledger_tryEnd_75 rfl (lv_at hl 5 rfl) ?_
            refine lv_iconst (v := nI 2) F.1 F.2.1 dd_Ledger_tryEnd_76 (by decide) ?_
            refine lv_iload F.1 F.2.1 dd_Ledger_tryEnd_77 (lv_at hl 2 rfl) ?_
            refine zw_gov (zw_rV F hE hP (zc_Ledger_makeEnd lc G b0 S i c (nI 2) (nI 1) (by first | omega | assumption) (by first | omega | assumption)) zk_Ledger_makeEnd za_Ledger_makeEnd zb_Ledger_makeEnd wl_Ledger_99 ⟨rfl, rfl, Nat.le_of_ble_eq_true rfl, Nat.le_of_ble_eq_true rfl⟩ (zc_recv (t := 2) (i := i) (j := 0) hE hP ⟨by decide, (show i < 2 by omega), (show 0 < 1 by omega)⟩ rfl rfl) hl.1 rfl (Nat.le_of_ble_eq_true rfl) ⟨Nat.zero_le _, Nat.zero_le _⟩ dd_Ledger_tryEnd_79) hS (fun _ h => h) (fun H locs hP _ _ hS => ?_)
            refine lv_iconst (v := nI 0) F.1 F.2.1 dd_Ledger_tryEnd_82 (by decide) ?_
            exact zw_iret F hr hlk hP hS (congrArg (zp_p G b0) (by rw [zu_Ledger_tryEnd, if_neg h1, if_pos h17, if_neg h27, if_pos h42, if_pos h68])) (by rw [zr_Ledger_tryEnd, if_neg h1, if_pos h17, if_neg h27, if_pos h42, if_pos h68]) dd_Ledger_tryEnd_83
          · refine lv_iload F.1 F.2.1 dd_Ledger_tryEnd_71 (lv_at hl 0 rfl) ?_
            exact zw_iret F hr hlk hP hS (congrArg (zp_p G b0) (by rw [zu_Ledger_tryEnd, if_neg h1, if_pos h17, if_neg h27, if_pos h42, if_neg h68])) (by rw [zr_Ledger_tryEnd, if_neg h1, if_pos h17, if_neg h27, if_pos h42, if_neg h68]) dd_Ledger_tryEnd_73
        · refine lv_iload F.1 F.2.1 dd_Ledger_tryEnd_45 (lv_at hl 0 rfl) ?_
          refine lv_if_ne F.1 F.2.1 dd_Ledger_tryEnd_47 (tgt := 53) rfl (fun h47 => absurd h47 (by decide)) (fun h47 => ?_)
          refine lv_bipush (v := (-2)) F.1 F.2.1 dd_Ledger_tryEnd_50 (by decide) ?_
          exact zw_iret F hr hlk hP hS (congrArg (zp_p G b0) (by rw [zu_Ledger_tryEnd, if_neg h1, if_pos h17, if_neg h27, if_neg h42])) (by rw [zr_Ledger_tryEnd, if_neg h1, if_pos h17, if_neg h27, if_neg h42]) dd_Ledger_tryEnd_52
      · refine lv_iconst (v := nI 1) F.1 F.2.1 dd_Ledger_tryEnd_30 (by decide) ?_
        refine lv_goto F.1 F.2.1 dd_Ledger_tryEnd_31 (tgt := 35) rfl ?_
        refine lv_istore F.1 F.2.1 dd_Ledger_tryEnd_35 hl (by decide) (lv' := [(6, .int (nI 1)), (5, .int (nI 1)), (0, .ref (b0 + zp_o 2 i 0)), (1, .ref (b0 + zp_o 2 o 0)), (2, .int (nI c)), (3, .int w), (4, .int h)]) rfl (fun ls hl => ?_)
        refine lv_aload_n F.1 F.2.1 dd_Ledger_tryEnd_37 rfl (lv_at hl 2 rfl) ?_
        refine lv_iload_n F.1 F.2.1 dd_Ledger_tryEnd_38 rfl (lv_at hl 4 rfl) ?_
        refine zw_goi (zw_rV F hE hP (zc_Ledger_stateOf lc G b0 S i c (by first | omega | assumption) (by first | omega | assumption)) zk_Ledger_stateOf za_Ledger_stateOf zb_Ledger_stateOf wl_Ledger_96 ⟨rfl, rfl, Nat.le_of_ble_eq_true rfl, Nat.le_of_ble_eq_true rfl⟩ (zc_recv (t := 2) (i := i) (j := 0) hE hP ⟨by decide, (show i < 2 by omega), (show 0 < 1 by omega)⟩ rfl rfl) hl.1 rfl (Nat.le_of_ble_eq_true rfl) ⟨Nat.zero_le _, Nat.zero_le _⟩ dd_Ledger_tryEnd_39) hS (fun _ h => h) (fun H locs hP _ _ hS => ?_)
        refine lv_if_eq F.1 F.2.1 dd_Ledger_tryEnd_42 (tgt := 53) rfl (fun h42 => ?_) (fun h42 => ?_)
        · refine lv_aload_n F.1 F.2.1 dd_Ledger_tryEnd_53 rfl (lv_at hl 2 rfl) ?_
          refine lv_aload_n F.1 F.2.1 dd_Ledger_tryEnd_54 rfl (lv_at hl 3 rfl) ?_
          refine lv_iload F.1 F.2.1 dd_Ledger_tryEnd_55 (lv_at hl 6 rfl) ?_
          refine lv_iload_n F.1 F.2.1 dd_Ledger_tryEnd_57 rfl (lv_at hl 4 rfl) ?_
          refine lv_iconst (v := nI 1) F.1 F.2.1 dd_Ledger_tryEnd_58 (by decide) ?_
          refine lv_iload F.1 F.2.1 dd_Ledger_tryEnd_59 (lv_at hl 1 rfl) ?_
          refine zw_goi (zw_rV F hE hP (zc_Ledger_proveEnd lc G b0 S i o h c (nI 1) (nI 1) (by first | omega | assumption) (by first | omega | assumption) (by first | omega | assumption) (by assumption)) zk_Ledger_proveEnd za_Ledger_proveEnd zb_Ledger_proveEnd wl_Ledger_107 ⟨rfl, rfl, Nat.le_of_ble_eq_true rfl, Nat.le_of_ble_eq_true rfl⟩ (zc_recv (t := 2) (i := i) (j := 0) hE hP ⟨by decide, (show i < 2 by omega), (show 0 < 1 by omega)⟩ rfl rfl) hl.1 rfl (Nat.le_of_ble_eq_true rfl) ⟨Nat.zero_le _, Nat.zero_le _⟩ dd_Ledger_tryEnd_61) hS (fun _ h => h) (fun H locs hP _ _ hS => ?_)
          refine lv_istore F.1 F.2.1 dd_Ledger_tryEnd_64 hl (by decide) (lv' := [(7, .int (zs_pv S i o h c (nI 2 * (nI 1) + (nI 1)))), (6, .int (nI 1)), (5, .int (nI 1)), (0, .ref (b0 + zp_o 2 i 0)), (1, .ref (b0 + zp_o 2 o 0)), (2, .int (nI c)), (3, .int w), (4, .int h)]) rfl (fun ls hl => ?_)
          refine lv_iload F.1 F.2.1 dd_Ledger_tryEnd_66 (lv_at hl 0 rfl) ?_
          refine lv_if_eq F.1 F.2.1 dd_Ledger_tryEnd_68 (tgt := 74) rfl (fun h68 => ?_) (fun h68 => ?_)
          · refine lv_aload_n F.1 F.2.1 dd_Ledger_tryEnd_74 rfl (lv_at hl 3 rfl) ?_
            refine lv_iload_n F.1 F.2.1 dd_Ledger_tryEnd_75 rfl (lv_at hl 5 rfl) ?_
            refine lv_iconst (v := nI 2) F.1 F.2.1 dd_Ledger_tryEnd_76 (by decide) ?_
            refine lv_iload F.1 F.2.1 dd_Ledger_tryEnd_77 (lv_at hl 2 rfl) ?_
            refine zw_gov (zw_rV F hE hP (zc_Ledger_makeEnd lc G b0 S i c (nI 2) (nI 1) (by first | omega | assumption) (by first | omega | assumption)) zk_Ledger_makeEnd za_Ledger_makeEnd zb_Ledger_makeEnd wl_Ledger_99 ⟨rfl, rfl, Nat.le_of_ble_eq_true rfl, Nat.le_of_ble_eq_true rfl⟩ (zc_recv (t := 2) (i := i) (j := 0) hE hP ⟨by decide, (show i < 2 by omega), (show 0 < 1 by omega)⟩ rfl rfl) hl.1 rfl (Nat.le_of_ble_eq_true rfl) ⟨Nat.zero_le _, Nat.zero_le _⟩ dd_Ledger_tryEnd_79) hS (fun _ h => h) (fun H locs hP _ _ hS => ?_)
            refine lv_iconst (v := nI 0) F.1 F.2.1 dd_Ledger_tryEnd_82 (by decide) ?_
            exact zw_iret F hr hlk hP hS (congrArg (zp_p G b0) (by rw [zu_Ledger_tryEnd, if_neg h1, if_pos h17, if_pos h27, if_pos h42, if_pos h68])) (by rw [zr_Ledger_tryEnd, if_neg h1, if_pos h17, if_pos h27, if_pos h42, if_pos h68]) dd_Ledger_tryEnd_83
          · refine lv_iload F.1 F.2.1 dd_Ledger_tryEnd_71 (lv_at hl 0 rfl) ?_
            exact zw_iret F hr hlk hP hS (congrArg (zp_p G b0) (by rw [zu_Ledger_tryEnd, if_neg h1, if_pos h17, if_pos h27, if_pos h42, if_neg h68])) (by rw [zr_Ledger_tryEnd, if_neg h1, if_pos h17, if_pos h27, if_pos h42, if_neg h68]) dd_Ledger_tryEnd_73
        · refine lv_iload F.1 F.2.1 dd_Ledger_tryEnd_45 (lv_at hl 0 rfl) ?_
          refine lv_if_ne F.1 F.2.1 dd_Ledger_tryEnd_47 (tgt := 53) rfl (fun h47 => ?_) (fun h47 => absurd h47 (by decide))
          refine lv_aload_n F.1 F.2.1 dd_Ledger_tryEnd_53 rfl (lv_at hl 2 rfl) ?_
          refine lv_aload_n F.1 F.2.1 dd_Ledger_tryEnd_54 rfl (lv_at hl 3 rfl) ?_
          refine lv_iload F.1 F.2.1 dd_Ledger_tryEnd_55 (lv_at hl 6 rfl) ?_
          refine lv_iload_n F.1 F.2.1 dd_Ledger_tryEnd_57 rfl (lv_at hl 4 rfl) ?_
          refine lv_iconst (v := nI 1) F.1 F.2.1 dd_Ledger_tryEnd_58 (by decide) ?_
          refine lv_iload F.1 F.2.1 dd_Ledger_tryEnd_59 (lv_at hl 1 rfl) ?_
          refine zw_goi (zw_rV F hE hP (zc_Ledger_proveEnd lc G b0 S i o h c (nI 1) (nI 1) (by first | omega | assumption) (by first | omega | assumption) (by first | omega | assumption) (by assumption)) zk_Ledger_proveEnd za_Ledger_proveEnd zb_Ledger_proveEnd wl_Ledger_107 ⟨rfl, rfl, Nat.le_of_ble_eq_true rfl, Nat.le_of_ble_eq_true rfl⟩ (zc_recv (t := 2) (i := i) (j := 0) hE hP ⟨by decide, (show i < 2 by omega), (show 0 < 1 by omega)⟩ rfl rfl) hl.1 rfl (Nat.le_of_ble_eq_true rfl) ⟨Nat.zero_le _, Nat.zero_le _⟩ dd_Ledger_tryEnd_61) hS (fun _ h => h) (fun H locs hP _ _ hS => ?_)
          refine lv_istore F.1 F.2.1 dd_Ledger_tryEnd_64 hl (by decide) (lv' := [(7, .int (zs_pv S i o h c (nI 2 * (nI 1) + (nI 1)))), (6, .int (nI 1)), (5, .int (nI 1)), (0, .ref (b0 + zp_o 2 i 0)), (1, .ref (b0 + zp_o 2 o 0)), (2, .int (nI c)), (3, .int w), (4, .int h)]) rfl (fun ls hl => ?_)
          refine lv_iload F.1 F.2.1 dd_Ledger_tryEnd_66 (lv_at hl 0 rfl) ?_
          refine lv_if_eq F.1 F.2.1 dd_Ledger_tryEnd_68 (tgt := 74) rfl (fun h68 => ?_) (fun h68 => ?_)
          · refine lv_aload_n F.1 F.2.1 dd_Ledger_tryEnd_74 rfl (lv_at hl 3 rfl) ?_
            refine lv_iload_n F.1 F.2.1 dd_Ledger_tryEnd_75 rfl (lv_at hl 5 rfl) ?_
            refine lv_iconst (v := nI 2) F.1 F.2.1 dd_Ledger_tryEnd_76 (by decide) ?_
            refine lv_iload F.1 F.2.1 dd_Ledger_tryEnd_77 (lv_at hl 2 rfl) ?_
            refine zw_gov (zw_rV F hE hP (zc_Ledger_makeEnd lc G b0 S i c (nI 2) (nI 1) (by first | omega | assumption) (by first | omega | assumption)) zk_Ledger_makeEnd za_Ledger_makeEnd zb_Ledger_makeEnd wl_Ledger_99 ⟨rfl, rfl, Nat.le_of_ble_eq_true rfl, Nat.le_of_ble_eq_true rfl⟩ (zc_recv (t := 2) (i := i) (j := 0) hE hP ⟨by decide, (show i < 2 by omega), (show 0 < 1 by omega)⟩ rfl rfl) hl.1 rfl (Nat.le_of_ble_eq_true rfl) ⟨Nat.zero_le _, Nat.zero_le _⟩ dd_Ledger_tryEnd_79) hS (fun _ h => h) (fun H locs hP _ _ hS => ?_)
            refine lv_iconst (v := nI 0) F.1 F.2.1 dd_Ledger_tryEnd_82 (by decide) ?_
            exact zw_iret F hr hlk hP hS (congrArg (zp_p G b0) (by rw [zu_Ledger_tryEnd, if_neg h1, if_pos h17, if_pos h27, if_neg h42, if_pos h68])) (by rw [zr_Ledger_tryEnd, if_neg h1, if_pos h17, if_pos h27, if_neg h42, if_pos h68]) dd_Ledger_tryEnd_83
          · refine lv_iload F.1 F.2.1 dd_Ledger_tryEnd_71 (lv_at hl 0 rfl) ?_
            exact zw_iret F hr hlk hP hS (congrArg (zp_p G b0) (by rw [zu_Ledger_tryEnd, if_neg h1, if_pos h17, if_pos h27, if_neg h42, if_neg h68])) (by rw [zr_Ledger_tryEnd, if_neg h1, if_pos h17, if_pos h27, if_neg h42, if_neg h68]) dd_Ledger_tryEnd_73
def zr_Ledger_followEnd (S : zs_S) (i : Nat) (o : Nat) (c : Nat) (h : Int32) (x : Int32) (y : Int32) (z : Int32) : Int32 := if zs_st (S 4 i 0 c) = x then (if zs_pv S i o h c (nI 2 * y + (zs_or (S 4 i 0 c))) = 0 then (nI 0) else (zs_pv S i o h c (nI 2 * y + (zs_or (S 4 i 0 c))))) else ((-2))
def zu_Ledger_followEnd (S : zs_S) (i : Nat) (o : Nat) (c : Nat) (h : Int32) (x : Int32) (y : Int32) (z : Int32) : zs_S := if zs_st (S 4 i 0 c) = x then (if zs_pv S i o h c (nI 2 * y + (zs_or (S 4 i 0 c))) = 0 then (zs_u (zs_u S 4 i 0 c (nI 2 * z + zs_or (S 4 i 0 c))) 5 i 0 c (nI 1)) else (S)) else (S)
set_option maxHeartbeats 4000000 in
set_option maxRecDepth 100000 in
theorem zc_Ledger_followEnd (lc : Launch) (G : zw_G) (b0 : Nat) (S : zs_S) (i : Nat) (o : Nat) (c : Nat) (h : Int32) (x : Int32) (y : Int32) (z : Int32) (hi : i < 2) (ho : o < 2) (hc : c < 3) (hB : zs_B S) : zw_M lc ym_Ledger_followEnd bm_Ledger_followEnd 8 (some .int) { frames := 4, cells := 0, slots := 0, locals := 94 } G b0 176 (zp_p G b0 S) [.ref (b0 + zp_o 2 i 0), .ref (b0 + zp_o 2 o 0), .int (nI c), .int h, .int x, .int y, .int z] (zw_Qi G b0 176 (zp_p G b0 (zu_Ledger_followEnd S i o c h x y z)) (zr_Ledger_followEnd S i o c h x y z)) := by
  refine zw_of (by decide) (Nat.le_of_ble_eq_true rfl) ?_
  intro p e s m below meth cx ls F hr hlk hE hP hS hl
  have hl : lv_has ls 8 [(0, .ref (b0 + zp_o 2 i 0)), (1, .ref (b0 + zp_o 2 o 0)), (2, .int (nI c)), (3, .int h), (4, .int x), (5, .int y), (6, .int z)] := hl
  refine lv_aload_n F.1 F.2.1 dd_Ledger_followEnd_0 rfl (lv_at hl 0 rfl) ?_
  refine lv_iload_n F.1 F.2.1 dd_Ledger_followEnd_1 rfl (lv_at hl 2 rfl) ?_
  refine zw_goi (zw_rV F hE hP (zc_Ledger_stateOf lc G b0 S i c (by first | omega | assumption) (by first | omega | assumption)) zk_Ledger_stateOf za_Ledger_stateOf zb_Ledger_stateOf wl_Ledger_96 ⟨rfl, rfl, Nat.le_of_ble_eq_true rfl, Nat.le_of_ble_eq_true rfl⟩ (zc_recv (t := 2) (i := i) (j := 0) hE hP ⟨by decide, (show i < 2 by omega), (show 0 < 1 by omega)⟩ rfl rfl) hl.1 rfl (Nat.le_of_ble_eq_true rfl) ⟨Nat.zero_le _, Nat.zero_le _⟩ dd_Ledger_followEnd_2) hS (fun _ h => h) (fun H locs hP _ _ hS => ?_)
  refine lv_iload F.1 F.2.1 dd_Ledger_followEnd_5 (lv_at hl 4 rfl) ?_
  refine lv_icmp_eq F.1 F.2.1 dd_Ledger_followEnd_7 (tgt := 13) rfl (fun h7 => ?_) (fun h7 => ?_)
  · refine lv_aload_n F.1 F.2.1 dd_Ledger_followEnd_13 rfl (lv_at hl 0 rfl) ?_
    refine lv_aload_n F.1 F.2.1 dd_Ledger_followEnd_14 rfl (lv_at hl 1 rfl) ?_
    refine lv_iload_n F.1 F.2.1 dd_Ledger_followEnd_15 rfl (lv_at hl 3 rfl) ?_
    refine lv_iload_n F.1 F.2.1 dd_Ledger_followEnd_16 rfl (lv_at hl 2 rfl) ?_
    refine lv_iload F.1 F.2.1 dd_Ledger_followEnd_17 (lv_at hl 5 rfl) ?_
    refine lv_aload_n F.1 F.2.1 dd_Ledger_followEnd_19 rfl (lv_at hl 0 rfl) ?_
    refine lv_iload_n F.1 F.2.1 dd_Ledger_followEnd_20 rfl (lv_at hl 2 rfl) ?_
    refine zw_goi (zw_rV F hE hP (zc_Ledger_orderOf lc G b0 S i c (by first | omega | assumption) (by first | omega | assumption)) zk_Ledger_orderOf za_Ledger_orderOf zb_Ledger_orderOf wl_Ledger_70 ⟨rfl, rfl, Nat.le_of_ble_eq_true rfl, Nat.le_of_ble_eq_true rfl⟩ (zc_recv (t := 2) (i := i) (j := 0) hE hP ⟨by decide, (show i < 2 by omega), (show 0 < 1 by omega)⟩ rfl rfl) hl.1 rfl (Nat.le_of_ble_eq_true rfl) ⟨Nat.zero_le _, Nat.zero_le _⟩ dd_Ledger_followEnd_21) hS (fun _ h => h) (fun H locs hP _ _ hS => ?_)
    refine zw_goi (zw_rV F hE hP (zc_Ledger_proveEnd lc G b0 S i o h c y (zs_or (S 4 i 0 c)) (by first | omega | assumption) (by first | omega | assumption) (by first | omega | assumption) (by assumption)) zk_Ledger_proveEnd za_Ledger_proveEnd zb_Ledger_proveEnd wl_Ledger_107 ⟨rfl, rfl, Nat.le_of_ble_eq_true rfl, Nat.le_of_ble_eq_true rfl⟩ (zc_recv (t := 2) (i := i) (j := 0) hE hP ⟨by decide, (show i < 2 by omega), (show 0 < 1 by omega)⟩ rfl rfl) hl.1 rfl (Nat.le_of_ble_eq_true rfl) ⟨Nat.zero_le _, Nat.zero_le _⟩ dd_Ledger_followEnd_24) hS (fun _ h => h) (fun H locs hP _ _ hS => ?_)
    refine lv_istore F.1 F.2.1 dd_Ledger_followEnd_27 hl (by decide) (lv' := [(7, .int (zs_pv S i o h c (nI 2 * y + (zs_or (S 4 i 0 c))))), (0, .ref (b0 + zp_o 2 i 0)), (1, .ref (b0 + zp_o 2 o 0)), (2, .int (nI c)), (3, .int h), (4, .int x), (5, .int y), (6, .int z)]) rfl (fun ls hl => ?_)
    refine lv_iload F.1 F.2.1 dd_Ledger_followEnd_29 (lv_at hl 0 rfl) ?_
    refine lv_if_eq F.1 F.2.1 dd_Ledger_followEnd_31 (tgt := 37) rfl (fun h31 => ?_) (fun h31 => ?_)
    · refine lv_aload_n F.1 F.2.1 dd_Ledger_followEnd_37 rfl (lv_at hl 1 rfl) ?_
      refine lv_iload_n F.1 F.2.1 dd_Ledger_followEnd_38 rfl (lv_at hl 3 rfl) ?_
      refine lv_iload F.1 F.2.1 dd_Ledger_followEnd_39 (lv_at hl 7 rfl) ?_
      refine zw_gov (zw_rV F hE hP (zc_Ledger_moveEnd lc G b0 S i c z (by first | omega | assumption) (by first | omega | assumption)) zk_Ledger_moveEnd za_Ledger_moveEnd zb_Ledger_moveEnd wl_Ledger_111 ⟨rfl, rfl, Nat.le_of_ble_eq_true rfl, Nat.le_of_ble_eq_true rfl⟩ (zc_recv (t := 2) (i := i) (j := 0) hE hP ⟨by decide, (show i < 2 by omega), (show 0 < 1 by omega)⟩ rfl rfl) hl.1 rfl (Nat.le_of_ble_eq_true rfl) ⟨Nat.zero_le _, Nat.zero_le _⟩ dd_Ledger_followEnd_41) hS (fun _ h => h) (fun H locs hP _ _ hS => ?_)
      refine lv_iconst (v := nI 0) F.1 F.2.1 dd_Ledger_followEnd_44 (by decide) ?_
      exact zw_iret F hr hlk hP hS (congrArg (zp_p G b0) (by rw [zu_Ledger_followEnd, if_pos h7, if_pos h31])) (by rw [zr_Ledger_followEnd, if_pos h7, if_pos h31]) dd_Ledger_followEnd_45
    · refine lv_iload F.1 F.2.1 dd_Ledger_followEnd_34 (lv_at hl 0 rfl) ?_
      exact zw_iret F hr hlk hP hS (congrArg (zp_p G b0) (by rw [zu_Ledger_followEnd, if_pos h7, if_neg h31])) (by rw [zr_Ledger_followEnd, if_pos h7, if_neg h31]) dd_Ledger_followEnd_36
  · refine lv_bipush (v := (-2)) F.1 F.2.1 dd_Ledger_followEnd_10 (by decide) ?_
    exact zw_iret F hr hlk hP hS (congrArg (zp_p G b0) (by rw [zu_Ledger_followEnd, if_neg h7])) (by rw [zr_Ledger_followEnd, if_neg h7]) dd_Ledger_followEnd_12
def zr_Ledger_closeEnd (S : zs_S) (i : Nat) (c : Nat) : Int32 := if zs_st (S 4 i 0 c) = nI 3 then (nI 0) else ((-2))
def zu_Ledger_closeEnd (S : zs_S) (i : Nat) (c : Nat) : zs_S := if zs_st (S 4 i 0 c) = nI 3 then (zs_u (zs_u S 4 i 0 c (nI 2 * (nI 4) + zs_or (S 4 i 0 c))) 5 i 0 c (nI 1)) else (S)
set_option maxHeartbeats 4000000 in
set_option maxRecDepth 100000 in
theorem zc_Ledger_closeEnd (lc : Launch) (G : zw_G) (b0 : Nat) (S : zs_S) (i : Nat) (c : Nat) (hi : i < 2) (hc : c < 3) : zw_M lc ym_Ledger_closeEnd bm_Ledger_closeEnd 2 (some .int) { frames := 3, cells := 0, slots := 0, locals := 64 } G b0 176 (zp_p G b0 S) [.ref (b0 + zp_o 2 i 0), .int (nI c)] (zw_Qi G b0 176 (zp_p G b0 (zu_Ledger_closeEnd S i c)) (zr_Ledger_closeEnd S i c)) := by
  refine zw_of (by decide) (Nat.le_of_ble_eq_true rfl) ?_
  intro p e s m below meth cx ls F hr hlk hE hP hS hl
  have hl : lv_has ls 2 [(0, .ref (b0 + zp_o 2 i 0)), (1, .int (nI c))] := hl
  refine lv_aload_n F.1 F.2.1 dd_Ledger_closeEnd_0 rfl (lv_at hl 0 rfl) ?_
  refine lv_iload_n F.1 F.2.1 dd_Ledger_closeEnd_1 rfl (lv_at hl 1 rfl) ?_
  refine zw_goi (zw_rV F hE hP (zc_Ledger_stateOf lc G b0 S i c (by first | omega | assumption) (by first | omega | assumption)) zk_Ledger_stateOf za_Ledger_stateOf zb_Ledger_stateOf wl_Ledger_96 ⟨rfl, rfl, Nat.le_of_ble_eq_true rfl, Nat.le_of_ble_eq_true rfl⟩ (zc_recv (t := 2) (i := i) (j := 0) hE hP ⟨by decide, (show i < 2 by omega), (show 0 < 1 by omega)⟩ rfl rfl) hl.1 rfl (Nat.le_of_ble_eq_true rfl) ⟨Nat.zero_le _, Nat.zero_le _⟩ dd_Ledger_closeEnd_2) hS (fun _ h => h) (fun H locs hP _ _ hS => ?_)
  refine lv_iconst (v := nI 3) F.1 F.2.1 dd_Ledger_closeEnd_5 (by decide) ?_
  refine lv_icmp_eq F.1 F.2.1 dd_Ledger_closeEnd_6 (tgt := 12) rfl (fun h6 => ?_) (fun h6 => ?_)
  · refine lv_aload_n F.1 F.2.1 dd_Ledger_closeEnd_12 rfl (lv_at hl 0 rfl) ?_
    refine lv_iload_n F.1 F.2.1 dd_Ledger_closeEnd_13 rfl (lv_at hl 1 rfl) ?_
    refine lv_iconst (v := nI 4) F.1 F.2.1 dd_Ledger_closeEnd_14 (by decide) ?_
    refine zw_gov (zw_rV F hE hP (zc_Ledger_moveEnd lc G b0 S i c (nI 4) (by first | omega | assumption) (by first | omega | assumption)) zk_Ledger_moveEnd za_Ledger_moveEnd zb_Ledger_moveEnd wl_Ledger_111 ⟨rfl, rfl, Nat.le_of_ble_eq_true rfl, Nat.le_of_ble_eq_true rfl⟩ (zc_recv (t := 2) (i := i) (j := 0) hE hP ⟨by decide, (show i < 2 by omega), (show 0 < 1 by omega)⟩ rfl rfl) hl.1 rfl (Nat.le_of_ble_eq_true rfl) ⟨Nat.zero_le _, Nat.zero_le _⟩ dd_Ledger_closeEnd_15) hS (fun _ h => h) (fun H locs hP _ _ hS => ?_)
    refine lv_iconst (v := nI 0) F.1 F.2.1 dd_Ledger_closeEnd_18 (by decide) ?_
    exact zw_iret F hr hlk hP hS (congrArg (zp_p G b0) (by rw [zu_Ledger_closeEnd, if_pos h6])) (by rw [zr_Ledger_closeEnd, if_pos h6]) dd_Ledger_closeEnd_19
  · refine lv_bipush (v := (-2)) F.1 F.2.1 dd_Ledger_closeEnd_9 (by decide) ?_
    exact zw_iret F hr hlk hP hS (congrArg (zp_p G b0) (by rw [zu_Ledger_closeEnd, if_neg h6])) (by rw [zr_Ledger_closeEnd, if_neg h6]) dd_Ledger_closeEnd_11
def zr_Ledger_sendPacket (S : zs_S) (i : Nat) (c : Nat) (w : Nat) (k : Nat) (a : Int32) (x : Int32) : Int32 := if zs_st (S 4 i 0 c) = nI 3 then (if 12 ≤ zs_n (S 18 i c 0) then ((-7)) else (if a ≤ S 12 i (w / 4) k then (nI ((zs_n (S 18 i c 0)) + 1)) else ((-7)))) else ((-2))
def zu_Ledger_sendPacket (S : zs_S) (i : Nat) (c : Nat) (w : Nat) (k : Nat) (a : Int32) (x : Int32) : zs_S := if zs_st (S 4 i 0 c) = nI 3 then (if 12 ≤ zs_n (S 18 i c 0) then (S) else (if a ≤ S 12 i (w / 4) k then (zs_u (zs_u (zs_u (zs_u (zs_u (zs_u (zs_u (zs_u (zs_u (zs_u (zs_u S 20 i (12 * c + (zs_n (S 18 i c 0))) 0 (nI k)) 20 i (12 * c + (zs_n (S 18 i c 0))) 1 a) 20 i (12 * c + (zs_n (S 18 i c 0))) 2 (nI (w / 4))) 20 i (12 * c + (zs_n (S 18 i c 0))) 3 (nI (w % 4))) 20 i (12 * c + (zs_n (S 18 i c 0))) 4 ((S 8 i 0 0) + x)) 20 i (12 * c + (zs_n (S 18 i c 0))) 5 (zs_bb (S 16 i 0) (S 15 i 0) k c)) 18 i c 0 (nI ((zs_n (S 18 i c 0)) + 1))) 12 i (w / 4) k (S 12 i (w / 4) k - a)) 14 i c k (if (zs_bb (S 16 i 0) (S 15 i 0) k c) ≤ 0 then S 14 i c k + a else S 14 i c k)) 4 i 0 (6 + 12 * c + (zs_n (S 18 i c 0))) (zs_print ((zs_u (zs_u (zs_u (zs_u (zs_u (zs_u (zs_u (zs_u (zs_u S 20 i (12 * c + (zs_n (S 18 i c 0))) 0 (nI k)) 20 i (12 * c + (zs_n (S 18 i c 0))) 1 a) 20 i (12 * c + (zs_n (S 18 i c 0))) 2 (nI (w / 4))) 20 i (12 * c + (zs_n (S 18 i c 0))) 3 (nI (w % 4))) 20 i (12 * c + (zs_n (S 18 i c 0))) 4 ((S 8 i 0 0) + x)) 20 i (12 * c + (zs_n (S 18 i c 0))) 5 (zs_bb (S 16 i 0) (S 15 i 0) k c)) 18 i c 0 (nI ((zs_n (S 18 i c 0)) + 1))) 12 i (w / 4) k (S 12 i (w / 4) k - a)) 14 i c k (if (zs_bb (S 16 i 0) (S 15 i 0) k c) ≤ 0 then S 14 i c k + a else S 14 i c k)) 20 i (12 * c + (zs_n (S 18 i c 0)))) (nI 0))) 5 i 0 (6 + 12 * c + (zs_n (S 18 i c 0))) (nI 1)) else (S))) else (S)
set_option maxHeartbeats 4000000 in
set_option maxRecDepth 100000 in
theorem zc_Ledger_sendPacket (lc : Launch) (G : zw_G) (b0 : Nat) (S : zs_S) (i : Nat) (c : Nat) (w : Nat) (k : Nat) (a : Int32) (x : Int32) (hi : i < 2) (hc : c < 3) (hw : w < 16) (hk : k < 6) (hn : S 18 i c 0 = nI (zs_n (S 18 i c 0))) (hn2 : zs_n (S 18 i c 0) ≤ 12) : zw_M lc ym_Ledger_sendPacket bm_Ledger_sendPacket 9 (some .int) { frames := 2, cells := 0, slots := 0, locals := 44 } G b0 176 (zp_p G b0 S) [.ref (b0 + zp_o 2 i 0), .int (nI c), .int (nI w), .int (nI k), .int a, .int x] (zw_Qi G b0 176 (zp_p G b0 (zu_Ledger_sendPacket S i c w k a x)) (zr_Ledger_sendPacket S i c w k a x)) := by
  refine zw_of (by decide) (Nat.le_of_ble_eq_true rfl) ?_
  intro p e s m below meth cx ls F hr hlk hE hP hS hl
  have hl : lv_has ls 9 [(0, .ref (b0 + zp_o 2 i 0)), (1, .int (nI c)), (2, .int (nI w)), (3, .int (nI k)), (4, .int a), (5, .int x)] := hl
  refine lv_aload_n F.1 F.2.1 dd_Ledger_sendPacket_0 rfl (lv_at hl 0 rfl) ?_
  refine lv_iload_n F.1 F.2.1 dd_Ledger_sendPacket_1 rfl (lv_at hl 1 rfl) ?_
  refine zw_goi (zw_rV F hE hP (zc_Ledger_stateOf lc G b0 S i c (by first | omega | assumption) (by first | omega | assumption)) zk_Ledger_stateOf za_Ledger_stateOf zb_Ledger_stateOf wl_Ledger_96 ⟨rfl, rfl, Nat.le_of_ble_eq_true rfl, Nat.le_of_ble_eq_true rfl⟩ (zc_recv (t := 2) (i := i) (j := 0) hE hP ⟨by decide, (show i < 2 by omega), (show 0 < 1 by omega)⟩ rfl rfl) hl.1 rfl (Nat.le_of_ble_eq_true rfl) ⟨Nat.zero_le _, Nat.zero_le _⟩ dd_Ledger_sendPacket_2) hS (fun _ h => h) (fun H locs hP _ _ hS => ?_)
  refine lv_iconst (v := nI 3) F.1 F.2.1 dd_Ledger_sendPacket_5 (by decide) ?_
  refine lv_icmp_eq F.1 F.2.1 dd_Ledger_sendPacket_6 (tgt := 12) rfl (fun h6 => ?_) (fun h6 => ?_)
  · refine lv_aload_n F.1 F.2.1 dd_Ledger_sendPacket_12 rfl (lv_at hl 0 rfl) ?_
    refine zc_gF (t := 2) (i := i) (j := 0) F hE hP ⟨by decide, (show i < 2 by omega), (show 0 < 1 by omega)⟩ rfl rfl zi_Ledger 5 (by decide) rfl wf_Ledger_42 rfl dd_Ledger_sendPacket_13 ?_
    refine lv_iload_n F.1 F.2.1 dd_Ledger_sendPacket_16 rfl (lv_at hl 1 rfl) ?_
    refine zc_aald (t := 17) (i := i) (j := 0) (k := c) (N := 3) (z := 4) (a := (b0 + zp_o 18 i c)) F hE hP ⟨by decide, (show i < 2 by omega), (show 0 < 1 by omega)⟩ rfl rfl rfl (by omega) (by decide) rfl dd_Ledger_sendPacket_17 ?_
    refine lv_astore F.1 F.2.1 dd_Ledger_sendPacket_18 hl (by decide) (lv' := [(6, .ref (b0 + zp_o 18 i c)), (0, .ref (b0 + zp_o 2 i 0)), (1, .int (nI c)), (2, .int (nI w)), (3, .int (nI k)), (4, .int a), (5, .int x)]) rfl (fun ls hl => ?_)
    refine lv_iload_n F.1 F.2.1 dd_Ledger_sendPacket_20 rfl (lv_at hl 3 rfl) ?_
    refine lv_iconst (v := nI 4) F.1 F.2.1 dd_Ledger_sendPacket_21 (by decide) ?_
    refine zn_idiv F dd_Ledger_sendPacket_22 (by omega) (by decide) (by decide) ?_
    refine lv_istore F.1 F.2.1 dd_Ledger_sendPacket_23 hl (by decide) (lv' := [(7, .int (nI (w / 4))), (6, .ref (b0 + zp_o 18 i c)), (0, .ref (b0 + zp_o 2 i 0)), (1, .int (nI c)), (2, .int (nI w)), (3, .int (nI k)), (4, .int a), (5, .int x)]) rfl (fun ls hl => ?_)
    refine lv_aload F.1 F.2.1 dd_Ledger_sendPacket_25 (lv_at hl 1 rfl) ?_
    refine zc_gN (t := 18) (i := i) (j := c) F hE hP ⟨by decide, (show i < 2 by omega), (show c < 3 by omega)⟩ rfl rfl zi_End 1 (by decide) rfl wf_Ledger_114 rfl dd_Ledger_sendPacket_27 ?_
    refine zn_top (y := nI (zs_n (S 18 i c 0))) (hn) ?_
    refine lv_bipush (v := nI 12) F.1 F.2.1 dd_Ledger_sendPacket_30 (by decide) ?_
    refine zn_cge F dd_Ledger_sendPacket_32 (tgt := 52) rfl (by omega) (by omega) (fun h32 => ?_) (fun h32 => ?_)
    · refine lv_bipush (v := (-7)) F.1 F.2.1 dd_Ledger_sendPacket_52 (by decide) ?_
      exact zw_iret F hr hlk hP hS (congrArg (zp_p G b0) (by rw [zu_Ledger_sendPacket, if_pos h6, if_pos h32])) (by rw [zr_Ledger_sendPacket, if_pos h6, if_pos h32]) dd_Ledger_sendPacket_54
    · refine lv_aload_n F.1 F.2.1 dd_Ledger_sendPacket_35 rfl (lv_at hl 2 rfl) ?_
      refine zc_gF (t := 2) (i := i) (j := 0) F hE hP ⟨by decide, (show i < 2 by omega), (show 0 < 1 by omega)⟩ rfl rfl zi_Ledger 4 (by decide) rfl wf_Ledger_36 rfl dd_Ledger_sendPacket_36 ?_
      refine zc_gN (t := 10) (i := i) (j := 0) F hE hP ⟨by decide, (show i < 2 by omega), (show 0 < 1 by omega)⟩ rfl rfl zi_Bank 0 (by decide) rfl wf_Ledger_117 rfl dd_Ledger_sendPacket_39 ?_
      refine lv_iload F.1 F.2.1 dd_Ledger_sendPacket_42 (lv_at hl 0 rfl) ?_
      refine zc_aald (t := 11) (i := i) (j := 0) (k := w / 4) (N := 4) (z := 6) (a := (b0 + zp_o 12 i (w / 4))) F hE hP ⟨by decide, (show i < 2 by omega), (show 0 < 1 by omega)⟩ rfl rfl rfl (by omega) (by decide) rfl dd_Ledger_sendPacket_44 ?_
      refine lv_iload_n F.1 F.2.1 dd_Ledger_sendPacket_45 rfl (lv_at hl 5 rfl) ?_
      refine zc_iald (t := 12) (i := i) (j := w / 4) (k := k) (N := 6) F hE hP ⟨by decide, (show i < 2 by omega), (show w / 4 < 4 by omega)⟩ (fun _ => rfl) (by omega) (by decide) dd_Ledger_sendPacket_46 ?_
      refine lv_iload F.1 F.2.1 dd_Ledger_sendPacket_47 (lv_at hl 6 rfl) ?_
      refine lv_icmp_ge F.1 F.2.1 dd_Ledger_sendPacket_49 (tgt := 55) rfl (fun h49 => ?_) (fun h49 => ?_)
      · refine lv_aload F.1 F.2.1 dd_Ledger_sendPacket_55 (lv_at hl 1 rfl) ?_
        refine zc_gN (t := 18) (i := i) (j := c) F hE hP ⟨by decide, (show i < 2 by omega), (show c < 3 by omega)⟩ rfl rfl zi_End 0 (by decide) rfl wf_Ledger_121 rfl dd_Ledger_sendPacket_57 ?_
        refine lv_aload F.1 F.2.1 dd_Ledger_sendPacket_60 (lv_at hl 1 rfl) ?_
        refine zc_gN (t := 18) (i := i) (j := c) F hE hP ⟨by decide, (show i < 2 by omega), (show c < 3 by omega)⟩ rfl rfl zi_End 1 (by decide) rfl wf_Ledger_114 rfl dd_Ledger_sendPacket_62 ?_
        refine zn_top (y := nI (zs_n (S 18 i c 0))) (hn) ?_
        refine zc_aald (t := 19) (i := i) (j := c) (k := zs_n (S 18 i c 0)) (N := 12) (z := 5) (a := (b0 + zp_o 20 i (12 * c + (zs_n (S 18 i c 0))))) F hE hP ⟨by decide, (show i < 2 by omega), (show c < 3 by omega)⟩ rfl rfl rfl (by omega) (by decide) rfl dd_Ledger_sendPacket_65 ?_
        refine lv_astore F.1 F.2.1 dd_Ledger_sendPacket_66 hl (by decide) (lv' := [(8, .ref (b0 + zp_o 20 i (12 * c + (zs_n (S 18 i c 0))))), (7, .int (nI (w / 4))), (6, .ref (b0 + zp_o 18 i c)), (0, .ref (b0 + zp_o 2 i 0)), (1, .int (nI c)), (2, .int (nI w)), (3, .int (nI k)), (4, .int a), (5, .int x)]) rfl (fun ls hl => ?_)
        refine lv_aload F.1 F.2.1 dd_Ledger_sendPacket_68 (lv_at hl 0 rfl) ?_
        refine lv_iload_n F.1 F.2.1 dd_Ledger_sendPacket_70 rfl (lv_at hl 6 rfl) ?_
        refine zc_pN (t := 20) (i := i) (j := 12 * c + (zs_n (S 18 i c 0))) (kf := 0) F hE hP hS (fun _ h => h) ⟨by decide, (show i < 2 by omega), (show 12 * c + (zs_n (S 18 i c 0)) < 36 by omega)⟩ rfl rfl zi_Packet zy_Packet zj_Packet zl_Packet 0 (by decide) rfl rfl wf_Ledger_125 (by decide +kernel) (Nat.le_of_ble_eq_true rfl) rfl dd_Ledger_sendPacket_71 (fun H locs hP hS => ?_)
        refine lv_aload F.1 F.2.1 dd_Ledger_sendPacket_74 (lv_at hl 0 rfl) ?_
        refine lv_iload F.1 F.2.1 dd_Ledger_sendPacket_76 (lv_at hl 7 rfl) ?_
        refine zc_pN (t := 20) (i := i) (j := 12 * c + (zs_n (S 18 i c 0))) (kf := 1) F hE hP hS (fun _ h => h) ⟨by decide, (show i < 2 by omega), (show 12 * c + (zs_n (S 18 i c 0)) < 36 by omega)⟩ rfl rfl zi_Packet zy_Packet zj_Packet zl_Packet 1 (by decide) rfl rfl wf_Ledger_130 (by decide +kernel) (Nat.le_of_ble_eq_true rfl) rfl dd_Ledger_sendPacket_78 (fun H locs hP hS => ?_)
        refine lv_aload F.1 F.2.1 dd_Ledger_sendPacket_81 (lv_at hl 0 rfl) ?_
        refine lv_iload F.1 F.2.1 dd_Ledger_sendPacket_83 (lv_at hl 1 rfl) ?_
        refine zc_pN (t := 20) (i := i) (j := 12 * c + (zs_n (S 18 i c 0))) (kf := 2) F hE hP hS (fun _ h => h) ⟨by decide, (show i < 2 by omega), (show 12 * c + (zs_n (S 18 i c 0)) < 36 by omega)⟩ rfl rfl zi_Packet zy_Packet zj_Packet zl_Packet 2 (by decide) rfl rfl wf_Ledger_133 (by decide +kernel) (Nat.le_of_ble_eq_true rfl) rfl dd_Ledger_sendPacket_85 (fun H locs hP hS => ?_)
        refine lv_aload F.1 F.2.1 dd_Ledger_sendPacket_88 (lv_at hl 0 rfl) ?_
        refine lv_iload_n F.1 F.2.1 dd_Ledger_sendPacket_90 rfl (lv_at hl 5 rfl) ?_
        refine lv_iconst (v := nI 4) F.1 F.2.1 dd_Ledger_sendPacket_91 (by decide) ?_
        refine zn_irem F dd_Ledger_sendPacket_92 (by omega) (by decide) (by decide) ?_
        refine zc_pN (t := 20) (i := i) (j := 12 * c + (zs_n (S 18 i c 0))) (kf := 3) F hE hP hS (fun _ h => h) ⟨by decide, (show i < 2 by omega), (show 12 * c + (zs_n (S 18 i c 0)) < 36 by omega)⟩ rfl rfl zi_Packet zy_Packet zj_Packet zl_Packet 3 (by decide) rfl rfl wf_Ledger_136 (by decide +kernel) (Nat.le_of_ble_eq_true rfl) rfl dd_Ledger_sendPacket_93 (fun H locs hP hS => ?_)
        refine lv_aload F.1 F.2.1 dd_Ledger_sendPacket_96 (lv_at hl 0 rfl) ?_
        refine lv_aload_n F.1 F.2.1 dd_Ledger_sendPacket_98 rfl (lv_at hl 3 rfl) ?_
        refine zc_gF (t := 2) (i := i) (j := 0) F hE hP ⟨by decide, (show i < 2 by omega), (show 0 < 1 by omega)⟩ rfl rfl zi_Ledger 3 (by decide) rfl wf_Ledger_29 rfl dd_Ledger_sendPacket_99 ?_
        refine zc_gN (t := 8) (i := i) (j := 0) F hE hP ⟨by decide, (show i < 2 by omega), (show 0 < 1 by omega)⟩ rfl rfl zi_Client 1 (by decide) rfl wf_Ledger_139 rfl dd_Ledger_sendPacket_102 ?_
        refine zn_top (y := S 8 i 0 0) (by rw [zs_ut (by decide), zs_ut (by decide), zs_ut (by decide), zs_ut (by decide)]) ?_
        refine lv_iload F.1 F.2.1 dd_Ledger_sendPacket_105 (lv_at hl 8 rfl) ?_
        refine lv_iadd F.1 F.2.1 dd_Ledger_sendPacket_107 ?_
        refine zc_pN (t := 20) (i := i) (j := 12 * c + (zs_n (S 18 i c 0))) (kf := 4) F hE hP hS (fun _ h => h) ⟨by decide, (show i < 2 by omega), (show 12 * c + (zs_n (S 18 i c 0)) < 36 by omega)⟩ rfl rfl zi_Packet zy_Packet zj_Packet zl_Packet 4 (by decide) rfl rfl wf_Ledger_142 (by decide +kernel) (Nat.le_of_ble_eq_true rfl) rfl dd_Ledger_sendPacket_108 (fun H locs hP hS => ?_)
        refine lv_aload F.1 F.2.1 dd_Ledger_sendPacket_111 (lv_at hl 0 rfl) ?_
        refine lv_aload_n F.1 F.2.1 dd_Ledger_sendPacket_113 rfl (lv_at hl 3 rfl) ?_
        refine zc_gF (t := 2) (i := i) (j := 0) F hE hP ⟨by decide, (show i < 2 by omega), (show 0 < 1 by omega)⟩ rfl rfl zi_Ledger 4 (by decide) rfl wf_Ledger_36 rfl dd_Ledger_sendPacket_114 ?_
        refine lv_iload_n F.1 F.2.1 dd_Ledger_sendPacket_117 rfl (lv_at hl 6 rfl) ?_
        refine lv_iload_n F.1 F.2.1 dd_Ledger_sendPacket_118 rfl (lv_at hl 4 rfl) ?_
        refine zw_goi (zw_rV F hE hP (zc_Bank_backBy lc G b0 (zs_u (zs_u (zs_u (zs_u (zs_u S 20 i (12 * c + (zs_n (S 18 i c 0))) 0 (nI k)) 20 i (12 * c + (zs_n (S 18 i c 0))) 1 a) 20 i (12 * c + (zs_n (S 18 i c 0))) 2 (nI (w / 4))) 20 i (12 * c + (zs_n (S 18 i c 0))) 3 (nI (w % 4))) 20 i (12 * c + (zs_n (S 18 i c 0))) 4 ((S 8 i 0 0) + x)) i k c (by first | omega | assumption) (by first | omega | assumption)) zk_Bank_backBy za_Bank_backBy zb_Bank_backBy wl_Ledger_145 ⟨rfl, rfl, Nat.le_of_ble_eq_true rfl, Nat.le_of_ble_eq_true rfl⟩ (zc_recv (t := 10) (i := i) (j := 0) hE hP ⟨by decide, (show i < 2 by omega), (show 0 < 1 by omega)⟩ rfl rfl) hl.1 rfl (Nat.le_of_ble_eq_true rfl) ⟨Nat.zero_le _, Nat.zero_le _⟩ dd_Ledger_sendPacket_119) hS (fun _ h => h) (fun H locs hP _ _ hS => ?_)
        refine zn_top (y := zs_bb (S 16 i 0) (S 15 i 0) k c) (by rw [zs_uother (fun q => absurd q.1 (by decide))]; rw [zs_uother (fun q => absurd q.1 (by decide))]; rw [zs_uother (fun q => absurd q.1 (by decide))]; rw [zs_uother (fun q => absurd q.1 (by decide))]; rw [zs_uother (fun q => absurd q.1 (by decide))]; rw [zs_uother (fun q => absurd q.1 (by decide))]; rw [zs_uother (fun q => absurd q.1 (by decide))]; rw [zs_uother (fun q => absurd q.1 (by decide))]; rw [zs_uother (fun q => absurd q.1 (by decide))]; rw [zs_uother (fun q => absurd q.1 (by decide))]) ?_
        refine zc_pN (t := 20) (i := i) (j := 12 * c + (zs_n (S 18 i c 0))) (kf := 5) F hE hP hS (fun _ h => h) ⟨by decide, (show i < 2 by omega), (show 12 * c + (zs_n (S 18 i c 0)) < 36 by omega)⟩ rfl rfl zi_Packet zy_Packet zj_Packet zl_Packet 5 (by decide) rfl rfl wf_Ledger_148 (by decide +kernel) (Nat.le_of_ble_eq_true rfl) rfl dd_Ledger_sendPacket_122 (fun H locs hP hS => ?_)
        refine lv_aload F.1 F.2.1 dd_Ledger_sendPacket_125 (lv_at hl 2 rfl) ?_
        refine lv_dup F.1 F.2.1 dd_Ledger_sendPacket_127 rfl ?_
        refine zc_gN (t := 18) (i := i) (j := c) F hE hP ⟨by decide, (show i < 2 by omega), (show c < 3 by omega)⟩ rfl rfl zi_End 1 (by decide) rfl wf_Ledger_114 rfl dd_Ledger_sendPacket_128 ?_
        refine zn_top (y := S 18 i c 0) (by rw [zs_ut (by decide), zs_ut (by decide), zs_ut (by decide), zs_ut (by decide), zs_ut (by decide), zs_ut (by decide)]) ?_
        refine zn_top (y := nI (zs_n (S 18 i c 0))) (hn) ?_
        refine lv_iconst (v := nI 1) F.1 F.2.1 dd_Ledger_sendPacket_131 (by decide) ?_
        refine zn_iadd F dd_Ledger_sendPacket_132 ?_
        refine zc_pN (t := 18) (i := i) (j := c) (kf := 0) F hE hP hS (fun _ h => h) ⟨by decide, (show i < 2 by omega), (show c < 3 by omega)⟩ rfl rfl zi_End zy_End zj_End zl_End 1 (by decide) rfl rfl wf_Ledger_114 (by decide +kernel) (Nat.le_of_ble_eq_true rfl) rfl dd_Ledger_sendPacket_133 (fun H locs hP hS => ?_)
        refine lv_aload_n F.1 F.2.1 dd_Ledger_sendPacket_136 rfl (lv_at hl 3 rfl) ?_
        refine zc_gF (t := 2) (i := i) (j := 0) F hE hP ⟨by decide, (show i < 2 by omega), (show 0 < 1 by omega)⟩ rfl rfl zi_Ledger 4 (by decide) rfl wf_Ledger_36 rfl dd_Ledger_sendPacket_137 ?_
        refine lv_aload F.1 F.2.1 dd_Ledger_sendPacket_140 (lv_at hl 0 rfl) ?_
        refine lv_iload_n F.1 F.2.1 dd_Ledger_sendPacket_142 rfl (lv_at hl 4 rfl) ?_
        refine zw_gov (zw_rV F hE hP (zc_Bank_charge lc G b0 (zs_u (zs_u (zs_u (zs_u (zs_u (zs_u (zs_u S 20 i (12 * c + (zs_n (S 18 i c 0))) 0 (nI k)) 20 i (12 * c + (zs_n (S 18 i c 0))) 1 a) 20 i (12 * c + (zs_n (S 18 i c 0))) 2 (nI (w / 4))) 20 i (12 * c + (zs_n (S 18 i c 0))) 3 (nI (w % 4))) 20 i (12 * c + (zs_n (S 18 i c 0))) 4 ((S 8 i 0 0) + x)) 20 i (12 * c + (zs_n (S 18 i c 0))) 5 (zs_bb (S 16 i 0) (S 15 i 0) k c)) 18 i c 0 (nI ((zs_n (S 18 i c 0)) + 1))) i (12 * c + (zs_n (S 18 i c 0))) c (w / 4) k (by first | omega | assumption) (by first | omega | assumption) (by first | omega | assumption) (by first | omega | assumption) (by first | omega | assumption) (by first | assumption | (rw [zs_ut (by decide)]; rw [zs_uk (by decide)]; rw [zs_uk (by decide)]; rw [zs_uk (by decide)]; rw [zs_us]; first | done | assumption | rfl)) (by first | assumption | (rw [zs_ut (by decide)]; rw [zs_uk (by decide)]; rw [zs_uk (by decide)]; rw [zs_uk (by decide)]; rw [zs_uk (by decide)]; rw [zs_uk (by decide)]; rw [zs_us]; first | done | assumption | rfl))) zk_Bank_charge za_Bank_charge zb_Bank_charge wl_Ledger_151 ⟨rfl, rfl, Nat.le_of_ble_eq_true rfl, Nat.le_of_ble_eq_true rfl⟩ (zc_recv (t := 10) (i := i) (j := 0) hE hP ⟨by decide, (show i < 2 by omega), (show 0 < 1 by omega)⟩ rfl rfl) hl.1 rfl (Nat.le_of_ble_eq_true rfl) ⟨Nat.zero_le _, Nat.zero_le _⟩ dd_Ledger_sendPacket_143) hS (fun _ h => h) (fun H locs hP _ _ hS => ?_)
        rw [zs_ut (by decide)] at hP
        rw [zs_ut (by decide)] at hP
        rw [zs_ut (by decide)] at hP
        rw [zs_ut (by decide)] at hP
        rw [zs_ut (by decide)] at hP
        rw [zs_ut (by decide)] at hP
        rw [zs_ut (by decide)] at hP
        rw [zs_ut (by decide)] at hP
        rw [zs_uk (by decide)] at hP
        rw [zs_uk (by decide)] at hP
        rw [zs_uk (by decide)] at hP
        rw [zs_uk (by decide)] at hP
        rw [zs_us] at hP
        rw [zs_ut (by decide)] at hP
        rw [zs_us] at hP
        rw [zs_ut (by decide)] at hP
        rw [zs_ut (by decide)] at hP
        rw [zs_ut (by decide)] at hP
        rw [zs_ut (by decide)] at hP
        rw [zs_ut (by decide)] at hP
        rw [zs_ut (by decide)] at hP
        rw [zs_ut (by decide)] at hP
        refine lv_aload_n F.1 F.2.1 dd_Ledger_sendPacket_146 rfl (lv_at hl 3 rfl) ?_
        refine zc_gF (t := 2) (i := i) (j := 0) F hE hP ⟨by decide, (show i < 2 by omega), (show 0 < 1 by omega)⟩ rfl rfl zi_Ledger 0 (by decide) rfl wf_Ledger_12 rfl dd_Ledger_sendPacket_147 ?_
        refine lv_iload_n F.1 F.2.1 dd_Ledger_sendPacket_150 rfl (lv_at hl 4 rfl) ?_
        refine lv_aload F.1 F.2.1 dd_Ledger_sendPacket_151 (lv_at hl 2 rfl) ?_
        refine zc_gN (t := 18) (i := i) (j := c) F hE hP ⟨by decide, (show i < 2 by omega), (show c < 3 by omega)⟩ rfl rfl zi_End 1 (by decide) rfl wf_Ledger_114 rfl dd_Ledger_sendPacket_153 ?_
        refine zn_top (y := nI ((zs_n (S 18 i c 0)) + 1)) (by rw [zs_ut (by decide), zs_ut (by decide), zs_us]) ?_
        refine zw_goi (zw_rS F hE hP (zc_Store_printSlot lc G b0 (zs_u (zs_u (zs_u (zs_u (zs_u (zs_u (zs_u (zs_u (zs_u S 20 i (12 * c + (zs_n (S 18 i c 0))) 0 (nI k)) 20 i (12 * c + (zs_n (S 18 i c 0))) 1 a) 20 i (12 * c + (zs_n (S 18 i c 0))) 2 (nI (w / 4))) 20 i (12 * c + (zs_n (S 18 i c 0))) 3 (nI (w % 4))) 20 i (12 * c + (zs_n (S 18 i c 0))) 4 ((S 8 i 0 0) + x)) 20 i (12 * c + (zs_n (S 18 i c 0))) 5 (zs_bb (S 16 i 0) (S 15 i 0) k c)) 18 i c 0 (nI ((zs_n (S 18 i c 0)) + 1))) 12 i (w / 4) k (S 12 i (w / 4) k - a)) 14 i c k (if (zs_bb (S 16 i 0) (S 15 i 0) k c) ≤ 0 then S 14 i c k + a else S 14 i c k)) c (zs_n (S 18 i c 0))) zk_Store_printSlot za_Store_printSlot wl_Ledger_155 ⟨rfl, rfl, Nat.le_of_ble_eq_true rfl, Nat.le_of_ble_eq_true rfl⟩ hl.1 rfl (Nat.le_of_ble_eq_true rfl) ⟨Nat.zero_le _, Nat.zero_le _⟩ dd_Ledger_sendPacket_156) hS (fun _ h => h) (fun H locs hP _ _ hS => ?_)
        refine lv_aload F.1 F.2.1 dd_Ledger_sendPacket_159 (lv_at hl 0 rfl) ?_
        refine lv_iconst (v := nI 0) F.1 F.2.1 dd_Ledger_sendPacket_161 (by decide) ?_
        refine zw_goi (zw_rV F hE hP (zc_Packet_printWith lc G b0 (zs_u (zs_u (zs_u (zs_u (zs_u (zs_u (zs_u (zs_u (zs_u S 20 i (12 * c + (zs_n (S 18 i c 0))) 0 (nI k)) 20 i (12 * c + (zs_n (S 18 i c 0))) 1 a) 20 i (12 * c + (zs_n (S 18 i c 0))) 2 (nI (w / 4))) 20 i (12 * c + (zs_n (S 18 i c 0))) 3 (nI (w % 4))) 20 i (12 * c + (zs_n (S 18 i c 0))) 4 ((S 8 i 0 0) + x)) 20 i (12 * c + (zs_n (S 18 i c 0))) 5 (zs_bb (S 16 i 0) (S 15 i 0) k c)) 18 i c 0 (nI ((zs_n (S 18 i c 0)) + 1))) 12 i (w / 4) k (S 12 i (w / 4) k - a)) 14 i c k (if (zs_bb (S 16 i 0) (S 15 i 0) k c) ≤ 0 then S 14 i c k + a else S 14 i c k)) i (12 * c + (zs_n (S 18 i c 0))) (nI 0) (by first | omega | assumption) (by first | omega | assumption)) zk_Packet_printWith za_Packet_printWith zb_Packet_printWith wl_Ledger_158 ⟨rfl, rfl, Nat.le_of_ble_eq_true rfl, Nat.le_of_ble_eq_true rfl⟩ (zc_recv (t := 20) (i := i) (j := 12 * c + (zs_n (S 18 i c 0))) hE hP ⟨by decide, (show i < 2 by omega), (show 12 * c + (zs_n (S 18 i c 0)) < 36 by omega)⟩ rfl rfl) hl.1 rfl (Nat.le_of_ble_eq_true rfl) ⟨Nat.zero_le _, Nat.zero_le _⟩ dd_Ledger_sendPacket_162) hS (fun _ h => h) (fun H locs hP _ _ hS => ?_)
        refine zw_gov (zw_rV F hE hP (zc_Store_put lc G b0 (zs_u (zs_u (zs_u (zs_u (zs_u (zs_u (zs_u (zs_u (zs_u S 20 i (12 * c + (zs_n (S 18 i c 0))) 0 (nI k)) 20 i (12 * c + (zs_n (S 18 i c 0))) 1 a) 20 i (12 * c + (zs_n (S 18 i c 0))) 2 (nI (w / 4))) 20 i (12 * c + (zs_n (S 18 i c 0))) 3 (nI (w % 4))) 20 i (12 * c + (zs_n (S 18 i c 0))) 4 ((S 8 i 0 0) + x)) 20 i (12 * c + (zs_n (S 18 i c 0))) 5 (zs_bb (S 16 i 0) (S 15 i 0) k c)) 18 i c 0 (nI ((zs_n (S 18 i c 0)) + 1))) 12 i (w / 4) k (S 12 i (w / 4) k - a)) 14 i c k (if (zs_bb (S 16 i 0) (S 15 i 0) k c) ≤ 0 then S 14 i c k + a else S 14 i c k)) i 0 (6 + 12 * c + (zs_n (S 18 i c 0))) (zs_print ((zs_u (zs_u (zs_u (zs_u (zs_u (zs_u (zs_u (zs_u (zs_u S 20 i (12 * c + (zs_n (S 18 i c 0))) 0 (nI k)) 20 i (12 * c + (zs_n (S 18 i c 0))) 1 a) 20 i (12 * c + (zs_n (S 18 i c 0))) 2 (nI (w / 4))) 20 i (12 * c + (zs_n (S 18 i c 0))) 3 (nI (w % 4))) 20 i (12 * c + (zs_n (S 18 i c 0))) 4 ((S 8 i 0 0) + x)) 20 i (12 * c + (zs_n (S 18 i c 0))) 5 (zs_bb (S 16 i 0) (S 15 i 0) k c)) 18 i c 0 (nI ((zs_n (S 18 i c 0)) + 1))) 12 i (w / 4) k (S 12 i (w / 4) k - a)) 14 i c k (if (zs_bb (S 16 i 0) (S 15 i 0) k c) ≤ 0 then S 14 i c k + a else S 14 i c k)) 20 i (12 * c + (zs_n (S 18 i c 0)))) (nI 0)) (by first | omega | assumption) (by first | omega | assumption) (by first | omega | assumption)) zk_Store_put za_Store_put zb_Store_put wl_Ledger_103 ⟨rfl, rfl, Nat.le_of_ble_eq_true rfl, Nat.le_of_ble_eq_true rfl⟩ (zc_recv (t := 3) (i := i) (j := 0) hE hP ⟨by decide, (show i < 2 by omega), (show 0 < 9 by omega)⟩ rfl rfl) hl.1 rfl (Nat.le_of_ble_eq_true rfl) ⟨Nat.zero_le _, Nat.zero_le _⟩ dd_Ledger_sendPacket_165) hS (fun _ h => h) (fun H locs hP _ _ hS => ?_)
        refine lv_aload F.1 F.2.1 dd_Ledger_sendPacket_168 (lv_at hl 2 rfl) ?_
        refine zc_gN (t := 18) (i := i) (j := c) F hE hP ⟨by decide, (show i < 2 by omega), (show c < 3 by omega)⟩ rfl rfl zi_End 1 (by decide) rfl wf_Ledger_114 rfl dd_Ledger_sendPacket_170 ?_
        refine zn_top (y := nI ((zs_n (S 18 i c 0)) + 1)) (by rw [zs_ut (by decide), zs_ut (by decide), zs_ut (by decide), zs_ut (by decide), zs_us]) ?_
        exact zw_iret F hr hlk hP hS (congrArg (zp_p G b0) (by rw [zu_Ledger_sendPacket, if_pos h6, if_neg h32, if_pos h49])) (by rw [zr_Ledger_sendPacket, if_pos h6, if_neg h32, if_pos h49]) dd_Ledger_sendPacket_173
      · refine lv_bipush (v := (-7)) F.1 F.2.1 dd_Ledger_sendPacket_52 (by decide) ?_
        exact zw_iret F hr hlk hP hS (congrArg (zp_p G b0) (by rw [zu_Ledger_sendPacket, if_pos h6, if_neg h32, if_neg h49])) (by rw [zr_Ledger_sendPacket, if_pos h6, if_neg h32, if_neg h49]) dd_Ledger_sendPacket_54
  · refine lv_bipush (v := (-2)) F.1 F.2.1 dd_Ledger_sendPacket_9 (by decide) ?_
    exact zw_iret F hr hlk hP hS (congrArg (zp_p G b0) (by rw [zu_Ledger_sendPacket, if_neg h6])) (by rw [zr_Ledger_sendPacket, if_neg h6]) dd_Ledger_sendPacket_11
