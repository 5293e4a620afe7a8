def zr_Ledger_settleTimedOut (S : zs_S) (i : Nat) (o : Nat) (c : Nat) (j : Nat) (h : Int32) (w : Int32) : Int32 := if S 20 i (12 * c + j) 6 = 0 then (if w = 0 then (if S 20 i (12 * c + j) 4 ≤ h then (if w = 0 then (if zr_Ledger_proveNotReceived S i o c j h = 0 then (if zs_or ((zu_Ledger_settle S i c j (nI 3)) 4 i 0 c) = nI 1 then (nI 0) else (nI 0)) else (zr_Ledger_proveNotReceived S i o c j h)) else (if zs_pv S i o h c (nI 2 * (nI 4) + (zs_or (S 4 i 0 c))) = 0 then (if zr_Ledger_proveNotReceived S i o c j h = 0 then (if zs_or ((zu_Ledger_settle S i c j (nI 3)) 4 i 0 c) = nI 1 then (nI 0) else (nI 0)) else (zr_Ledger_proveNotReceived S i o c j h)) else (if zs_pv S i o h c (nI 2 * (nI 4) + (zs_or (S 4 i 0 c))) = 0 then (if zs_or ((zu_Ledger_settle S i c j (nI 3)) 4 i 0 c) = nI 1 then (nI 0) else (nI 0)) else (zs_pv S i o h c (nI 2 * (nI 4) + (zs_or (S 4 i 0 c))))))) else ((-9))) else (if w = 0 then (if zr_Ledger_proveNotReceived S i o c j h = 0 then (if zs_or ((zu_Ledger_settle S i c j (nI 3)) 4 i 0 c) = nI 1 then (nI 0) else (nI 0)) else (zr_Ledger_proveNotReceived S i o c j h)) else (if zs_pv S i o h c (nI 2 * (nI 4) + (zs_or (S 4 i 0 c))) = 0 then (if zr_Ledger_proveNotReceived S i o c j h = 0 then (if zs_or ((zu_Ledger_settle S i c j (nI 3)) 4 i 0 c) = nI 1 then (nI 0) else (nI 0)) else (zr_Ledger_proveNotReceived S i o c j h)) else (if zs_pv S i o h c (nI 2 * (nI 4) + (zs_or (S 4 i 0 c))) = 0 then (if zs_or ((zu_Ledger_settle S i c j (nI 3)) 4 i 0 c) = nI 1 then (nI 0) else (nI 0)) else (zs_pv S i o h c (nI 2 * (nI 4) + (zs_or (S 4 i 0 c)))))))) else ((-8))
def zu_Ledger_settleTimedOut (S : zs_S) (i : Nat) (o : Nat) (c : Nat) (j : Nat) (h : Int32) (w : Int32) : zs_S := if S 20 i (12 * c + j) 6 = 0 then (if w = 0 then (if S 20 i (12 * c + j) 4 ≤ h then (if w = 0 then (if zr_Ledger_proveNotReceived S i o c j h = 0 then (if zs_or ((zu_Ledger_settle S i c j (nI 3)) 4 i 0 c) = nI 1 then (zs_u (zs_u (zu_Ledger_settle S i c j (nI 3)) 4 i 0 c (nI 2 * (nI 4) + zs_or ((zu_Ledger_settle S i c j (nI 3)) 4 i 0 c))) 5 i 0 c (nI 1)) else ((zu_Ledger_settle S i c j (nI 3)))) else (S)) else (if zs_pv S i o h c (nI 2 * (nI 4) + (zs_or (S 4 i 0 c))) = 0 then (if zr_Ledger_proveNotReceived S i o c j h = 0 then (if zs_or ((zu_Ledger_settle S i c j (nI 3)) 4 i 0 c) = nI 1 then (zs_u (zs_u (zu_Ledger_settle S i c j (nI 3)) 4 i 0 c (nI 2 * (nI 4) + zs_or ((zu_Ledger_settle S i c j (nI 3)) 4 i 0 c))) 5 i 0 c (nI 1)) else ((zu_Ledger_settle S i c j (nI 3)))) else (S)) else (if zs_pv S i o h c (nI 2 * (nI 4) + (zs_or (S 4 i 0 c))) = 0 then (if zs_or ((zu_Ledger_settle S i c j (nI 3)) 4 i 0 c) = nI 1 then (zs_u (zs_u (zu_Ledger_settle S i c j (nI 3)) 4 i 0 c (nI 2 * (nI 4) + zs_or ((zu_Ledger_settle S i c j (nI 3)) 4 i 0 c))) 5 i 0 c (nI 1)) else ((zu_Ledger_settle S i c j (nI 3)))) else (S)))) else (S)) else (if w = 0 then (if zr_Ledger_proveNotReceived S i o c j h = 0 then (if zs_or ((zu_Ledger_settle S i c j (nI 3)) 4 i 0 c) = nI 1 then (zs_u (zs_u (zu_Ledger_settle S i c j (nI 3)) 4 i 0 c (nI 2 * (nI 4) + zs_or ((zu_Ledger_settle S i c j (nI 3)) 4 i 0 c))) 5 i 0 c (nI 1)) else ((zu_Ledger_settle S i c j (nI 3)))) else (S)) else (if zs_pv S i o h c (nI 2 * (nI 4) + (zs_or (S 4 i 0 c))) = 0 then (if zr_Ledger_proveNotReceived S i o c j h = 0 then (if zs_or ((zu_Ledger_settle S i c j (nI 3)) 4 i 0 c) = nI 1 then (zs_u (zs_u (zu_Ledger_settle S i c j (nI 3)) 4 i 0 c (nI 2 * (nI 4) + zs_or ((zu_Ledger_settle S i c j (nI 3)) 4 i 0 c))) 5 i 0 c (nI 1)) else ((zu_Ledger_settle S i c j (nI 3)))) else (S)) else (if zs_pv S i o h c (nI 2 * (nI 4) + (zs_or (S 4 i 0 c))) = 0 then (if zs_or ((zu_Ledger_settle S i c j (nI 3)) 4 i 0 c) = nI 1 then (zs_u (zs_u (zu_Ledger_settle S i c j (nI 3)) 4 i 0 c (nI 2 * (nI 4) + zs_or ((zu_Ledger_settle S i c j (nI 3)) 4 i 0 c))) 5 i 0 c (nI 1)) else ((zu_Ledger_settle S i c j (nI 3)))) else (S))))) else (S)
set_option maxHeartbeats 4000000 in
set_option maxRecDepth 100000 in
theorem zc_Ledger_settleTimedOut (lc : Launch) (G : zw_G) (b0 : Nat) (S : zs_S) (i : Nat) (o : Nat) (c : Nat) (j : Nat) (h : Int32) (w : Int32) (hi : i < 2) (ho : o < 2) (hc : c < 3) (hj : j < 12) (hB : zs_B S) (hpk : zs_PK S i (12 * c + j)) : zw_M lc ym_Ledger_settleTimedOut bm_Ledger_settleTimedOut 8 (some .int) { frames := 4, cells := 0, slots := 0, locals := 94 } G b0 176 (zp_p G b0 S) [.ref (b0 + zp_o 2 i 0), .ref (b0 + zp_o 2 o 0), .int (nI c), .int (nI (j + 1)), .int h, .int w] (zw_Qi G b0 176 (zp_p G b0 (zu_Ledger_settleTimedOut S i o c j h w)) (zr_Ledger_settleTimedOut S i o c j h w)) := by
  refine zw_of (by decide) (Nat.le_of_ble_eq_true rfl) ?_
  intro p e s m below meth cx ls F hr hlk hE hP hS hl
  have hl : lv_has ls 8 [(0, .ref (b0 + zp_o 2 i 0)), (1, .ref (b0 + zp_o 2 o 0)), (2, .int (nI c)), (3, .int (nI (j + 1))), (4, .int h), (5, .int w)] := hl
  refine lv_aload_n F.1 F.2.1 dd_Ledger_settleTimedOut_0 rfl (lv_at hl 0 rfl) ?_
  refine zc_gF (t := 2) (i := i) (j := 0) F hE hP ⟨by decide, (show i < 2 by omega), (show 0 < 1 by omega)⟩ rfl rfl zi_Ledger 5 (by decide) rfl wf_Ledger_42 rfl dd_Ledger_settleTimedOut_1 ?_
  refine lv_iload_n F.1 F.2.1 dd_Ledger_settleTimedOut_4 rfl (lv_at hl 2 rfl) ?_
  refine zc_aald (t := 17) (i := i) (j := 0) (k := c) (N := 3) (z := 4) (a := (b0 + zp_o 18 i c)) F hE hP ⟨by decide, (show i < 2 by omega), (show 0 < 1 by omega)⟩ rfl rfl rfl (by omega) (by decide) rfl dd_Ledger_settleTimedOut_5 ?_
  refine zc_gN (t := 18) (i := i) (j := c) F hE hP ⟨by decide, (show i < 2 by omega), (show c < 3 by omega)⟩ rfl rfl zi_End 0 (by decide) rfl wf_Ledger_121 rfl dd_Ledger_settleTimedOut_6 ?_
  refine lv_iload_n F.1 F.2.1 dd_Ledger_settleTimedOut_9 rfl (lv_at hl 3 rfl) ?_
  refine lv_iconst (v := nI 1) F.1 F.2.1 dd_Ledger_settleTimedOut_10 (by decide) ?_
  refine zn_isub F dd_Ledger_settleTimedOut_11 (by omega) ?_
  refine zn_top (y := nI j) (congrArg nI (by omega)) ?_
  refine zc_aald (t := 19) (i := i) (j := c) (k := j) (N := 12) (z := 5) (a := (b0 + zp_o 20 i (12 * c + j))) F hE hP ⟨by decide, (show i < 2 by omega), (show c < 3 by omega)⟩ rfl rfl rfl (by omega) (by decide) rfl dd_Ledger_settleTimedOut_12 ?_
  refine lv_astore F.1 F.2.1 dd_Ledger_settleTimedOut_13 hl (by decide) (lv' := [(6, .ref (b0 + zp_o 20 i (12 * c + j))), (0, .ref (b0 + zp_o 2 i 0)), (1, .ref (b0 + zp_o 2 o 0)), (2, .int (nI c)), (3, .int (nI (j + 1))), (4, .int h), (5, .int w)]) rfl (fun ls hl => ?_)
  refine lv_aload F.1 F.2.1 dd_Ledger_settleTimedOut_15 (lv_at hl 0 rfl) ?_
  refine zc_gN (t := 20) (i := i) (j := 12 * c + j) F hE hP ⟨by decide, (show i < 2 by omega), (show 12 * c + j < 36 by omega)⟩ rfl rfl zi_Packet 6 (by decide) rfl wf_Ledger_187 rfl dd_Ledger_settleTimedOut_17 ?_
  refine lv_if_eq F.1 F.2.1 dd_Ledger_settleTimedOut_20 (tgt := 26) rfl (fun h20 => ?_) (fun h20 => ?_)
  · refine lv_iload F.1 F.2.1 dd_Ledger_settleTimedOut_26 (lv_at hl 6 rfl) ?_
    refine lv_if_ne F.1 F.2.1 dd_Ledger_settleTimedOut_28 (tgt := 44) rfl (fun h28 => ?_) (fun h28 => ?_)
    · refine lv_iload F.1 F.2.1 dd_Ledger_settleTimedOut_44 (lv_at hl 6 rfl) ?_
      refine lv_if_eq F.1 F.2.1 dd_Ledger_settleTimedOut_46 (tgt := 66) rfl (fun h46 => ?_) (fun h46 => ?_)
      · refine lv_iconst (v := nI 0) F.1 F.2.1 dd_Ledger_settleTimedOut_66 (by decide) ?_
        refine lv_istore F.1 F.2.1 dd_Ledger_settleTimedOut_67 hl (by decide) (lv' := [(7, .int (nI 0)), (6, .ref (b0 + zp_o 20 i (12 * c + j))), (0, .ref (b0 + zp_o 2 i 0)), (1, .ref (b0 + zp_o 2 o 0)), (2, .int (nI c)), (3, .int (nI (j + 1))), (4, .int h), (5, .int w)]) rfl (fun ls hl => ?_)
        refine lv_iload F.1 F.2.1 dd_Ledger_settleTimedOut_69 (lv_at hl 0 rfl) ?_
        refine lv_if_ne F.1 F.2.1 dd_Ledger_settleTimedOut_71 (tgt := 85) rfl (fun h71 => absurd h71 (by decide)) (fun h71 => ?_)
        refine lv_aload_n F.1 F.2.1 dd_Ledger_settleTimedOut_74 rfl (lv_at hl 2 rfl) ?_
        refine lv_aload_n F.1 F.2.1 dd_Ledger_settleTimedOut_75 rfl (lv_at hl 3 rfl) ?_
        refine lv_iload_n F.1 F.2.1 dd_Ledger_settleTimedOut_76 rfl (lv_at hl 4 rfl) ?_
        refine lv_iload_n F.1 F.2.1 dd_Ledger_settleTimedOut_77 rfl (lv_at hl 5 rfl) ?_
        refine lv_iload F.1 F.2.1 dd_Ledger_settleTimedOut_78 (lv_at hl 6 rfl) ?_
        refine zw_goi (zw_rV F hE hP (zc_Ledger_proveNotReceived lc G b0 S i o c j h (by first | omega | assumption) (by first | omega | assumption) (by first | omega | assumption) (by first | omega | assumption) (by assumption)) zk_Ledger_proveNotReceived za_Ledger_proveNotReceived zb_Ledger_proveNotReceived wl_Ledger_193 ⟨rfl, rfl, Nat.le_of_ble_eq_true rfl, Nat.le_of_ble_eq_true rfl⟩ (zc_recv (t := 2) (i := i) (j := 0) hE hP ⟨by decide, (show i < 2 by omega), (show 0 < 1 by omega)⟩ rfl rfl) hl.1 rfl (Nat.le_of_ble_eq_true rfl) ⟨Nat.zero_le _, Nat.zero_le _⟩ dd_Ledger_settleTimedOut_80) hS (fun _ h => h) (fun H locs hP _ _ hS => ?_)
        refine lv_istore F.1 F.2.1 dd_Ledger_settleTimedOut_83 hl (by decide) (lv' := [(7, .int (zr_Ledger_proveNotReceived S i o c j h)), (6, .ref (b0 + zp_o 20 i (12 * c + j))), (0, .ref (b0 + zp_o 2 i 0)), (1, .ref (b0 + zp_o 2 o 0)), (2, .int (nI c)), (3, .int (nI (j + 1))), (4, .int h), (5, .int w)]) rfl (fun ls hl => ?_)
        refine lv_iload F.1 F.2.1 dd_Ledger_settleTimedOut_85 (lv_at hl 0 rfl) ?_
        refine lv_if_eq F.1 F.2.1 dd_Ledger_settleTimedOut_87 (tgt := 93) rfl (fun h87 => ?_) (fun h87 => ?_)
        · refine lv_aload_n F.1 F.2.1 dd_Ledger_settleTimedOut_93 rfl (lv_at hl 2 rfl) ?_
          refine lv_iload_n F.1 F.2.1 dd_Ledger_settleTimedOut_94 rfl (lv_at hl 4 rfl) ?_
          refine lv_iload_n F.1 F.2.1 dd_Ledger_settleTimedOut_95 rfl (lv_at hl 5 rfl) ?_
          refine lv_iconst (v := nI 3) F.1 F.2.1 dd_Ledger_settleTimedOut_96 (by decide) ?_
          refine zw_gov (zw_rV F hE hP (zc_Ledger_settle lc G b0 S i c j (nI 3) (by first | omega | assumption) (by first | omega | assumption) (by first | omega | assumption) (by assumption)) zk_Ledger_settle za_Ledger_settle zb_Ledger_settle wl_Ledger_190 ⟨rfl, rfl, Nat.le_of_ble_eq_true rfl, Nat.le_of_ble_eq_true rfl⟩ (zc_recv (t := 2) (i := i) (j := 0) hE hP ⟨by decide, (show i < 2 by omega), (show 0 < 1 by omega)⟩ rfl rfl) hl.1 rfl (Nat.le_of_ble_eq_true rfl) ⟨Nat.zero_le _, Nat.zero_le _⟩ dd_Ledger_settleTimedOut_97) hS (fun _ h => h) (fun H locs hP _ _ hS => ?_)
          refine lv_aload_n F.1 F.2.1 dd_Ledger_settleTimedOut_100 rfl (lv_at hl 2 rfl) ?_
          refine lv_iload_n F.1 F.2.1 dd_Ledger_settleTimedOut_101 rfl (lv_at hl 4 rfl) ?_
          refine zw_goi (zw_rV F hE hP (zc_Ledger_isOrdered lc G b0 (zu_Ledger_settle S i c j (nI 3)) i c (by first | omega | assumption) (by first | omega | assumption)) zk_Ledger_isOrdered za_Ledger_isOrdered zb_Ledger_isOrdered wl_Ledger_172 ⟨rfl, rfl, Nat.le_of_ble_eq_true rfl, Nat.le_of_ble_eq_true rfl⟩ (zc_recv (t := 2) (i := i) (j := 0) hE hP ⟨by decide, (show i < 2 by omega), (show 0 < 1 by omega)⟩ rfl rfl) hl.1 rfl (Nat.le_of_ble_eq_true rfl) ⟨Nat.zero_le _, Nat.zero_le _⟩ dd_Ledger_settleTimedOut_102) hS (fun _ h => h) (fun H locs hP _ _ hS => ?_)
          refine zn_beq F dd_Ledger_settleTimedOut_105 (tgt := 114) rfl (fun h105 => ?_) (fun h105 => ?_)
          · refine lv_iconst (v := nI 0) F.1 F.2.1 dd_Ledger_settleTimedOut_114 (by decide) ?_
            exact zw_iret F hr hlk hP hS (congrArg (zp_p G b0) (by rw [zu_Ledger_settleTimedOut, if_pos h20, if_neg h28, if_pos h46, if_pos h87, if_neg h105])) (by rw [zr_Ledger_settleTimedOut, if_pos h20, if_neg h28, if_pos h46, if_pos h87, if_neg h105]) dd_Ledger_settleTimedOut_115
          · refine lv_aload_n F.1 F.2.1 dd_Ledger_settleTimedOut_108 rfl (lv_at hl 2 rfl) ?_
            refine lv_iload_n F.1 F.2.1 dd_Ledger_settleTimedOut_109 rfl (lv_at hl 4 rfl) ?_
            refine lv_iconst (v := nI 4) F.1 F.2.1 dd_Ledger_settleTimedOut_110 (by decide) ?_
            refine zw_gov (zw_rV F hE hP (zc_Ledger_moveEnd lc G b0 (zu_Ledger_settle S i c j (nI 3)) i c (nI 4) (by first | omega | assumption) (by first | omega | assumption)) zk_Ledger_moveEnd za_Ledger_moveEnd zb_Ledger_moveEnd wl_Ledger_111 ⟨rfl, rfl, Nat.le_of_ble_eq_true rfl, Nat.le_of_ble_eq_true rfl⟩ (zc_recv (t := 2) (i := i) (j := 0) hE hP ⟨by decide, (show i < 2 by omega), (show 0 < 1 by omega)⟩ rfl rfl) hl.1 rfl (Nat.le_of_ble_eq_true rfl) ⟨Nat.zero_le _, Nat.zero_le _⟩ dd_Ledger_settleTimedOut_111) hS (fun _ h => h) (fun H locs hP _ _ hS => ?_)
            refine lv_iconst (v := nI 0) F.1 F.2.1 dd_Ledger_settleTimedOut_114 (by decide) ?_
            exact zw_iret F hr hlk hP hS (congrArg (zp_p G b0) (by rw [zu_Ledger_settleTimedOut, if_pos h20, if_neg h28, if_pos h46, if_pos h87, if_pos h105])) (by rw [zr_Ledger_settleTimedOut, if_pos h20, if_neg h28, if_pos h46, if_pos h87, if_pos h105]) dd_Ledger_settleTimedOut_115
        · refine lv_iload F.1 F.2.1 dd_Ledger_settleTimedOut_90 (lv_at hl 0 rfl) ?_
          exact zw_iret F hr hlk hP hS (congrArg (zp_p G b0) (by rw [zu_Ledger_settleTimedOut, if_pos h20, if_neg h28, if_pos h46, if_neg h87])) (by rw [zr_Ledger_settleTimedOut, if_pos h20, if_neg h28, if_pos h46, if_neg h87]) dd_Ledger_settleTimedOut_92
      · refine lv_aload_n F.1 F.2.1 dd_Ledger_settleTimedOut_49 rfl (lv_at hl 1 rfl) ?_
        refine lv_aload_n F.1 F.2.1 dd_Ledger_settleTimedOut_50 rfl (lv_at hl 2 rfl) ?_
        refine lv_iload F.1 F.2.1 dd_Ledger_settleTimedOut_51 (lv_at hl 5 rfl) ?_
        refine lv_iload_n F.1 F.2.1 dd_Ledger_settleTimedOut_53 rfl (lv_at hl 3 rfl) ?_
        refine lv_iconst (v := nI 4) F.1 F.2.1 dd_Ledger_settleTimedOut_54 (by decide) ?_
        refine lv_aload_n F.1 F.2.1 dd_Ledger_settleTimedOut_55 rfl (lv_at hl 1 rfl) ?_
        refine lv_iload_n F.1 F.2.1 dd_Ledger_settleTimedOut_56 rfl (lv_at hl 3 rfl) ?_
        refine zw_goi (zw_rV F hE hP (zc_Ledger_orderOf lc G b0 S i c (by first | omega | assumption) (by first | omega | assumption)) zk_Ledger_orderOf za_Ledger_orderOf zb_Ledger_orderOf wl_Ledger_70 ⟨rfl, rfl, Nat.le_of_ble_eq_true rfl, Nat.le_of_ble_eq_true rfl⟩ (zc_recv (t := 2) (i := i) (j := 0) hE hP ⟨by decide, (show i < 2 by omega), (show 0 < 1 by omega)⟩ rfl rfl) hl.1 rfl (Nat.le_of_ble_eq_true rfl) ⟨Nat.zero_le _, Nat.zero_le _⟩ dd_Ledger_settleTimedOut_57) hS (fun _ h => h) (fun H locs hP _ _ hS => ?_)
        refine zw_goi (zw_rV F hE hP (zc_Ledger_proveEnd lc G b0 S i o h c (nI 4) (zs_or (S 4 i 0 c)) (by first | omega | assumption) (by first | omega | assumption) (by first | omega | assumption) (by assumption)) zk_Ledger_proveEnd za_Ledger_proveEnd zb_Ledger_proveEnd wl_Ledger_107 ⟨rfl, rfl, Nat.le_of_ble_eq_true rfl, Nat.le_of_ble_eq_true rfl⟩ (zc_recv (t := 2) (i := i) (j := 0) hE hP ⟨by decide, (show i < 2 by omega), (show 0 < 1 by omega)⟩ rfl rfl) hl.1 rfl (Nat.le_of_ble_eq_true rfl) ⟨Nat.zero_le _, Nat.zero_le _⟩ dd_Ledger_settleTimedOut_60) hS (fun _ h => h) (fun H locs hP _ _ hS => ?_)
        refine lv_goto F.1 F.2.1 dd_Ledger_settleTimedOut_63 (tgt := 67) rfl ?_
        refine lv_istore F.1 F.2.1 dd_Ledger_settleTimedOut_67 hl (by decide) (lv' := [(7, .int (zs_pv S i o h c (nI 2 * (nI 4) + (zs_or (S 4 i 0 c))))), (6, .ref (b0 + zp_o 20 i (12 * c + j))), (0, .ref (b0 + zp_o 2 i 0)), (1, .ref (b0 + zp_o 2 o 0)), (2, .int (nI c)), (3, .int (nI (j + 1))), (4, .int h), (5, .int w)]) rfl (fun ls hl => ?_)
        refine lv_iload F.1 F.2.1 dd_Ledger_settleTimedOut_69 (lv_at hl 0 rfl) ?_
        refine lv_if_ne F.1 F.2.1 dd_Ledger_settleTimedOut_71 (tgt := 85) rfl (fun h71 => ?_) (fun h71 => ?_)
        · refine lv_iload F.1 F.2.1 dd_Ledger_settleTimedOut_85 (lv_at hl 0 rfl) ?_
          refine lv_if_eq F.1 F.2.1 dd_Ledger_settleTimedOut_87 (tgt := 93) rfl (fun h87 => ?_) (fun h87 => ?_)
          · refine lv_aload_n F.1 F.2.1 dd_Ledger_settleTimedOut_93 rfl (lv_at hl 2 rfl) ?_
            refine lv_iload_n F.1 F.2.1 dd_Ledger_settleTimedOut_94 rfl (lv_at hl 4 rfl) ?_
            refine lv_iload_n F.1 F.2.1 dd_Ledger_settleTimedOut_95 rfl (lv_at hl 5 rfl) ?_
            refine lv_iconst (v := nI 3) F.1 F.2.1 dd_Ledger_settleTimedOut_96 (by decide) ?_
            refine zw_gov (zw_rV F hE hP (zc_Ledger_settle lc G b0 S i c j (nI 3) (by first | omega | assumption) (by first | omega | assumption) (by first | omega | assumption) (by assumption)) zk_Ledger_settle za_Ledger_settle zb_Ledger_settle wl_Ledger_190 ⟨rfl, rfl, Nat.le_of_ble_eq_true rfl, Nat.le_of_ble_eq_true rfl⟩ (zc_recv (t := 2) (i := i) (j := 0) hE hP ⟨by decide, (show i < 2 by omega), (show 0 < 1 by omega)⟩ rfl rfl) hl.1 rfl (Nat.le_of_ble_eq_true rfl) ⟨Nat.zero_le _, Nat.zero_le _⟩ dd_Ledger_settleTimedOut_97) hS (fun _ h => h) (fun H locs hP _ _ hS => ?_)
            refine lv_aload_n F.1 F.2.1 dd_Ledger_settleTimedOut_100 rfl (lv_at hl 2 rfl) ?_
            refine lv_iload_n F.1 F.2.1 dd_Ledger_settleTimedOut_101 rfl (lv_at hl 4 rfl) ?_
            refine zw_goi (zw_rV F hE hP (zc_Ledger_isOrdered lc G b0 (zu_Ledger_settle S i c j (nI 3)) i c (by first | omega | assumption) (by first | omega | assumption)) zk_Ledger_isOrdered za_Ledger_isOrdered zb_Ledger_isOrdered wl_Ledger_172 ⟨rfl, rfl, Nat.le_of_ble_eq_true rfl, Nat.le_of_ble_eq_true rfl⟩ (zc_recv (t := 2) (i := i) (j := 0) hE hP ⟨by decide, (show i < 2 by omega), (show 0 < 1 by omega)⟩ rfl rfl) hl.1 rfl (Nat.le_of_ble_eq_true rfl) ⟨Nat.zero_le _, Nat.zero_le _⟩ dd_Ledger_settleTimedOut_102) hS (fun _ h => h) (fun H locs hP _ _ hS => ?_)
            refine zn_beq F dd_Ledger_settleTimedOut_105 (tgt := 114) rfl (fun h105 => ?_) (fun h105 => ?_)
            · refine lv_iconst (v := nI 0) F.1 F.2.1 dd_Ledger_settleTimedOut_114 (by decide) ?_
              exact zw_iret F hr hlk hP hS (congrArg (zp_p G b0) (by rw [zu_Ledger_settleTimedOut, if_pos h20, if_neg h28, if_neg h46, if_neg h71, if_pos h87, if_neg h105])) (by rw [zr_Ledger_settleTimedOut, if_pos h20, if_neg h28, if_neg h46, if_neg h71, if_pos h87, if_neg h105]) dd_Ledger_settleTimedOut_115
            · refine lv_aload_n F.1 F.2.1 dd_Ledger_settleTimedOut_108 rfl (lv_at hl 2 rfl) ?_
              refine lv_iload_n F.1 F.2.1 dd_Ledger_settleTimedOut_109 rfl (lv_at hl 4 rfl) ?_
              refine lv_iconst (v := nI 4) F.1 F.2.1 dd_Ledger_settleTimedOut_110 (by decide) ?_
              refine zw_gov (zw_rV F hE hP (zc_Ledger_moveEnd lc G b0 (zu_Ledger_settle S i c j (nI 3)) i c (nI 4) (by first | omega | assumption) (by first | omega | assumption)) zk_Ledger_moveEnd za_Ledger_moveEnd zb_Ledger_moveEnd wl_Ledger_111 ⟨rfl, rfl, Nat.le_of_ble_eq_true rfl, Nat.le_of_ble_eq_true rfl⟩ (zc_recv (t := 2) (i := i) (j := 0) hE hP ⟨by decide, (show i < 2 by omega), (show 0 < 1 by omega)⟩ rfl rfl) hl.1 rfl (Nat.le_of_ble_eq_true rfl) ⟨Nat.zero_le _, Nat.zero_le _⟩ dd_Ledger_settleTimedOut_111) hS (fun _ h => h) (fun H locs hP _ _ hS => ?_)
              refine lv_iconst (v := nI 0) F.1 F.2.1 dd_Ledger_settleTimedOut_114 (by decide) ?_
              exact zw_iret F hr hlk hP hS (congrArg (zp_p G b0) (by rw [zu_Ledger_settleTimedOut, if_pos h20, if_neg h28, if_neg h46, if_neg h71, if_pos h87, if_pos h105])) (by rw [zr_Ledger_settleTimedOut, if_pos h20, if_neg h28, if_neg h46, if_neg h71, if_pos h87, if_pos h105]) dd_Ledger_settleTimedOut_115
          · refine lv_iload F.1 F.2.1 dd_Ledger_settleTimedOut_90 (lv_at hl 0 rfl) ?_
            exact zw_iret F hr hlk hP hS (congrArg (zp_p G b0) (by rw [zu_Ledger_settleTimedOut, if_pos h20, if_neg h28, if_neg h46, if_neg h71, if_neg h87])) (by rw [zr_Ledger_settleTimedOut, if_pos h20, if_neg h28, if_neg h46, if_neg h71, if_neg h87]) dd_Ledger_settleTimedOut_92
        · refine lv_aload_n F.1 F.2.1 dd_Ledger_settleTimedOut_74 rfl (lv_at hl 2 rfl) ?_
          refine lv_aload_n F.1 F.2.1 dd_Ledger_settleTimedOut_75 rfl (lv_at hl 3 rfl) ?_
          refine lv_iload_n F.1 F.2.1 dd_Ledger_settleTimedOut_76 rfl (lv_at hl 4 rfl) ?_
          refine lv_iload_n F.1 F.2.1 dd_Ledger_settleTimedOut_77 rfl (lv_at hl 5 rfl) ?_
          refine lv_iload F.1 F.2.1 dd_Ledger_settleTimedOut_78 (lv_at hl 6 rfl) ?_
          refine zw_goi (zw_rV F hE hP (zc_Ledger_proveNotReceived lc G b0 S i o c j h (by first | omega | assumption) (by first | omega | assumption) (by first | omega | assumption) (by first | omega | assumption) (by assumption)) zk_Ledger_proveNotReceived za_Ledger_proveNotReceived zb_Ledger_proveNotReceived wl_Ledger_193 ⟨rfl, rfl, Nat.le_of_ble_eq_true rfl, Nat.le_of_ble_eq_true rfl⟩ (zc_recv (t := 2) (i := i) (j := 0) hE hP ⟨by decide, (show i < 2 by omega), (show 0 < 1 by omega)⟩ rfl rfl) hl.1 rfl (Nat.le_of_ble_eq_true rfl) ⟨Nat.zero_le _, Nat.zero_le _⟩ dd_Ledger_settleTimedOut_80) hS (fun _ h => h) (fun H locs hP _ _ hS => ?_)
          refine lv_istore F.1 F.2.1 dd_Ledger_settleTimedOut_83 hl (by decide) (lv' := [(7, .int (zr_Ledger_proveNotReceived S i o c j h)), (6, .ref (b0 + zp_o 20 i (12 * c + j))), (0, .ref (b0 + zp_o 2 i 0)), (1, .ref (b0 + zp_o 2 o 0)), (2, .int (nI c)), (3, .int (nI (j + 1))), (4, .int h), (5, .int w)]) rfl (fun ls hl => ?_)
          refine lv_iload F.1 F.2.1 dd_Ledger_settleTimedOut_85 (lv_at hl 0 rfl) ?_
          refine lv_if_eq F.1 F.2.1 dd_Ledger_settleTimedOut_87 (tgt := 93) rfl (fun h87 => ?_) (fun h87 => ?_)
          · refine lv_aload_n F.1 F.2.1 dd_Ledger_settleTimedOut_93 rfl (lv_at hl 2 rfl) ?_
            refine lv_iload_n F.1 F.2.1 dd_Ledger_settleTimedOut_94 rfl (lv_at hl 4 rfl) ?_
            refine lv_iload_n F.1 F.2.1 dd_Ledger_settleTimedOut_95 rfl (lv_at hl 5 rfl) ?_
            refine lv_iconst (v := nI 3) F.1 F.2.1 dd_Ledger_settleTimedOut_96 (by decide) ?_
            refine zw_gov (zw_rV F hE hP (zc_Ledger_settle lc G b0 S i c j (nI 3) (by first | omega | assumption) (by first | omega | assumption) (by first | omega | assumption) (by assumption)) zk_Ledger_settle za_Ledger_settle zb_Ledger_settle wl_Ledger_190 ⟨rfl, rfl, Nat.le_of_ble_eq_true rfl, Nat.le_of_ble_eq_true rfl⟩ (zc_recv (t := 2) (i := i) (j := 0) hE hP ⟨by decide, (show i < 2 by omega), (show 0 < 1 by omega)⟩ rfl rfl) hl.1 rfl (Nat.le_of_ble_eq_true rfl) ⟨Nat.zero_le _, Nat.zero_le _⟩ dd_Ledger_settleTimedOut_97) hS (fun _ h => h) (fun H locs hP _ _ hS => ?_)
            refine lv_aload_n F.1 F.2.1 dd_Ledger_settleTimedOut_100 rfl (lv_at hl 2 rfl) ?_
            refine lv_iload_n F.1 F.2.1 dd_Ledger_settleTimedOut_101 rfl (lv_at hl 4 rfl) ?_
            refine zw_goi (zw_rV F hE hP (zc_Ledger_isOrdered lc G b0 (zu_Ledger_settle S i c j (nI 3)) i c (by first | omega | assumption) (by first | omega | assumption)) zk_Ledger_isOrdered za_Ledger_isOrdered zb_Ledger_isOrdered wl_Ledger_172 ⟨rfl, rfl, Nat.le_of_ble_eq_true rfl, Nat.le_of_ble_eq_true rfl⟩ (zc_recv (t := 2) (i := i) (j := 0) hE hP ⟨by decide, (show i < 2 by omega), (show 0 < 1 by omega)⟩ rfl rfl) hl.1 rfl (Nat.le_of_ble_eq_true rfl) ⟨Nat.zero_le _, Nat.zero_le _⟩ dd_Ledger_settleTimedOut_102) hS (fun _ h => h) (fun H locs hP _ _ hS => ?_)
            refine zn_beq F dd_Ledger_settleTimedOut_105 (tgt := 114) rfl (fun h105 => ?_) (fun h105 => ?_)
            · refine lv_iconst (v := nI 0) F.1 F.2.1 dd_Ledger_settleTimedOut_114 (by decide) ?_
              exact zw_iret F hr hlk hP hS (congrArg (zp_p G b0) (by rw [zu_Ledger_settleTimedOut, if_pos h20, if_neg h28, if_neg h46, if_pos h71, if_pos h87, if_neg h105])) (by rw [zr_Ledger_settleTimedOut, if_pos h20, if_neg h28, if_neg h46, if_pos h71, if_pos h87, if_neg h105]) dd_Ledger_settleTimedOut_115
            · refine lv_aload_n F.1 F.2.1 dd_Ledger_settleTimedOut_108 rfl (lv_at hl 2 rfl) ?_
              refine lv_iload_n F.1 F.2.1 dd_Ledger_settleTimedOut_109 rfl (lv_at hl 4 rfl) ?_
              refine lv_iconst (v := nI 4) F.1 F.2.1 dd_Ledger_settleTimedOut_110 (by decide) ?_
              refine zw_gov (zw_rV F hE hP (zc_Ledger_moveEnd lc G b0 (zu_Ledger_settle S i c j (nI 3)) i c (nI 4) (by first | omega | assumption) (by first | omega | assumption)) zk_Ledger_moveEnd za_Ledger_moveEnd zb_Ledger_moveEnd wl_Ledger_111 ⟨rfl, rfl, Nat.le_of_ble_eq_true rfl, Nat.le_of_ble_eq_true rfl⟩ (zc_recv (t := 2) (i := i) (j := 0) hE hP ⟨by decide, (show i < 2 by omega), (show 0 < 1 by omega)⟩ rfl rfl) hl.1 rfl (Nat.le_of_ble_eq_true rfl) ⟨Nat.zero_le _, Nat.zero_le _⟩ dd_Ledger_settleTimedOut_111) hS (fun _ h => h) (fun H locs hP _ _ hS => ?_)
              refine lv_iconst (v := nI 0) F.1 F.2.1 dd_Ledger_settleTimedOut_114 (by decide) ?_
              exact zw_iret F hr hlk hP hS (congrArg (zp_p G b0) (by rw [zu_Ledger_settleTimedOut, if_pos h20, if_neg h28, if_neg h46, if_pos h71, if_pos h87, if_pos h105])) (by rw [zr_Ledger_settleTimedOut, if_pos h20, if_neg h28, if_neg h46, if_pos h71, if_pos h87, if_pos h105]) dd_Ledger_settleTimedOut_115
          · refine lv_iload F.1 F.2.1 dd_Ledger_settleTimedOut_90 (lv_at hl 0 rfl) ?_
            exact zw_iret F hr hlk hP hS (congrArg (zp_p G b0) (by rw [zu_Ledger_settleTimedOut, if_pos h20, if_neg h28, if_neg h46, if_pos h71, if_neg h87])) (by rw [zr_Ledger_settleTimedOut, if_pos h20, if_neg h28, if_neg h46, if_pos h71, if_neg h87]) dd_Ledger_settleTimedOut_92
    · refine lv_iload F.1 F.2.1 dd_Ledger_settleTimedOut_31 (lv_at hl 5 rfl) ?_
      refine lv_aload F.1 F.2.1 dd_Ledger_settleTimedOut_33 (lv_at hl 0 rfl) ?_
      refine zc_gN (t := 20) (i := i) (j := 12 * c + j) F hE hP ⟨by decide, (show i < 2 by omega), (show 12 * c + j < 36 by omega)⟩ rfl rfl zi_Packet 4 (by decide) rfl wf_Ledger_142 rfl dd_Ledger_settleTimedOut_35 ?_
      refine lv_icmp_ge F.1 F.2.1 dd_Ledger_settleTimedOut_38 (tgt := 44) rfl (fun h38 => ?_) (fun h38 => ?_)
      · refine lv_iload F.1 F.2.1 dd_Ledger_settleTimedOut_44 (lv_at hl 6 rfl) ?_
        refine lv_if_eq F.1 F.2.1 dd_Ledger_settleTimedOut_46 (tgt := 66) rfl (fun h46 => ?_) (fun h46 => ?_)
        · refine lv_iconst (v := nI 0) F.1 F.2.1 dd_Ledger_settleTimedOut_66 (by decide) ?_
          refine lv_istore F.1 F.2.1 dd_Ledger_settleTimedOut_67 hl (by decide) (lv' := [(7, .int (nI 0)), (6, .ref (b0 + zp_o 20 i (12 * c + j))), (0, .ref (b0 + zp_o 2 i 0)), (1, .ref (b0 + zp_o 2 o 0)), (2, .int (nI c)), (3, .int (nI (j + 1))), (4, .int h), (5, .int w)]) rfl (fun ls hl => ?_)
          refine lv_iload F.1 F.2.1 dd_Ledger_settleTimedOut_69 (lv_at hl 0 rfl) ?_
          refine lv_if_ne F.1 F.2.1 dd_Ledger_settleTimedOut_71 (tgt := 85) rfl (fun h71 => absurd h71 (by decide)) (fun h71 => ?_)
          refine lv_aload_n F.1 F.2.1 dd_Ledger_settleTimedOut_74 rfl (lv_at hl 2 rfl) ?_
          refine lv_aload_n F.1 F.2.1 dd_Ledger_settleTimedOut_75 rfl (lv_at hl 3 rfl) ?_
          refine lv_iload_n F.1 F.2.1 dd_Ledger_settleTimedOut_76 rfl (lv_at hl 4 rfl) ?_
          refine lv_iload_n F.1 F.2.1 dd_Ledger_settleTimedOut_77 rfl (lv_at hl 5 rfl) ?_
          refine lv_iload F.1 F.2.1 dd_Ledger_settleTimedOut_78 (lv_at hl 6 rfl) ?_
          refine zw_goi (zw_rV F hE hP (zc_Ledger_proveNotReceived lc G b0 S i o c j h (by first | omega | assumption) (by first | omega | assumption) (by first | omega | assumption) (by first | omega | assumption) (by assumption)) zk_Ledger_proveNotReceived za_Ledger_proveNotReceived zb_Ledger_proveNotReceived wl_Ledger_193 ⟨rfl, rfl, Nat.le_of_ble_eq_true rfl, Nat.le_of_ble_eq_true rfl⟩ (zc_recv (t := 2) (i := i) (j := 0) hE hP ⟨by decide, (show i < 2 by omega), (show 0 < 1 by omega)⟩ rfl rfl) hl.1 rfl (Nat.le_of_ble_eq_true rfl) ⟨Nat.zero_le _, Nat.zero_le _⟩ dd_Ledger_settleTimedOut_80) hS (fun _ h => h) (fun H locs hP _ _ hS => ?_)
          refine lv_istore F.1 F.2.1 dd_Ledger_settleTimedOut_83 hl (by decide) (lv' := [(7, .int (zr_Ledger_proveNotReceived S i o c j h)), (6, .ref (b0 + zp_o 20 i (12 * c + j))), (0, .ref (b0 + zp_o 2 i 0)), (1, .ref (b0 + zp_o 2 o 0)), (2, .int (nI c)), (3, .int (nI (j + 1))), (4, .int h), (5, .int w)]) rfl (fun ls hl => ?_)
          refine lv_iload F.1 F.2.1 dd_Ledger_settleTimedOut_85 (lv_at hl 0 rfl) ?_
          refine lv_if_eq F.1 F.2.1 dd_Ledger_settleTimedOut_87 (tgt := 93) rfl (fun h87 => ?_) (fun h87 => ?_)
          · refine lv_aload_n F.1 F.2.1 dd_Ledger_settleTimedOut_93 rfl (lv_at hl 2 rfl) ?_
            refine lv_iload_n F.1 F.2.1 dd_Ledger_settleTimedOut_94 rfl (lv_at hl 4 rfl) ?_
            refine lv_iload_n F.1 F.2.1 dd_Ledger_settleTimedOut_95 rfl (lv_at hl 5 rfl) ?_
            refine lv_iconst (v := nI 3) F.1 F.2.1 dd_Ledger_settleTimedOut_96 (by decide) ?_
            refine zw_gov (zw_rV F hE hP (zc_Ledger_settle lc G b0 S i c j (nI 3) (by first | omega | assumption) (by first | omega | assumption) (by first | omega | assumption) (by assumption)) zk_Ledger_settle za_Ledger_settle zb_Ledger_settle wl_Ledger_190 ⟨rfl, rfl, Nat.le_of_ble_eq_true rfl, Nat.le_of_ble_eq_true rfl⟩ (zc_recv (t := 2) (i := i) (j := 0) hE hP ⟨by decide, (show i < 2 by omega), (show 0 < 1 by omega)⟩ rfl rfl) hl.1 rfl (Nat.le_of_ble_eq_true rfl) ⟨Nat.zero_le _, Nat.zero_le _⟩ dd_Ledger_settleTimedOut_97) hS (fun _ h => h) (fun H locs hP _ _ hS => ?_)
            refine lv_aload_n F.1 F.2.1 dd_Ledger_settleTimedOut_100 rfl (lv_at hl 2 rfl) ?_
            refine lv_iload_n F.1 F.2.1 dd_Ledger_settleTimedOut_101 rfl (lv_at hl 4 rfl) ?_
            refine zw_goi (zw_rV F hE hP (zc_Ledger_isOrdered lc G b0 (zu_Ledger_settle S i c j (nI 3)) i c (by first | omega | assumption) (by first | omega | assumption)) zk_Ledger_isOrdered za_Ledger_isOrdered zb_Ledger_isOrdered wl_Ledger_172 ⟨rfl, rfl, Nat.le_of_ble_eq_true rfl, Nat.le_of_ble_eq_true rfl⟩ (zc_recv (t := 2) (i := i) (j := 0) hE hP ⟨by decide, (show i < 2 by omega), (show 0 < 1 by omega)⟩ rfl rfl) hl.1 rfl (Nat.le_of_ble_eq_true rfl) ⟨Nat.zero_le _, Nat.zero_le _⟩ dd_Ledger_settleTimedOut_102) hS (fun _ h => h) (fun H locs hP _ _ hS => ?_)
            refine zn_beq F dd_Ledger_settleTimedOut_105 (tgt := 114) rfl (fun h105 => ?_) (fun h105 => ?_)
            · refine lv_iconst (v := nI 0) F.1 F.2.1 dd_Ledger_settleTimedOut_114 (by decide) ?_
              exact zw_iret F hr hlk hP hS (congrArg (zp_p G b0) (by rw [zu_Ledger_settleTimedOut, if_pos h20, if_pos h28, if_pos h38, if_pos h46, if_pos h87, if_neg h105])) (by rw [zr_Ledger_settleTimedOut, if_pos h20, if_pos h28, if_pos h38, if_pos h46, if_pos h87, if_neg h105]) dd_Ledger_settleTimedOut_115
            · refine lv_aload_n F.1 F.2.1 dd_Ledger_settleTimedOut_108 rfl (lv_at hl 2 rfl) ?_
              refine lv_iload_n F.1 F.2.1 dd_Ledger_settleTimedOut_109 rfl (lv_at hl 4 rfl) ?_
              refine lv_iconst (v := nI 4) F.1 F.2.1 dd_Ledger_settleTimedOut_110 (by decide) ?_
              refine zw_gov (zw_rV F hE hP (zc_Ledger_moveEnd lc G b0 (zu_Ledger_settle S i c j (nI 3)) i c (nI 4) (by first | omega | assumption) (by first | omega | assumption)) zk_Ledger_moveEnd za_Ledger_moveEnd zb_Ledger_moveEnd wl_Ledger_111 ⟨rfl, rfl, Nat.le_of_ble_eq_true rfl, Nat.le_of_ble_eq_true rfl⟩ (zc_recv (t := 2) (i := i) (j := 0) hE hP ⟨by decide, (show i < 2 by omega), (show 0 < 1 by omega)⟩ rfl rfl) hl.1 rfl (Nat.le_of_ble_eq_true rfl) ⟨Nat.zero_le _, Nat.zero_le _⟩ dd_Ledger_settleTimedOut_111) hS (fun _ h => h) (fun H locs hP _ _ hS => ?_)
              refine lv_iconst (v := nI 0) F.1 F.2.1 dd_Ledger_settleTimedOut_114 (by decide) ?_
              exact zw_iret F hr hlk hP hS (congrArg (zp_p G b0) (by rw [zu_Ledger_settleTimedOut, if_pos h20, if_pos h28, if_pos h38, if_pos h46, if_pos h87, if_pos h105])) (by rw [zr_Ledger_settleTimedOut, if_pos h20, if_pos h28, if_pos h38, if_pos h46, if_pos h87, if_pos h105]) dd_Ledger_settleTimedOut_115
          · refine lv_iload F.1 F.2.1 dd_Ledger_settleTimedOut_90 (lv_at hl 0 rfl) ?_
            exact zw_iret F hr hlk hP hS (congrArg (zp_p G b0) (by rw [zu_Ledger_settleTimedOut, if_pos h20, if_pos h28, if_pos h38, if_pos h46, if_neg h87])) (by rw [zr_Ledger_settleTimedOut, if_pos h20, if_pos h28, if_pos h38, if_pos h46, if_neg h87]) dd_Ledger_settleTimedOut_92
        · refine lv_aload_n F.1 F.2.1 dd_Ledger_settleTimedOut_49 rfl (lv_at hl 1 rfl) ?_
          refine lv_aload_n F.1 F.2.1 dd_Ledger_settleTimedOut_50 rfl (lv_at hl 2 rfl) ?_
          refine lv_iload F.1 F.2.1 dd_Ledger_settleTimedOut_51 (lv_at hl 5 rfl) ?_
          refine lv_iload_n F.1 F.2.1 dd_Ledger_settleTimedOut_53 rfl (lv_at hl 3 rfl) ?_
          refine lv_iconst (v := nI 4) F.1 F.2.1 dd_Ledger_settleTimedOut_54 (by decide) ?_
          refine lv_aload_n F.1 F.2.1 dd_Ledger_settleTimedOut_55 rfl (lv_at hl 1 rfl) ?_
          refine lv_iload_n F.1 F.2.1 dd_Ledger_settleTimedOut_56 rfl (lv_at hl 3 rfl) ?_
          refine zw_goi (zw_rV F hE hP (zc_Ledger_orderOf lc G b0 S i c (by first | omega | assumption) (by first | omega | assumption)) zk_Ledger_orderOf za_Ledger_orderOf zb_Ledger_orderOf wl_Ledger_70 ⟨rfl, rfl, Nat.le_of_ble_eq_true rfl, Nat.le_of_ble_eq_true rfl⟩ (zc_recv (t := 2) (i := i) (j := 0) hE hP ⟨by decide, (show i < 2 by omega), (show 0 < 1 by omega)⟩ rfl rfl) hl.1 rfl (Nat.le_of_ble_eq_true rfl) ⟨Nat.zero_le _, Nat.zero_le _⟩ dd_Ledger_settleTimedOut_57) hS (fun _ h => h) (fun H locs hP _ _ hS => ?_)
          refine zw_goi (zw_rV F hE hP (zc_Ledger_proveEnd lc G b0 S i o h c (nI 4) (zs_or (S 4 i 0 c)) (by first | omega | assumption) (by first | omega | assumption) (by first | omega | assumption) (by assumption)) zk_Ledger_proveEnd za_Ledger_proveEnd zb_Ledger_proveEnd wl_Ledger_107 ⟨rfl, rfl, Nat.le_of_ble_eq_true rfl, Nat.le_of_ble_eq_true rfl⟩ (zc_recv (t := 2) (i := i) (j := 0) hE hP ⟨by decide, (show i < 2 by omega), (show 0 < 1 by omega)⟩ rfl rfl) hl.1 rfl (Nat.le_of_ble_eq_true rfl) ⟨Nat.zero_le _, Nat.zero_le _⟩ dd_Ledger_settleTimedOut_60) hS (fun _ h => h) (fun H locs hP _ _ hS => ?_)
          refine lv_goto F.1 F.2.1 dd_Ledger_settleTimedOut_63 (tgt := 67) rfl ?_
          refine lv_istore F.1 F.2.1 dd_Ledger_settleTimedOut_67 hl (by decide) (lv' := [(7, .int (zs_pv S i o h c (nI 2 * (nI 4) + (zs_or (S 4 i 0 c))))), (6, .ref (b0 + zp_o 20 i (12 * c + j))), (0, .ref (b0 + zp_o 2 i 0)), (1, .ref (b0 + zp_o 2 o 0)), (2, .int (nI c)), (3, .int (nI (j + 1))), (4, .int h), (5, .int w)]) rfl (fun ls hl => ?_)
          refine lv_iload F.1 F.2.1 dd_Ledger_settleTimedOut_69 (lv_at hl 0 rfl) ?_
          refine lv_if_ne F.1 F.2.1 dd_Ledger_settleTimedOut_71 (tgt := 85) rfl (fun h71 => ?_) (fun h71 => ?_)
          · refine lv_iload F.1 F.2.1 dd_Ledger_settleTimedOut_85 (lv_at hl 0 rfl) ?_
            refine lv_if_eq F.1 F.2.1 dd_Ledger_settleTimedOut_87 (tgt := 93) rfl (fun h87 => ?_) (fun h87 => ?_)
            · refine lv_aload_n F.1 F.2.1 dd_Ledger_settleTimedOut_93 rfl (lv_at hl 2 rfl) ?_
              refine lv_iload_n F.1 F.2.1 dd_Ledger_settleTimedOut_94 rfl (lv_at hl 4 rfl) ?_
              refine lv_iload_n F.1 F.2.1 dd_Ledger_settleTimedOut_95 rfl (lv_at hl 5 rfl) ?_
              refine lv_iconst (v := nI 3) F.1 F.2.1 dd_Ledger_settleTimedOut_96 (by decide) ?_
              refine zw_gov (zw_rV F hE hP (zc_Ledger_settle lc G b0 S i c j (nI 3) (by first | omega | assumption) (by first | omega | assumption) (by first | omega | assumption) (by assumption)) zk_Ledger_settle za_Ledger_settle zb_Ledger_settle wl_Ledger_190 ⟨rfl, rfl, Nat.le_of_ble_eq_true rfl, Nat.le_of_ble_eq_true rfl⟩ (zc_recv (t := 2) (i := i) (j := 0) hE hP ⟨by decide, (show i < 2 by omega), (show 0 < 1 by omega)⟩ rfl rfl) hl.1 rfl (Nat.le_of_ble_eq_true rfl) ⟨Nat.zero_le _, Nat.zero_le _⟩ dd_Ledger_settleTimedOut_97) hS (fun _ h => h) (fun H locs hP _ _ hS => ?_)
              refine lv_aload_n F.1 F.2.1 dd_Ledger_settleTimedOut_100 rfl (lv_at hl 2 rfl) ?_
              refine lv_iload_n F.1 F.2.1 dd_Ledger_settleTimedOut_101 rfl (lv_at hl 4 rfl) ?_
              refine zw_goi (zw_rV F hE hP (zc_Ledger_isOrdered lc G b0 (zu_Ledger_settle S i c j (nI 3)) i c (by first | omega | assumption) (by first | omega | assumption)) zk_Ledger_isOrdered za_Ledger_isOrdered zb_Ledger_isOrdered wl_Ledger_172 ⟨rfl, rfl, Nat.le_of_ble_eq_true rfl, Nat.le_of_ble_eq_true rfl⟩ (zc_recv (t := 2) (i := i) (j := 0) hE hP ⟨by decide, (show i < 2 by omega), (show 0 < 1 by omega)⟩ rfl rfl) hl.1 rfl (Nat.le_of_ble_eq_true rfl) ⟨Nat.zero_le _, Nat.zero_le _⟩ dd_Ledger_settleTimedOut_102) hS (fun _ h => h) (fun H locs hP _ _ hS => ?_)
              refine zn_beq F dd_Ledger_settleTimedOut_105 (tgt := 114) rfl (fun h105 => ?_) (fun h105 => ?_)
              · refine lv_iconst (v := nI 0) F.1 F.2.1 dd_Ledger_settleTimedOut_114 (by decide) ?_
                exact zw_iret F hr hlk hP hS (congrArg (zp_p G b0) (by rw [zu_Ledger_settleTimedOut, if_pos h20, if_pos h28, if_pos h38, if_neg h46, if_neg h71, if_pos h87, if_neg h105])) (by rw [zr_Ledger_settleTimedOut, if_pos h20, if_pos h28, if_pos h38, if_neg h46, if_neg h71, if_pos h87, if_neg h105]) dd_Ledger_settleTimedOut_115
              · refine lv_aload_n F.1 F.2.1 dd_Ledger_settleTimedOut_108 rfl (lv_at hl 2 rfl) ?_
                refine lv_iload_n F.1 F.2.1 dd_Ledger_settleTimedOut_109 rfl (lv_at hl 4 rfl) ?_
                refine lv_iconst (v := nI 4) F.1 F.2.1 dd_Ledger_settleTimedOut_110 (by decide) ?_
                refine zw_gov (zw_rV F hE hP (zc_Ledger_moveEnd lc G b0 (zu_Ledger_settle S i c j (nI 3)) i c (nI 4) (by first | omega | assumption) (by first | omega | assumption)) zk_Ledger_moveEnd za_Ledger_moveEnd zb_Ledger_moveEnd wl_Ledger_111 ⟨rfl, rfl, Nat.le_of_ble_eq_true rfl, Nat.le_of_ble_eq_true rfl⟩ (zc_recv (t := 2) (i := i) (j := 0) hE hP ⟨by decide, (show i < 2 by omega), (show 0 < 1 by omega)⟩ rfl rfl) hl.1 rfl (Nat.le_of_ble_eq_true rfl) ⟨Nat.zero_le _, Nat.zero_le _⟩ dd_Ledger_settleTimedOut_111) hS (fun _ h => h) (fun H locs hP _ _ hS => ?_)
                refine lv_iconst (v := nI 0) F.1 F.2.1 dd_Ledger_settleTimedOut_114 (by decide) ?_
                exact zw_iret F hr hlk hP hS (congrArg (zp_p G b0) (by rw [zu_Ledger_settleTimedOut, if_pos h20, if_pos h28, if_pos h38, if_neg h46, if_neg h71, if_pos h87, if_pos h105])) (by rw [zr_Ledger_settleTimedOut, if_pos h20, if_pos h28, if_pos h38, if_neg h46, if_neg h71, if_pos h87, if_pos h105]) dd_Ledger_settleTimedOut_115
            · refine lv_iload F.1 F.2.1 dd_Ledger_settleTimedOut_90 (lv_at hl 0 rfl) ?_
              exact zw_iret F hr hlk hP hS (congrArg (zp_p G b0) (by rw [zu_Ledger_settleTimedOut, if_pos h20, if_pos h28, if_pos h38, if_neg h46, if_neg h71, if_neg h87])) (by rw [zr_Ledger_settleTimedOut, if_pos h20, if_pos h28, if_pos h38, if_neg h46, if_neg h71, if_neg h87]) dd_Ledger_settleTimedOut_92
          · refine lv_aload_n F.1 F.2.1 dd_Ledger_settleTimedOut_74 rfl (lv_at hl 2 rfl) ?_
            refine lv_aload_n F.1 F.2.1 dd_Ledger_settleTimedOut_75 rfl (lv_at hl 3 rfl) ?_
            refine lv_iload_n F.1 F.2.1 dd_Ledger_settleTimedOut_76 rfl (lv_at hl 4 rfl) ?_
            refine lv_iload_n F.1 F.2.1 dd_Ledger_settleTimedOut_77 rfl (lv_at hl 5 rfl) ?_
            refine lv_iload F.1 F.2.1 dd_Ledger_settleTimedOut_78 (lv_at hl 6 rfl) ?_
            refine zw_goi (zw_rV F hE hP (zc_Ledger_proveNotReceived lc G b0 S i o c j h (by first | omega | assumption) (by first | omega | assumption) (by first | omega | assumption) (by first | omega | assumption) (by assumption)) zk_Ledger_proveNotReceived za_Ledger_proveNotReceived zb_Ledger_proveNotReceived wl_Ledger_193 ⟨rfl, rfl, Nat.le_of_ble_eq_true rfl, Nat.le_of_ble_eq_true rfl⟩ (zc_recv (t := 2) (i := i) (j := 0) hE hP ⟨by decide, (show i < 2 by omega), (show 0 < 1 by omega)⟩ rfl rfl) hl.1 rfl (Nat.le_of_ble_eq_true rfl) ⟨Nat.zero_le _, Nat.zero_le _⟩ dd_Ledger_settleTimedOut_80) hS (fun _ h => h) (fun H locs hP _ _ hS => ?_)
            refine lv_istore F.1 F.2.1 dd_Ledger_settleTimedOut_83 hl (by decide) (lv' := [(7, .int (zr_Ledger_proveNotReceived S i o c j h)), (6, .ref (b0 + zp_o 20 i (12 * c + j))), (0, .ref (b0 + zp_o 2 i 0)), (1, .ref (b0 + zp_o 2 o 0)), (2, .int (nI c)), (3, .int (nI (j + 1))), (4, .int h), (5, .int w)]) rfl (fun ls hl => ?_)
            refine lv_iload F.1 F.2.1 dd_Ledger_settleTimedOut_85 (lv_at hl 0 rfl) ?_
            refine lv_if_eq F.1 F.2.1 dd_Ledger_settleTimedOut_87 (tgt := 93) rfl (fun h87 => ?_) (fun h87 => ?_)
            · refine lv_aload_n F.1 F.2.1 dd_Ledger_settleTimedOut_93 rfl (lv_at hl 2 rfl) ?_
              refine lv_iload_n F.1 F.2.1 dd_Ledger_settleTimedOut_94 rfl (lv_at hl 4 rfl) ?_
              refine lv_iload_n F.1 F.2.1 dd_Ledger_settleTimedOut_95 rfl (lv_at hl 5 rfl) ?_
              refine lv_iconst (v := nI 3) F.1 F.2.1 dd_Ledger_settleTimedOut_96 (by decide) ?_
              refine zw_gov (zw_rV F hE hP (zc_Ledger_settle lc G b0 S i c j (nI 3) (by first | omega | assumption) (by first | omega | assumption) (by first | omega | assumption) (by assumption)) zk_Ledger_settle za_Ledger_settle zb_Ledger_settle wl_Ledger_190 ⟨rfl, rfl, Nat.le_of_ble_eq_true rfl, Nat.le_of_ble_eq_true rfl⟩ (zc_recv (t := 2) (i := i) (j := 0) hE hP ⟨by decide, (show i < 2 by omega), (show 0 < 1 by omega)⟩ rfl rfl) hl.1 rfl (Nat.le_of_ble_eq_true rfl) ⟨Nat.zero_le _, Nat.zero_le _⟩ dd_Ledger_settleTimedOut_97) hS (fun _ h => h) (fun H locs hP _ _ hS => ?_)
              refine lv_aload_n F.1 F.2.1 dd_Ledger_settleTimedOut_100 rfl (lv_at hl 2 rfl) ?_
              refine lv_iload_n F.1 F.2.1 dd_Ledger_settleTimedOut_101 rfl (lv_at hl 4 rfl) ?_
              refine zw_goi (zw_rV F hE hP (zc_Ledger_isOrdered lc G b0 (zu_Ledger_settle S i c j (nI 3)) i c (by first | omega | assumption) (by first | omega | assumption)) zk_Ledger_isOrdered za_Ledger_isOrdered zb_Ledger_isOrdered wl_Ledger_172 ⟨rfl, rfl, Nat.le_of_ble_eq_true rfl, Nat.le_of_ble_eq_true rfl⟩ (zc_recv (t := 2) (i := i) (j := 0) hE hP ⟨by decide, (show i < 2 by omega), (show 0 < 1 by omega)⟩ rfl rfl) hl.1 rfl (Nat.le_of_ble_eq_true rfl) ⟨Nat.zero_le _, Nat.zero_le _⟩ dd_Ledger_settleTimedOut_102) hS (fun _ h => h) (fun H locs hP _ _ hS => ?_)
              refine zn_beq F dd_Ledger_settleTimedOut_105 (tgt := 114) rfl (fun h105 => ?_) (fun h105 => ?_)
              · refine lv_iconst (v := nI 0) F.1 F.2.1 dd_Ledger_settleTimedOut_114 (by decide) ?_
                exact zw_iret F hr hlk hP hS (congrArg (zp_p G b0) (by rw [zu_Ledger_settleTimedOut, if_pos h20, if_pos h28, if_pos h38, if_neg h46, if_pos h71, if_pos h87, if_neg h105])) (by rw [zr_Ledger_settleTimedOut, if_pos h20, if_pos h28, if_pos h38, if_neg h46, if_pos h71, if_pos h87, if_neg h105]) dd_Ledger_settleTimedOut_115
              · refine lv_aload_n F.1 F.2.1 dd_Ledger_settleTimedOut_108 rfl (lv_at hl 2 rfl) ?_
                refine lv_iload_n F.1 F.2.1 dd_Ledger_settleTimedOut_109 rfl (lv_at hl 4 rfl) ?_
                refine lv_iconst (v := nI 4) F.1 F.2.1 dd_Ledger_settleTimedOut_110 (by decide) ?_
                refine zw_gov (zw_rV F hE hP (zc_Ledger_moveEnd lc G b0 (zu_Ledger_settle S i c j (nI 3)) i c (nI 4) (by first | omega | assumption) (by first | omega | assumption)) zk_Ledger_moveEnd za_Ledger_moveEnd zb_Ledger_moveEnd wl_Ledger_111 ⟨rfl, rfl, Nat.le_of_ble_eq_true rfl, Nat.le_of_ble_eq_true rfl⟩ (zc_recv (t := 2) (i := i) (j := 0) hE hP ⟨by decide, (show i < 2 by omega), (show 0 < 1 by omega)⟩ rfl rfl) hl.1 rfl (Nat.le_of_ble_eq_true rfl) ⟨Nat.zero_le _, Nat.zero_le _⟩ dd_Ledger_settleTimedOut_111) hS (fun _ h => h) (fun H locs hP _ _ hS => ?_)
                refine lv_iconst (v := nI 0) F.1 F.2.1 dd_Ledger_settleTimedOut_114 (by decide) ?_
                exact zw_iret F hr hlk hP hS (congrArg (zp_p G b0) (by rw [zu_Ledger_settleTimedOut, if_pos h20, if_pos h28, if_pos h38, if_neg h46, if_pos h71, if_pos h87, if_pos h105])) (by rw [zr_Ledger_settleTimedOut, if_pos h20, if_pos h28, if_pos h38, if_neg h46, if_pos h71, if_pos h87, if_pos h105]) dd_Ledger_settleTimedOut_115
            · refine lv_iload F.1 F.2.1 dd_Ledger_settleTimedOut_90 (lv_at hl 0 rfl) ?_
              exact zw_iret F hr hlk hP hS (congrArg (zp_p G b0) (by rw [zu_Ledger_settleTimedOut, if_pos h20, if_pos h28, if_pos h38, if_neg h46, if_pos h71, if_neg h87])) (by rw [zr_Ledger_settleTimedOut, if_pos h20, if_pos h28, if_pos h38, if_neg h46, if_pos h71, if_neg h87]) dd_Ledger_settleTimedOut_92
      · refine lv_bipush (v := (-9)) F.1 F.2.1 dd_Ledger_settleTimedOut_41 (by decide) ?_
        exact zw_iret F hr hlk hP hS (congrArg (zp_p G b0) (by rw [zu_Ledger_settleTimedOut, if_pos h20, if_pos h28, if_neg h38])) (by rw [zr_Ledger_settleTimedOut, if_pos h20, if_pos h28, if_neg h38]) dd_Ledger_settleTimedOut_43
  · refine lv_bipush (v := (-8)) F.1 F.2.1 dd_Ledger_settleTimedOut_23 (by decide) ?_
    exact zw_iret F hr hlk hP hS (congrArg (zp_p G b0) (by rw [zu_Ledger_settleTimedOut, if_neg h20])) (by rw [zr_Ledger_settleTimedOut, if_neg h20]) dd_Ledger_settleTimedOut_25
set_option maxHeartbeats 4000000 in
set_option maxRecDepth 100000 in
theorem zl_Store_copyFrom {p : Program} {e : Env} {R : Room} {s : State} {m : MethodId} {below : List Frame} {meth : Method} {cx : Code} {av : Array Value} {Qf : State → Prop} (lc : Launch) (G : zw_G) (b0 : Nat) (S : zs_S) (i j : Nat) (hi : i < 2) (hj : j < 9) (hj0 : 1 ≤ j) (hB : zs_B S) (F : CallFix p m cx bm_Store_copyFrom 3 s av zw_WS "TwinLedgers$Store") (hE : zw_E G s) (kk : ∀ (ls : Array Slot) (H : Heap) (locs : List Loc), lv_has ls 3 [(2, .int (nI 114)), (0, .ref (b0 + zp_o 3 i j)), (1, .ref (b0 + zp_o 3 i 0))] → va_P G.1 zw_cl (zw_l b0 176 (zp_p G b0 (zs_cp S i j 114))) H → va_S (zw_A b0 176) s.heap H locs → W p lc e R s m av below meth cx H locs 0 0 Qf (F0 m 38 ls [])) : ∀ (r k : Nat), k + r = 114 → ∀ (ls : Array Slot) (H : Heap) (locs : List Loc), lv_has ls 3 [(2, .int (nI k)), (0, .ref (b0 + zp_o 3 i j)), (1, .ref (b0 + zp_o 3 i 0))] → va_P G.1 zw_cl (zw_l b0 176 (zp_p G b0 (zs_cp S i j k))) H → va_S (zw_A b0 176) s.heap H locs → W p lc e R s m av below meth cx H locs 0 0 Qf (F0 m 2 ls []) := by
  intro r
  induction r with
  | zero =>
    intro k hk ls H locs hl hP hS
    obtain rfl : k = 114 := by omega
    refine lv_iload_n F.1 F.2.1 dd_Store_copyFrom_2 rfl (lv_at hl 0 rfl) ?_
    refine lv_bipush (v := nI 114) F.1 F.2.1 dd_Store_copyFrom_3 (by decide) ?_
    refine zn_cge F dd_Store_copyFrom_5 (tgt := 38) rfl (by omega) (by omega) (fun h5 => ?_) (fun h5 => absurd h5 (by decide))
    exact kk ls H locs hl hP hS
  | succ r ih =>
    intro k hk ls H locs hl hP hS
    refine lv_iload_n F.1 F.2.1 dd_Store_copyFrom_2 rfl (lv_at hl 0 rfl) ?_
    refine lv_bipush (v := nI 114) F.1 F.2.1 dd_Store_copyFrom_3 (by decide) ?_
    refine zn_cge F dd_Store_copyFrom_5 (tgt := 38) rfl (by omega) (by omega) (fun h5 => absurd h5 (by omega)) (fun h5 => ?_)
    refine lv_aload_n F.1 F.2.1 dd_Store_copyFrom_8 rfl (lv_at hl 1 rfl) ?_
    refine zc_gF (t := 3) (i := i) (j := j) F hE hP ⟨by decide, (show i < 2 by omega), (show j < 9 by omega)⟩ rfl rfl zi_Store 0 (by decide) rfl wf_Store_11 rfl dd_Store_copyFrom_9 ?_
    refine lv_iload_n F.1 F.2.1 dd_Store_copyFrom_12 rfl (lv_at hl 0 rfl) ?_
    refine lv_aload_n F.1 F.2.1 dd_Store_copyFrom_13 rfl (lv_at hl 2 rfl) ?_
    refine zc_gF (t := 3) (i := i) (j := 0) F hE hP ⟨by decide, (show i < 2 by omega), (show 0 < 9 by omega)⟩ rfl rfl zi_Store 0 (by decide) rfl wf_Store_11 rfl dd_Store_copyFrom_14 ?_
    refine lv_iload_n F.1 F.2.1 dd_Store_copyFrom_17 rfl (lv_at hl 0 rfl) ?_
    refine zc_iald (t := 4) (i := i) (j := 0) (k := k) (N := 114) F hE hP ⟨by decide, (show i < 2 by omega), (show 0 < 9 by omega)⟩ (fun _ => rfl) (by omega) (by decide) dd_Store_copyFrom_18 ?_
    refine zn_top (y := S 4 i 0 k) (zs_cpj (by omega)) ?_
    refine zc_iast (t := 4) (i := i) (j := j) (k := k) (N := 114) F hE hP hS (fun _ h => h) ⟨by decide, (show i < 2 by omega), (show j < 9 by omega)⟩ (fun _ => rfl) (by omega) (by decide)  dd_Store_copyFrom_19 (fun H locs hP hS => ?_)
    refine lv_aload_n F.1 F.2.1 dd_Store_copyFrom_20 rfl (lv_at hl 1 rfl) ?_
    refine zc_gF (t := 3) (i := i) (j := j) F hE hP ⟨by decide, (show i < 2 by omega), (show j < 9 by omega)⟩ rfl rfl zi_Store 1 (by decide) rfl wf_Store_15 rfl dd_Store_copyFrom_21 ?_
    refine lv_iload_n F.1 F.2.1 dd_Store_copyFrom_24 rfl (lv_at hl 0 rfl) ?_
    refine lv_aload_n F.1 F.2.1 dd_Store_copyFrom_25 rfl (lv_at hl 2 rfl) ?_
    refine zc_gF (t := 3) (i := i) (j := 0) F hE hP ⟨by decide, (show i < 2 by omega), (show 0 < 9 by omega)⟩ rfl rfl zi_Store 1 (by decide) rfl wf_Store_15 rfl dd_Store_copyFrom_26 ?_
    refine lv_iload_n F.1 F.2.1 dd_Store_copyFrom_29 rfl (lv_at hl 0 rfl) ?_
    refine zc_zald (t := 5) (i := i) (j := 0) (k := k) (N := 114) F hE hP ⟨by decide, (show i < 2 by omega), (show 0 < 9 by omega)⟩ (fun _ => rfl) (by omega) (by decide) dd_Store_copyFrom_30 ?_
    refine zn_top (y := (zs_cp S i j k) 5 i 0 k) (by rw [zs_ut (by decide)]) ?_
    refine zn_top (y := S 5 i 0 k) (zs_cpj (by omega)) ?_
    refine zc_zast (t := 5) (i := i) (j := j) (k := k) (N := 114) F hE hP hS (fun _ h => h) ⟨by decide, (show i < 2 by omega), (show j < 9 by omega)⟩ (fun _ => rfl) (by omega) (by decide) (hB _ _ _) dd_Store_copyFrom_31 (fun H locs hP hS => ?_)
    refine lv_iinc F.1 F.2.1 dd_Store_copyFrom_32 hl (k := 0) rfl (v := nI (k + 1)) (nI_1 _) (by decide) (lv' := [(2, .int (nI (k + 1))), (0, .ref (b0 + zp_o 3 i j)), (1, .ref (b0 + zp_o 3 i 0))]) rfl (fun ls hl => ?_)
    refine lv_goto F.1 F.2.1 dd_Store_copyFrom_35 (tgt := 2) rfl ?_
    rw [zs_cps] at hP
    exact ih (k + 1) (by omega) ls H locs (lv_sub hl [0, 1, 2] rfl) hP hS
set_option maxHeartbeats 4000000 in
set_option maxRecDepth 100000 in
theorem zc_Store_copyFrom (lc : Launch) (G : zw_G) (b0 : Nat) (S : zs_S) (i : Nat) (j : Nat) (hi : i < 2) (hj : j < 9) (hj0 : 1 ≤ j) (hB : zs_B S) : zw_M lc ym_Store_copyFrom bm_Store_copyFrom 3 none { frames := 0, cells := 0, slots := 0, locals := 0 } G b0 176 (zp_p G b0 S) [.ref (b0 + zp_o 3 i j), .ref (b0 + zp_o 3 i 0)] (zw_Qv G b0 176 (zp_p G b0 (zs_cp S i j 114))) := by
  refine zw_of (by decide) (Nat.le_of_ble_eq_true rfl) ?_
  intro p e s m below meth cx ls F hr hlk hE hP hS hl
  have hl : lv_has ls 3 [(0, .ref (b0 + zp_o 3 i j)), (1, .ref (b0 + zp_o 3 i 0))] := hl
  refine lv_iconst (v := nI 0) F.1 F.2.1 dd_Store_copyFrom_0 (by decide) ?_
  refine lv_istore_n F.1 F.2.1 dd_Store_copyFrom_1 rfl hl (by decide) (lv' := [(2, .int (nI 0)), (0, .ref (b0 + zp_o 3 i j)), (1, .ref (b0 + zp_o 3 i 0))]) rfl (fun ls hl => ?_)
  refine zl_Store_copyFrom lc G b0 S i j hi hj hj0 hB F hE (fun ls H locs hl hP hS => ?_) 114 0 (by omega) ls _ _ (lv_sub hl [0, 1, 2] rfl) (by rw [zs_cp0]; exact hP) hS
  exact zw_vret F hr hlk hP hS rfl dd_Store_copyFrom_38
set_option maxHeartbeats 4000000 in
set_option maxRecDepth 100000 in
theorem zl_Store_rootBy1 {p : Program} {e : Env} {R : Room} {s : State} {m : MethodId} {below : List Frame} {meth : Method} {cx : Code} {av : Array Value} {Qf : State → Prop} (lc : Launch) (G : zw_G) (b0 : Nat) (S : zs_S) (i j : Nat) (hi : i < 2) (hj : j < 9) (hR : 1 ≤ R.frames ∧ 24 ≤ R.locals) (F : CallFix p m cx bm_Store_rootBy 5 s av zw_WS "TwinLedgers$Store") (hE : zw_E G s) : ∀ (r k n : Nat) (g : Nat → Int32), k + r = 114 → n ≤ k → (∀ (ls : Array Slot) (H : Heap) (locs : List Loc), lv_has ls 5 [(3, .int (nI 114)), (2, .int (nI (zs_c1 (S 5 i j) n k r))), (0, .ref (b0 + zp_o 3 i j)), (1, .ref (b0 + zp_o 7 i 0))] → va_P G.1 zw_cl (zw_l b0 176 (zp_p G b0 (zs_nd S i (zs_g1 (S 5 i j) (S 4 i j) g n k r)))) H → va_S (zw_A b0 176) s.heap H locs → W p lc e R s m av below meth cx H locs 0 0 Qf (F0 m 48 ls [])) → ∀ (ls : Array Slot) (H : Heap) (locs : List Loc), lv_has ls 5 [(3, .int (nI k)), (2, .int (nI n)), (0, .ref (b0 + zp_o 3 i j)), (1, .ref (b0 + zp_o 7 i 0))] → va_P G.1 zw_cl (zw_l b0 176 (zp_p G b0 (zs_nd S i g))) H → va_S (zw_A b0 176) s.heap H locs → W p lc e R s m av below meth cx H locs 0 0 Qf (F0 m 4 ls []) := by
  intro r
  induction r with
  | zero =>
    intro k n g hk hn kk ls H locs hl hP hS
    obtain rfl : k = 114 := by omega
    refine lv_iload_n F.1 F.2.1 dd_Store_rootBy_4 rfl (lv_at hl 0 rfl) ?_
    refine lv_bipush (v := nI 114) F.1 F.2.1 dd_Store_rootBy_5 (by decide) ?_
    refine zn_cge F dd_Store_rootBy_7 (tgt := 48) rfl (by omega) (by omega) (fun h7 => ?_) (fun h7 => absurd h7 (by decide))
    exact kk ls H locs (lv_sub hl [0, 1, 2, 3] rfl) hP hS
  | succ r ih =>
    intro k n g hk hn kk ls H locs hl hP hS
    rw [zs_c1s, zs_g1s] at kk
    refine lv_iload_n F.1 F.2.1 dd_Store_rootBy_4 rfl (lv_at hl 0 rfl) ?_
    refine lv_bipush (v := nI 114) F.1 F.2.1 dd_Store_rootBy_5 (by decide) ?_
    refine zn_cge F dd_Store_rootBy_7 (tgt := 48) rfl (by omega) (by omega) (fun h7 => absurd h7 (by omega)) (fun h7 => ?_)
    refine lv_aload_n F.1 F.2.1 dd_Store_rootBy_10 rfl (lv_at hl 2 rfl) ?_
    refine zc_gF (t := 3) (i := i) (j := j) F hE hP ⟨by decide, (show i < 2 by omega), (show j < 9 by omega)⟩ rfl rfl zi_Store 1 (by decide) rfl wf_Store_15 rfl dd_Store_rootBy_11 ?_
    refine lv_iload_n F.1 F.2.1 dd_Store_rootBy_14 rfl (lv_at hl 0 rfl) ?_
    refine zc_zald (t := 5) (i := i) (j := j) (k := k) (N := 114) F hE hP ⟨by decide, (show i < 2 by omega), (show j < 9 by omega)⟩ (fun _ => rfl) (by omega) (by decide) dd_Store_rootBy_15 ?_
    refine zn_top (y := S 5 i j k) (zs_ndt (by decide)) ?_
    refine lv_if_eq F.1 F.2.1 dd_Store_rootBy_16 (tgt := 42) rfl (fun h16 => ?_) (fun h16 => ?_)
    · refine lv_iinc F.1 F.2.1 dd_Store_rootBy_42 hl (k := 0) rfl (v := nI (k + 1)) (nI_1 _) (by decide) (lv' := [(3, .int (nI (k + 1))), (2, .int (nI n)), (0, .ref (b0 + zp_o 3 i j)), (1, .ref (b0 + zp_o 7 i 0))]) rfl (fun ls hl => ?_)
      refine lv_goto F.1 F.2.1 dd_Store_rootBy_45 (tgt := 4) rfl ?_
      rw [if_pos h16, if_pos h16] at kk
      exact ih (k + 1) n g (by omega) (by omega) kk ls H locs (lv_sub hl [0, 1, 2, 3] rfl) hP hS
    · refine lv_aload_n F.1 F.2.1 dd_Store_rootBy_19 rfl (lv_at hl 3 rfl) ?_
      refine lv_iload_n F.1 F.2.1 dd_Store_rootBy_20 rfl (lv_at hl 1 rfl) ?_
      refine lv_iconst (v := nI 1) F.1 F.2.1 dd_Store_rootBy_21 (by decide) ?_
      refine lv_iload_n F.1 F.2.1 dd_Store_rootBy_22 rfl (lv_at hl 0 rfl) ?_
      refine zw_goi (zw_rS F hE hP (zc_Store_keyOf lc G b0 (zs_nd S i g) k (by first | omega | assumption)) zk_Store_keyOf za_Store_keyOf wl_Store_19 ⟨rfl, rfl, Nat.le_trans (Nat.le_of_ble_eq_true rfl) hR.1, Nat.le_trans (Nat.le_of_ble_eq_true rfl) hR.2⟩ hl.1 rfl (Nat.le_of_ble_eq_true rfl) ⟨Nat.zero_le _, Nat.zero_le _⟩ dd_Store_rootBy_23) hS (fun _ h => h) (fun H locs hP _ _ hS => ?_)
      refine zw_goi (zw_rSN F hE hP (zc_TL_mix lc G b0 (zs_nd S i g) (nI 1) (zs_key k)) zk_TL_mix za_TL_mix wl_Store_23 ⟨rfl, rfl, Nat.le_trans (Nat.le_of_ble_eq_true rfl) hR.1, Nat.le_trans (Nat.le_of_ble_eq_true rfl) hR.2⟩ hl.1 rfl (Nat.le_of_ble_eq_true rfl) ⟨Nat.zero_le _, Nat.zero_le _⟩ dd_Store_rootBy_26) hS (fun _ h => h) (fun H locs hP _ _ hS => ?_)
      refine lv_aload_n F.1 F.2.1 dd_Store_rootBy_29 rfl (lv_at hl 2 rfl) ?_
      refine zc_gF (t := 3) (i := i) (j := j) F hE hP ⟨by decide, (show i < 2 by omega), (show j < 9 by omega)⟩ rfl rfl zi_Store 0 (by decide) rfl wf_Store_11 rfl dd_Store_rootBy_30 ?_
      refine lv_iload_n F.1 F.2.1 dd_Store_rootBy_33 rfl (lv_at hl 0 rfl) ?_
      refine zc_iald (t := 4) (i := i) (j := j) (k := k) (N := 114) F hE hP ⟨by decide, (show i < 2 by omega), (show j < 9 by omega)⟩ (fun _ => rfl) (by omega) (by decide) dd_Store_rootBy_34 ?_
      refine zn_top (y := S 4 i j k) (zs_ndt (by decide)) ?_
      refine zw_goi (zw_rSN F hE hP (zc_TL_mix lc G b0 (zs_nd S i g) (zs_mix (nI 1) (zs_key k)) (S 4 i j k)) zk_TL_mix za_TL_mix wl_Store_23 ⟨rfl, rfl, Nat.le_trans (Nat.le_of_ble_eq_true rfl) hR.1, Nat.le_trans (Nat.le_of_ble_eq_true rfl) hR.2⟩ hl.1 rfl (Nat.le_of_ble_eq_true rfl) ⟨Nat.zero_le _, Nat.zero_le _⟩ dd_Store_rootBy_35) hS (fun _ h => h) (fun H locs hP _ _ hS => ?_)
      refine zc_iast (t := 7) (i := i) (j := 0) (k := n) (N := 114) F hE hP hS (fun _ h => h) ⟨by decide, (show i < 2 by omega), (show 0 < 1 by omega)⟩ (fun _ => rfl) (by omega) (by decide)  dd_Store_rootBy_38 (fun H locs hP hS => ?_)
      refine lv_iinc F.1 F.2.1 dd_Store_rootBy_39 hl (k := 1) rfl (v := nI (n + 1)) (nI_1 _) (by decide) (lv' := [(2, .int (nI (n + 1))), (3, .int (nI k)), (0, .ref (b0 + zp_o 3 i j)), (1, .ref (b0 + zp_o 7 i 0))]) rfl (fun ls hl => ?_)
      refine lv_iinc F.1 F.2.1 dd_Store_rootBy_42 hl (k := 1) rfl (v := nI (k + 1)) (nI_1 _) (by decide) (lv' := [(3, .int (nI (k + 1))), (2, .int (nI (n + 1))), (0, .ref (b0 + zp_o 3 i j)), (1, .ref (b0 + zp_o 7 i 0))]) rfl (fun ls hl => ?_)
      refine lv_goto F.1 F.2.1 dd_Store_rootBy_45 (tgt := 4) rfl ?_
      rw [if_neg h16, if_neg h16] at kk
      rw [zs_ndu] at hP
      exact ih (k + 1) (n + 1) (upd g n (zs_leaf (S 4 i j) k)) (by omega) (by omega) kk ls H locs (lv_sub hl [0, 1, 2, 3] rfl) hP hS
set_option maxHeartbeats 4000000 in
set_option maxRecDepth 100000 in
theorem zl_Store_rootBy2 {p : Program} {e : Env} {R : Room} {s : State} {m : MethodId} {below : List Frame} {meth : Method} {cx : Code} {av : Array Value} {Qf : State → Prop} (lc : Launch) (G : zw_G) (b0 : Nat) (S : zs_S) (i j : Nat) (hi : i < 2) (hj : j < 9) (hR : 1 ≤ R.frames ∧ 24 ≤ R.locals) (F : CallFix p m cx bm_Store_rootBy 5 s av zw_WS "TwinLedgers$Store") (hE : zw_E G s) (n st : Nat) (hn : n ≤ 114) (hst : 1 ≤ st) (hst2 : st ≤ 114) : ∀ (f a : Nat) (g : Nat → Int32), n ≤ a + f → a ≤ 1000 → (∀ (b : Nat) (ls : Array Slot) (H : Heap) (locs : List Loc), lv_has ls 5 [(4, .int (nI b)), (3, .int (nI st)), (2, .int (nI n)), (0, .ref (b0 + zp_o 3 i j)), (1, .ref (b0 + zp_o 7 i 0))] → va_P G.1 zw_cl (zw_l b0 176 (zp_p G b0 (zs_nd S i (zs_g2 g n st a f)))) H → va_S (zw_A b0 176) s.heap H locs → W p lc e R s m av below meth cx H locs 0 0 Qf (F0 m 104 ls [])) → ∀ (ls : Array Slot) (H : Heap) (locs : List Loc), lv_has ls 5 [(4, .int (nI a)), (3, .int (nI st)), (2, .int (nI n)), (0, .ref (b0 + zp_o 3 i j)), (1, .ref (b0 + zp_o 7 i 0))] → va_P G.1 zw_cl (zw_l b0 176 (zp_p G b0 (zs_nd S i g))) H → va_S (zw_A b0 176) s.heap H locs → W p lc e R s m av below meth cx H locs 0 0 Qf (F0 m 64 ls []) := by
  intro f
  induction f with
  | zero =>
    intro a g hf ha kk ls H locs hl hP hS
    refine lv_iload F.1 F.2.1 dd_Store_rootBy_64 (lv_at hl 0 rfl) ?_
    refine lv_iload_n F.1 F.2.1 dd_Store_rootBy_66 rfl (lv_at hl 1 rfl) ?_
    refine zn_iadd F dd_Store_rootBy_67 ?_
    refine lv_iload_n F.1 F.2.1 dd_Store_rootBy_68 rfl (lv_at hl 2 rfl) ?_
    refine zn_cge F dd_Store_rootBy_69 (tgt := 104) rfl (by omega) (by omega) (fun h69 => ?_) (fun h69 => absurd (show n ≤ a + st by omega) h69)
    exact kk a ls H locs (lv_sub hl [0, 1, 2, 3, 4] rfl) hP hS
  | succ f ih =>
    intro a g hf ha kk ls H locs hl hP hS
    rw [zs_g2s] at kk
    refine lv_iload F.1 F.2.1 dd_Store_rootBy_64 (lv_at hl 0 rfl) ?_
    refine lv_iload_n F.1 F.2.1 dd_Store_rootBy_66 rfl (lv_at hl 1 rfl) ?_
    refine zn_iadd F dd_Store_rootBy_67 ?_
    refine lv_iload_n F.1 F.2.1 dd_Store_rootBy_68 rfl (lv_at hl 2 rfl) ?_
    refine zn_cge F dd_Store_rootBy_69 (tgt := 104) rfl (by omega) (by omega) (fun h69 => ?_) (fun h69 => ?_)
    · rw [if_pos h69] at kk
      exact kk a ls H locs (lv_sub hl [0, 1, 2, 3, 4] rfl) hP hS
    · refine lv_aload_n F.1 F.2.1 dd_Store_rootBy_72 rfl (lv_at hl 4 rfl) ?_
      refine lv_iload F.1 F.2.1 dd_Store_rootBy_73 (lv_at hl 0 rfl) ?_
      refine lv_iconst (v := nI 2) F.1 F.2.1 dd_Store_rootBy_75 (by decide) ?_
      refine lv_aload_n F.1 F.2.1 dd_Store_rootBy_76 rfl (lv_at hl 4 rfl) ?_
      refine lv_iload F.1 F.2.1 dd_Store_rootBy_77 (lv_at hl 0 rfl) ?_
      refine zc_iald (t := 7) (i := i) (j := 0) (k := a) (N := 114) F hE hP ⟨by decide, (show i < 2 by omega), (show 0 < 1 by omega)⟩ (fun _ => rfl) (by omega) (by decide) dd_Store_rootBy_79 ?_
      refine zn_top (y := g a) (zs_nd7) ?_
      refine zw_goi (zw_rSN F hE hP (zc_TL_mix lc G b0 (zs_nd S i g) (nI 2) (g a)) zk_TL_mix za_TL_mix wl_Store_23 ⟨rfl, rfl, Nat.le_trans (Nat.le_of_ble_eq_true rfl) hR.1, Nat.le_trans (Nat.le_of_ble_eq_true rfl) hR.2⟩ hl.1 rfl (Nat.le_of_ble_eq_true rfl) ⟨Nat.zero_le _, Nat.zero_le _⟩ dd_Store_rootBy_80) hS (fun _ h => h) (fun H locs hP _ _ hS => ?_)
      refine lv_aload_n F.1 F.2.1 dd_Store_rootBy_83 rfl (lv_at hl 4 rfl) ?_
      refine lv_iload F.1 F.2.1 dd_Store_rootBy_84 (lv_at hl 0 rfl) ?_
      refine lv_iload_n F.1 F.2.1 dd_Store_rootBy_86 rfl (lv_at hl 1 rfl) ?_
      refine zn_iadd F dd_Store_rootBy_87 ?_
      refine zc_iald (t := 7) (i := i) (j := 0) (k := a + st) (N := 114) F hE hP ⟨by decide, (show i < 2 by omega), (show 0 < 1 by omega)⟩ (fun _ => rfl) (by omega) (by decide) dd_Store_rootBy_88 ?_
      refine zn_top (y := g (a + st)) (zs_nd7) ?_
      refine zw_goi (zw_rSN F hE hP (zc_TL_mix lc G b0 (zs_nd S i g) (zs_mix (nI 2) (g a)) (g (a + st))) zk_TL_mix za_TL_mix wl_Store_23 ⟨rfl, rfl, Nat.le_trans (Nat.le_of_ble_eq_true rfl) hR.1, Nat.le_trans (Nat.le_of_ble_eq_true rfl) hR.2⟩ hl.1 rfl (Nat.le_of_ble_eq_true rfl) ⟨Nat.zero_le _, Nat.zero_le _⟩ dd_Store_rootBy_89) hS (fun _ h => h) (fun H locs hP _ _ hS => ?_)
      refine zc_iast (t := 7) (i := i) (j := 0) (k := a) (N := 114) F hE hP hS (fun _ h => h) ⟨by decide, (show i < 2 by omega), (show 0 < 1 by omega)⟩ (fun _ => rfl) (by omega) (by decide)  dd_Store_rootBy_92 (fun H locs hP hS => ?_)
      refine lv_iload F.1 F.2.1 dd_Store_rootBy_93 (lv_at hl 0 rfl) ?_
      refine lv_iconst (v := nI 2) F.1 F.2.1 dd_Store_rootBy_95 (by decide) ?_
      refine lv_iload_n F.1 F.2.1 dd_Store_rootBy_96 rfl (lv_at hl 1 rfl) ?_
      refine zn_imul F dd_Store_rootBy_97 ?_
      refine zn_iadd F dd_Store_rootBy_98 ?_
      refine lv_istore F.1 F.2.1 dd_Store_rootBy_99 hl (by decide) (lv' := [(4, .int (nI (a + (2 * st)))), (3, .int (nI st)), (2, .int (nI n)), (0, .ref (b0 + zp_o 3 i j)), (1, .ref (b0 + zp_o 7 i 0))]) rfl (fun ls hl => ?_)
      refine lv_goto F.1 F.2.1 dd_Store_rootBy_101 (tgt := 64) rfl ?_
      rw [if_neg h69] at kk
      rw [zs_ndu] at hP
      exact ih (a + 2 * st) _ (by omega) (by omega) kk ls H locs (lv_sub hl [0, 1, 2, 3, 4] rfl) hP hS
set_option maxHeartbeats 4000000 in
set_option maxRecDepth 100000 in
theorem zl_Store_rootBy3 {p : Program} {e : Env} {R : Room} {s : State} {m : MethodId} {below : List Frame} {meth : Method} {cx : Code} {av : Array Value} {Qf : State → Prop} (lc : Launch) (G : zw_G) (b0 : Nat) (S : zs_S) (i j : Nat) (hi : i < 2) (hj : j < 9) (hR : 1 ≤ R.frames ∧ 24 ≤ R.locals) (F : CallFix p m cx bm_Store_rootBy 5 s av zw_WS "TwinLedgers$Store") (hE : zw_E G s) (n : Nat) (hn : n ≤ 114) : ∀ (f st : Nat) (g : Nat → Int32), 1 ≤ st → n ≤ st + f → st ≤ 1000 → (∀ (b : Nat) (ls : Array Slot) (H : Heap) (locs : List Loc), lv_has ls 5 [(3, .int (nI b)), (2, .int (nI n)), (0, .ref (b0 + zp_o 3 i j)), (1, .ref (b0 + zp_o 7 i 0))] → va_P G.1 zw_cl (zw_l b0 176 (zp_p G b0 (zs_nd S i (zs_g3 g n st f)))) H → va_S (zw_A b0 176) s.heap H locs → W p lc e R s m av below meth cx H locs 0 0 Qf (F0 m 111 ls [])) → ∀ (ls : Array Slot) (H : Heap) (locs : List Loc), lv_has ls 5 [(3, .int (nI st)), (2, .int (nI n)), (0, .ref (b0 + zp_o 3 i j)), (1, .ref (b0 + zp_o 7 i 0))] → va_P G.1 zw_cl (zw_l b0 176 (zp_p G b0 (zs_nd S i g))) H → va_S (zw_A b0 176) s.heap H locs → W p lc e R s m av below meth cx H locs 0 0 Qf (F0 m 56 ls []) := by
  intro f
  induction f with
  | zero =>
    intro st g h1 hf hs kk ls H locs hl hP hS
    refine lv_iload_n F.1 F.2.1 dd_Store_rootBy_56 rfl (lv_at hl 0 rfl) ?_
    refine lv_iload_n F.1 F.2.1 dd_Store_rootBy_57 rfl (lv_at hl 1 rfl) ?_
    refine zn_cge F dd_Store_rootBy_58 (tgt := 111) rfl (by omega) (by omega) (fun h58 => ?_) (fun h58 => absurd (show n ≤ st by omega) h58)
    exact kk st ls H locs (lv_sub hl [0, 1, 2, 3] rfl) hP hS
  | succ f ih =>
    intro st g h1 hf hs kk ls H locs hl hP hS
    rw [zs_g3s] at kk
    refine lv_iload_n F.1 F.2.1 dd_Store_rootBy_56 rfl (lv_at hl 0 rfl) ?_
    refine lv_iload_n F.1 F.2.1 dd_Store_rootBy_57 rfl (lv_at hl 1 rfl) ?_
    refine zn_cge F dd_Store_rootBy_58 (tgt := 111) rfl (by omega) (by omega) (fun h58 => ?_) (fun h58 => ?_)
    · rw [if_pos h58] at kk
      exact kk st ls H locs (lv_sub hl [0, 1, 2, 3] rfl) hP hS
    · refine lv_iconst (v := nI 0) F.1 F.2.1 dd_Store_rootBy_61 (by decide) ?_
      refine lv_istore F.1 F.2.1 dd_Store_rootBy_62 hl (by decide) (lv' := [(4, .int (nI 0)), (3, .int (nI st)), (2, .int (nI n)), (0, .ref (b0 + zp_o 3 i j)), (1, .ref (b0 + zp_o 7 i 0))]) rfl (fun ls hl => ?_)
      rw [if_neg h58] at kk
      refine zl_Store_rootBy2 lc G b0 S i j hi hj hR F hE n st hn h1 (by omega) n 0 g (by omega) (by omega) (fun b ls H locs hl hP hS => ?_) ls H locs (lv_sub hl [0, 1, 2, 3, 4] rfl) hP hS
      refine lv_iload_n F.1 F.2.1 dd_Store_rootBy_104 rfl (lv_at hl 1 rfl) ?_
      refine lv_iconst (v := nI 2) F.1 F.2.1 dd_Store_rootBy_105 (by decide) ?_
      refine zn_imul F dd_Store_rootBy_106 ?_
      refine lv_istore_n F.1 F.2.1 dd_Store_rootBy_107 rfl hl (by decide) (lv' := [(3, .int (nI (st * 2))), (4, .int (nI b)), (2, .int (nI n)), (0, .ref (b0 + zp_o 3 i j)), (1, .ref (b0 + zp_o 7 i 0))]) rfl (fun ls hl => ?_)
      refine lv_goto F.1 F.2.1 dd_Store_rootBy_108 (tgt := 56) rfl ?_
      exact ih (st * 2) _ (by omega) (by omega) (by omega) kk ls H locs (lv_sub hl [0, 2, 3, 4] rfl) hP hS
set_option maxHeartbeats 4000000 in
set_option maxRecDepth 100000 in
theorem zc_Store_rootBy (lc : Launch) (G : zw_G) (b0 : Nat) (S : zs_S) (i : Nat) (j : Nat) (hi : i < 2) (hj : j < 9) : zw_M lc ym_Store_rootBy bm_Store_rootBy 5 (some .int) { frames := 1, cells := 0, slots := 0, locals := 24 } G b0 176 (zp_p G b0 S) [.ref (b0 + zp_o 3 i j), .ref (b0 + zp_o 7 i 0)] (zw_Qi G b0 176 (zp_p G b0 (zs_nd S i (zs_rn (S 5 i j) (S 4 i j) (S 7 i 0)))) (zs_rt (S 5 i j) (S 4 i j) (S 7 i 0))) := by
  refine zw_of (by decide) (Nat.le_of_ble_eq_true rfl) ?_
  intro p e s m below meth cx ls F hr hlk hE hP hS hl
  have hl : lv_has ls 5 [(0, .ref (b0 + zp_o 3 i j)), (1, .ref (b0 + zp_o 7 i 0))] := hl
  refine lv_iconst (v := nI 0) F.1 F.2.1 dd_Store_rootBy_0 (by decide) ?_
  refine lv_istore_n F.1 F.2.1 dd_Store_rootBy_1 rfl hl (by decide) (lv' := [(2, .int (nI 0)), (0, .ref (b0 + zp_o 3 i j)), (1, .ref (b0 + zp_o 7 i 0))]) rfl (fun ls hl => ?_)
  refine lv_iconst (v := nI 0) F.1 F.2.1 dd_Store_rootBy_2 (by decide) ?_
  refine lv_istore_n F.1 F.2.1 dd_Store_rootBy_3 rfl hl (by decide) (lv' := [(3, .int (nI 0)), (2, .int (nI 0)), (0, .ref (b0 + zp_o 3 i j)), (1, .ref (b0 + zp_o 7 i 0))]) rfl (fun ls hl => ?_)
  have hn0 := zs_c1le (th := S 5 i j) 114 0 0
  refine zl_Store_rootBy1 lc G b0 S i j hi hj ⟨Nat.le_of_ble_eq_true rfl, Nat.le_of_ble_eq_true rfl⟩ F hE 114 0 0 (S 7 i 0) (by omega) (by omega) (fun ls H locs hl hP hS => ?_) ls _ _ (lv_sub hl [0, 1, 2, 3] rfl) (by rw [zs_nd0]; exact hP) hS
  refine lv_iload_n F.1 F.2.1 dd_Store_rootBy_48 rfl (lv_at hl 1 rfl) ?_
  refine lv_if_ne F.1 F.2.1 dd_Store_rootBy_49 (tgt := 54) rfl (fun h49 => ?_) (fun h49 => ?_)
  · refine lv_iconst (v := nI 1) F.1 F.2.1 dd_Store_rootBy_54 (by decide) ?_
    refine lv_istore_n F.1 F.2.1 dd_Store_rootBy_55 rfl hl (by decide) (lv' := [(3, .int (nI 1)), (2, .int (nI (zs_c1 (S 5 i j) 0 0 114))), (0, .ref (b0 + zp_o 3 i j)), (1, .ref (b0 + zp_o 7 i 0))]) rfl (fun ls hl => ?_)
    refine zl_Store_rootBy3 lc G b0 S i j hi hj ⟨Nat.le_of_ble_eq_true rfl, Nat.le_of_ble_eq_true rfl⟩ F hE (zs_c1 (S 5 i j) 0 0 114) (by omega) (zs_c1 (S 5 i j) 0 0 114) 1 _ (by omega) (by omega) (by omega) (fun b ls H locs hl hP hS => ?_) ls _ _ (lv_sub hl [0, 1, 2, 3] rfl) hP hS
    refine lv_aload_n F.1 F.2.1 dd_Store_rootBy_111 rfl (lv_at hl 3 rfl) ?_
    refine lv_iconst (v := nI 0) F.1 F.2.1 dd_Store_rootBy_112 (by decide) ?_
    refine zc_iald (t := 7) (i := i) (j := 0) (k := 0) (N := 114) F hE hP ⟨by decide, (show i < 2 by omega), (show 0 < 1 by omega)⟩ (fun _ => rfl) (by omega) (by decide) dd_Store_rootBy_113 ?_
    refine zn_top (y := zs_g3 (zs_g1 (S 5 i j) (S 4 i j) (S 7 i 0) 0 0 114) (zs_c1 (S 5 i j) 0 0 114) 1 (zs_c1 (S 5 i j) 0 0 114) 0) (zs_nd7) ?_
    exact zw_iret F hr hlk hP hS (congrArg (zp_p G b0) (by rw [zs_rn, if_neg (zn_z1 h49)])) (by rw [zs_rt, if_neg (zn_z1 h49), zs_rn, if_neg (zn_z1 h49)]) dd_Store_rootBy_114
  · refine lv_iconst (v := nI 0) F.1 F.2.1 dd_Store_rootBy_52 (by decide) ?_
    exact zw_iret F hr hlk hP hS (congrArg (zp_p G b0) (by rw [zs_rn, if_pos (zn_z0 (by omega) h49)])) (by rw [zs_rt, if_pos (zn_z0 (by omega) h49)]) dd_Store_rootBy_53
set_option maxHeartbeats 4000000 in
set_option maxRecDepth 100000 in
theorem zc_Ledger_makeBlock (lc : Launch) (G : zw_G) (b0 : Nat) (S : zs_S) (i : Nat) (hi : i < 2) (hn : S 2 i 0 0 = nI (zs_n (S 2 i 0 0))) (hn2 : zs_n (S 2 i 0 0) < 512) (hB : zs_B S) : zw_M lc ym_Ledger_makeBlock bm_Ledger_makeBlock 1 (some .int) { frames := 1, cells := 0, slots := 0, locals := 22 } G b0 176 (zp_p G b0 S) [.ref (b0 + zp_o 2 i 0)] (zw_Qi G b0 176 (zp_p G b0 (zs_mb S i)) (nI (zs_n (S 2 i 0 0) + 1))) := by
  refine zw_of (by decide) (Nat.le_of_ble_eq_true rfl) ?_
  intro p e s m below meth cx ls F hr hlk hE hP hS hl
  have hl : lv_has ls 1 [(0, .ref (b0 + zp_o 2 i 0))] := hl
  refine lv_aload_n F.1 F.2.1 dd_Ledger_makeBlock_0 rfl (lv_at hl 0 rfl) ?_
  refine zc_gF (t := 2) (i := i) (j := 0) F hE hP ⟨by decide, (show i < 2 by omega), (show 0 < 1 by omega)⟩ rfl rfl zi_Ledger 6 (by decide) rfl wf_Ledger_47 rfl dd_Ledger_makeBlock_1 ?_
  refine zn_top (y := nI (zs_n (S 2 i 0 0))) (hn) ?_
  refine lv_sipush (v := nI 512) F.1 F.2.1 dd_Ledger_makeBlock_4 (by decide) ?_
  refine zn_cge F dd_Ledger_makeBlock_7 (tgt := 39) rfl (by omega) (by omega) (fun h7 => absurd h7 (by omega)) (fun h7 => ?_)
  refine lv_aload_n F.1 F.2.1 dd_Ledger_makeBlock_10 rfl (lv_at hl 0 rfl) ?_
  refine lv_dup F.1 F.2.1 dd_Ledger_makeBlock_11 rfl ?_
  refine zc_gF (t := 2) (i := i) (j := 0) F hE hP ⟨by decide, (show i < 2 by omega), (show 0 < 1 by omega)⟩ rfl rfl zi_Ledger 6 (by decide) rfl wf_Ledger_47 rfl dd_Ledger_makeBlock_12 ?_
  refine zn_top (y := nI (zs_n (S 2 i 0 0))) (hn) ?_
  refine lv_iconst (v := nI 1) F.1 F.2.1 dd_Ledger_makeBlock_15 (by decide) ?_
  refine zn_iadd F dd_Ledger_makeBlock_16 ?_
  refine zc_pF (t := 2) (i := i) (j := 0) (kf := 0) F hE hP hS (fun _ h => h) ⟨by decide, (show i < 2 by omega), (show 0 < 1 by omega)⟩ rfl rfl zi_Ledger zy_Ledger zj_Ledger zl_Ledger 6 (by decide) rfl rfl wf_Ledger_47 (by decide +kernel) (Nat.le_of_ble_eq_true rfl) rfl dd_Ledger_makeBlock_17 (fun H locs hP hS => ?_)
  refine lv_aload_n F.1 F.2.1 dd_Ledger_makeBlock_20 rfl (lv_at hl 0 rfl) ?_
  refine zc_gF (t := 2) (i := i) (j := 0) F hE hP ⟨by decide, (show i < 2 by omega), (show 0 < 1 by omega)⟩ rfl rfl zi_Ledger 1 (by decide) rfl wf_Ledger_18 rfl dd_Ledger_makeBlock_21 ?_
  refine lv_aload_n F.1 F.2.1 dd_Ledger_makeBlock_24 rfl (lv_at hl 0 rfl) ?_
  refine zc_gF (t := 2) (i := i) (j := 0) F hE hP ⟨by decide, (show i < 2 by omega), (show 0 < 1 by omega)⟩ rfl rfl zi_Ledger 6 (by decide) rfl wf_Ledger_47 rfl dd_Ledger_makeBlock_25 ?_
  refine zn_top (y := nI ((zs_n (S 2 i 0 0)) + 1)) (by rw [zs_us]) ?_
  refine lv_bipush (v := nI 8) F.1 F.2.1 dd_Ledger_makeBlock_28 (by decide) ?_
  refine zn_irem F dd_Ledger_makeBlock_30 (by omega) (by decide) (by decide) ?_
  refine zc_aald (t := 6) (i := i) (j := 0) (k := ((zs_n (S 2 i 0 0)) + 1) % 8) (N := 8) (z := 3) (a := (b0 + zp_o 3 i ((((zs_n (S 2 i 0 0)) + 1) % 8) + 1))) F hE hP ⟨by decide, (show i < 2 by omega), (show 0 < 1 by omega)⟩ rfl rfl rfl (by omega) (by decide) rfl dd_Ledger_makeBlock_31 ?_
  refine lv_aload_n F.1 F.2.1 dd_Ledger_makeBlock_32 rfl (lv_at hl 0 rfl) ?_
  refine zc_gF (t := 2) (i := i) (j := 0) F hE hP ⟨by decide, (show i < 2 by omega), (show 0 < 1 by omega)⟩ rfl rfl zi_Ledger 0 (by decide) rfl wf_Ledger_12 rfl dd_Ledger_makeBlock_33 ?_
  refine zw_gov (zw_rV F hE hP (zc_Store_copyFrom lc G b0 (zs_u S 2 i 0 0 (nI ((zs_n (S 2 i 0 0)) + 1))) i ((((zs_n (S 2 i 0 0)) + 1) % 8) + 1) (by first | omega | assumption) (by first | omega | assumption) (by first | omega | assumption) (by first | exact hB | simpa [zs_u] using hB)) zk_Store_copyFrom za_Store_copyFrom zb_Store_copyFrom wl_Ledger_51 ⟨rfl, rfl, Nat.le_of_ble_eq_true rfl, Nat.le_of_ble_eq_true rfl⟩ (zc_recv (t := 3) (i := i) (j := (((zs_n (S 2 i 0 0)) + 1) % 8) + 1) hE hP ⟨by decide, (show i < 2 by omega), (show (((zs_n (S 2 i 0 0)) + 1) % 8) + 1 < 9 by omega)⟩ rfl rfl) hl.1 rfl (Nat.le_of_ble_eq_true rfl) ⟨Nat.zero_le _, Nat.zero_le _⟩ dd_Ledger_makeBlock_36) hS (fun _ h => h) (fun H locs hP _ _ hS => ?_)
  refine lv_aload_n F.1 F.2.1 dd_Ledger_makeBlock_39 rfl (lv_at hl 0 rfl) ?_
  refine zc_gF (t := 2) (i := i) (j := 0) F hE hP ⟨by decide, (show i < 2 by omega), (show 0 < 1 by omega)⟩ rfl rfl zi_Ledger 6 (by decide) rfl wf_Ledger_47 rfl dd_Ledger_makeBlock_40 ?_
  refine zn_top (y := nI (zs_n (S 2 i 0 0) + 1)) (by rw [zs_cpn (by decide) (by decide), zs_us]) ?_
  exact zw_iret F hr hlk hP hS rfl rfl dd_Ledger_makeBlock_43
set_option maxHeartbeats 4000000 in
set_option maxRecDepth 100000 in
theorem zc_Ledger_rootAt (lc : Launch) (G : zw_G) (b0 : Nat) (S : zs_S) (i : Nat) (h : Int32) (hi : i < 2) : zw_M lc ym_Ledger_rootAt bm_Ledger_rootAt 2 (some .int) { frames := 2, cells := 0, slots := 0, locals := 48 } G b0 176 (zp_p G b0 S) [.ref (b0 + zp_o 2 i 0), .int h] (zw_Qi G b0 176 (zp_p G b0 (zs_rs S i h)) (zs_ra S i h)) := by
  refine zw_of (by decide) (Nat.le_of_ble_eq_true rfl) ?_
  intro p e s m below meth cx ls F hr hlk hE hP hS hl
  have hl : lv_has ls 2 [(0, .ref (b0 + zp_o 2 i 0)), (1, .int h)] := hl
  refine lv_aload_n F.1 F.2.1 dd_Ledger_rootAt_0 rfl (lv_at hl 0 rfl) ?_
  refine lv_iload_n F.1 F.2.1 dd_Ledger_rootAt_1 rfl (lv_at hl 1 rfl) ?_
  refine zw_goi (zw_rV F hE hP (zc_Ledger_keeps lc G b0 S i h (by first | omega | assumption)) zk_Ledger_keeps za_Ledger_keeps zb_Ledger_keeps wl_Ledger_55 ⟨rfl, rfl, Nat.le_of_ble_eq_true rfl, Nat.le_of_ble_eq_true rfl⟩ (zc_recv (t := 2) (i := i) (j := 0) hE hP ⟨by decide, (show i < 2 by omega), (show 0 < 1 by omega)⟩ rfl rfl) hl.1 rfl (Nat.le_of_ble_eq_true rfl) ⟨Nat.zero_le _, Nat.zero_le _⟩ dd_Ledger_rootAt_2) hS (fun _ h => h) (fun H locs hP _ _ hS => ?_)
  refine zn_beq F dd_Ledger_rootAt_5 (tgt := 27) rfl (fun h5 => ?_) (fun h5 => ?_)
  · refine lv_iconst (v := nI 0) F.1 F.2.1 dd_Ledger_rootAt_27 (by decide) ?_
    exact zw_iret F hr hlk hP hS (congrArg (zp_p G b0) (by rw [zs_rs, if_neg h5])) (by rw [zs_ra, if_neg h5]) dd_Ledger_rootAt_28
  · obtain ⟨q, hq, rfl⟩ := zs_kpq h5
    refine lv_aload_n F.1 F.2.1 dd_Ledger_rootAt_8 rfl (lv_at hl 0 rfl) ?_
    refine zc_gF (t := 2) (i := i) (j := 0) F hE hP ⟨by decide, (show i < 2 by omega), (show 0 < 1 by omega)⟩ rfl rfl zi_Ledger 1 (by decide) rfl wf_Ledger_18 rfl dd_Ledger_rootAt_9 ?_
    refine lv_iload_n F.1 F.2.1 dd_Ledger_rootAt_12 rfl (lv_at hl 1 rfl) ?_
    refine lv_bipush (v := nI 8) F.1 F.2.1 dd_Ledger_rootAt_13 (by decide) ?_
    refine zn_irem F dd_Ledger_rootAt_15 (by omega) (by decide) (by decide) ?_
    refine zc_aald (t := 6) (i := i) (j := 0) (k := q % 8) (N := 8) (z := 3) (a := (b0 + zp_o 3 i ((q % 8) + 1))) F hE hP ⟨by decide, (show i < 2 by omega), (show 0 < 1 by omega)⟩ rfl rfl rfl (by omega) (by decide) rfl dd_Ledger_rootAt_16 ?_
    refine lv_aload_n F.1 F.2.1 dd_Ledger_rootAt_17 rfl (lv_at hl 0 rfl) ?_
    refine zc_gF (t := 2) (i := i) (j := 0) F hE hP ⟨by decide, (show i < 2 by omega), (show 0 < 1 by omega)⟩ rfl rfl zi_Ledger 2 (by decide) rfl wf_Ledger_22 rfl dd_Ledger_rootAt_18 ?_
    refine zw_goi (zw_rV F hE hP (zc_Store_rootBy lc G b0 S i ((q % 8) + 1) (by first | omega | assumption) (by first | omega | assumption)) zk_Store_rootBy za_Store_rootBy zb_Store_rootBy wl_Ledger_59 ⟨rfl, rfl, Nat.le_of_ble_eq_true rfl, Nat.le_of_ble_eq_true rfl⟩ (zc_recv (t := 3) (i := i) (j := (q % 8) + 1) hE hP ⟨by decide, (show i < 2 by omega), (show (q % 8) + 1 < 9 by omega)⟩ rfl rfl) hl.1 rfl (Nat.le_of_ble_eq_true rfl) ⟨Nat.zero_le _, Nat.zero_le _⟩ dd_Ledger_rootAt_21) hS (fun _ h => h) (fun H locs hP _ _ hS => ?_)
    refine lv_goto F.1 F.2.1 dd_Ledger_rootAt_24 (tgt := 28) rfl ?_
    exact zw_iret F hr hlk hP hS (congrArg (zp_p G b0) (by rw [zs_rs, if_pos h5, nI_clamp hq])) (by rw [zs_ra, if_pos h5, nI_clamp hq]) dd_Ledger_rootAt_28
set_option maxHeartbeats 4000000 in
set_option maxRecDepth 100000 in
theorem zc_TL_isLedger (lc : Launch) (G : zw_G) (b0 : Nat) (S : zs_S) (i : Nat) (hi : i < 2) : zw_M lc ym_TL_isLedger bm_TL_isLedger 1 (some .boolean) { frames := 0, cells := 0, slots := 0, locals := 0 } G b0 176 (zp_p G b0 S) [.int (nI i)] (zw_Qi G b0 176 (zp_p G b0 S) (nI 1)) := by
  refine zw_of (by decide) (Nat.le_of_ble_eq_true rfl) ?_
  intro p e s m below meth cx ls F hr hlk hE hP hS hl
  have hl : lv_has ls 1 [(0, .int (nI i))] := hl
  refine lv_iload_n F.1 F.2.1 dd_TL_isLedger_0 rfl (lv_at hl 0 rfl) ?_
  refine lv_if_lt F.1 F.2.1 dd_TL_isLedger_1 (tgt := 13) rfl (fun h1 => absurd h1 (nI_pos (by omega))) (fun h1 => ?_)
  refine lv_iload_n F.1 F.2.1 dd_TL_isLedger_4 rfl (lv_at hl 0 rfl) ?_
  refine lv_iconst (v := nI 2) F.1 F.2.1 dd_TL_isLedger_5 (by decide) ?_
  refine zn_cge F dd_TL_isLedger_6 (tgt := 13) rfl (by omega) (by omega) (fun h6 => absurd h6 (by omega)) (fun h6 => ?_)
  refine lv_iconst (v := nI 1) F.1 F.2.1 dd_TL_isLedger_9 (by decide) ?_
  refine lv_goto F.1 F.2.1 dd_TL_isLedger_10 (tgt := 14) rfl ?_
  exact zw_zret F hr hlk hP hS rfl (by decide) rfl dd_TL_isLedger_14
set_option maxHeartbeats 4000000 in
set_option maxRecDepth 100000 in
theorem zc_TL_isLedger_bad (lc : Launch) (G : zw_G) (b0 : Nat) (S : zs_S) (l : Int32) (hb : ¬ zs_v l 2) : zw_M lc ym_TL_isLedger bm_TL_isLedger 1 (some .boolean) { frames := 0, cells := 0, slots := 0, locals := 0 } G b0 176 (zp_p G b0 S) [.int l] (zw_Qi G b0 176 (zp_p G b0 S) (nI 0)) := by
  refine zw_of (by decide) (Nat.le_of_ble_eq_true rfl) ?_
  intro p e s m below meth cx ls F hr hlk hE hP hS hl
  have hl : lv_has ls 1 [(0, .int l)] := hl
  refine lv_iload_n F.1 F.2.1 dd_TL_isLedger_0 rfl (lv_at hl 0 rfl) ?_
  refine lv_if_lt F.1 F.2.1 dd_TL_isLedger_1 (tgt := 13) rfl (fun h1 => ?_) (fun h1 => ?_)
  · refine lv_iconst (v := nI 0) F.1 F.2.1 dd_TL_isLedger_13 (by decide) ?_
    exact zw_zret F hr hlk hP hS rfl (by decide) rfl dd_TL_isLedger_14
  · refine lv_iload_n F.1 F.2.1 dd_TL_isLedger_4 rfl (lv_at hl 0 rfl) ?_
    refine lv_iconst (v := nI 2) F.1 F.2.1 dd_TL_isLedger_5 (by decide) ?_
    refine lv_icmp_ge F.1 F.2.1 dd_TL_isLedger_6 (tgt := 13) rfl (fun h6 => ?_) (fun h6 => absurd (zs_vi (by decide) h1 h6) hb)
    refine lv_iconst (v := nI 0) F.1 F.2.1 dd_TL_isLedger_13 (by decide) ?_
    exact zw_zret F hr hlk hP hS rfl (by decide) rfl dd_TL_isLedger_14
set_option maxHeartbeats 4000000 in
set_option maxRecDepth 100000 in
theorem zc_TL_isEnd (lc : Launch) (G : zw_G) (b0 : Nat) (S : zs_S) (i : Nat) (c : Nat) (hi : i < 2) (hc : c < 3) : zw_M lc ym_TL_isEnd bm_TL_isEnd 2 (some .boolean) { frames := 1, cells := 0, slots := 0, locals := 20 } G b0 176 (zp_p G b0 S) [.int (nI i), .int (nI c)] (zw_Qi G b0 176 (zp_p G b0 S) (nI 1)) := by
  refine zw_of (by decide) (Nat.le_of_ble_eq_true rfl) ?_
  intro p e s m below meth cx ls F hr hlk hE hP hS hl
  have hl : lv_has ls 2 [(0, .int (nI i)), (1, .int (nI c))] := hl
  refine lv_iload_n F.1 F.2.1 dd_TL_isEnd_0 rfl (lv_at hl 0 rfl) ?_
  refine zw_goi (zw_rS F hE hP (zc_TL_isLedger lc G b0 S i (by first | omega | assumption)) zk_TL_isLedger za_TL_isLedger wl_TL_20 ⟨rfl, rfl, Nat.le_of_ble_eq_true rfl, Nat.le_of_ble_eq_true rfl⟩ hl.1 rfl (Nat.le_of_ble_eq_true rfl) ⟨Nat.zero_le _, Nat.zero_le _⟩ dd_TL_isEnd_1) hS (fun _ h => h) (fun H locs hP _ _ hS => ?_)
  refine lv_if_eq F.1 F.2.1 dd_TL_isEnd_4 (tgt := 20) rfl (fun h4 => absurd h4 (by decide)) (fun h4 => ?_)
  refine lv_iload_n F.1 F.2.1 dd_TL_isEnd_7 rfl (lv_at hl 1 rfl) ?_
  refine lv_if_lt F.1 F.2.1 dd_TL_isEnd_8 (tgt := 20) rfl (fun h8 => absurd h8 (nI_pos (by omega))) (fun h8 => ?_)
  refine lv_iload_n F.1 F.2.1 dd_TL_isEnd_11 rfl (lv_at hl 1 rfl) ?_
  refine lv_iconst (v := nI 3) F.1 F.2.1 dd_TL_isEnd_12 (by decide) ?_
  refine zn_cge F dd_TL_isEnd_13 (tgt := 20) rfl (by omega) (by omega) (fun h13 => absurd h13 (by omega)) (fun h13 => ?_)
  refine lv_iconst (v := nI 1) F.1 F.2.1 dd_TL_isEnd_16 (by decide) ?_
  refine lv_goto F.1 F.2.1 dd_TL_isEnd_17 (tgt := 21) rfl ?_
  exact zw_zret F hr hlk hP hS rfl (by decide) rfl dd_TL_isEnd_21
set_option maxHeartbeats 4000000 in
set_option maxRecDepth 100000 in
theorem zc_TL_isEnd_bad (lc : Launch) (G : zw_G) (b0 : Nat) (S : zs_S) (l : Int32) (d : Int32) (hb : ¬ (zs_v l 2 ∧ zs_v d 3)) : zw_M lc ym_TL_isEnd bm_TL_isEnd 2 (some .boolean) { frames := 1, cells := 0, slots := 0, locals := 20 } G b0 176 (zp_p G b0 S) [.int l, .int d] (zw_Qi G b0 176 (zp_p G b0 S) (nI 0)) := by
  refine zw_of (by decide) (Nat.le_of_ble_eq_true rfl) ?_
  intro p e s m below meth cx ls F hr hlk hE hP hS hl
  have hl : lv_has ls 2 [(0, .int l), (1, .int d)] := hl
  refine lv_iload_n F.1 F.2.1 dd_TL_isEnd_0 rfl (lv_at hl 0 rfl) ?_
  by_cases hv : zs_v l 2
  · obtain ⟨i, hvp, rfl⟩ := hv
    refine zw_goi (zw_rS F hE hP (zc_TL_isLedger lc G b0 S i (by first | omega | assumption)) zk_TL_isLedger za_TL_isLedger wl_TL_20 ⟨rfl, rfl, Nat.le_of_ble_eq_true rfl, Nat.le_of_ble_eq_true rfl⟩ hl.1 rfl (Nat.le_of_ble_eq_true rfl) ⟨Nat.zero_le _, Nat.zero_le _⟩ dd_TL_isEnd_1) hS (fun _ h => h) (fun H locs hP _ _ hS => ?_)
    refine lv_if_eq F.1 F.2.1 dd_TL_isEnd_4 (tgt := 20) rfl (fun h4 => absurd h4 (by decide)) (fun h4 => ?_)
    refine lv_iload_n F.1 F.2.1 dd_TL_isEnd_7 rfl (lv_at hl 1 rfl) ?_
    refine lv_if_lt F.1 F.2.1 dd_TL_isEnd_8 (tgt := 20) rfl (fun h8 => ?_) (fun h8 => ?_)
    · refine lv_iconst (v := nI 0) F.1 F.2.1 dd_TL_isEnd_20 (by decide) ?_
      exact zw_zret F hr hlk hP hS rfl (by decide) rfl dd_TL_isEnd_21
    · refine lv_iload_n F.1 F.2.1 dd_TL_isEnd_11 rfl (lv_at hl 1 rfl) ?_
      refine lv_iconst (v := nI 3) F.1 F.2.1 dd_TL_isEnd_12 (by decide) ?_
      refine lv_icmp_ge F.1 F.2.1 dd_TL_isEnd_13 (tgt := 20) rfl (fun h13 => ?_) (fun h13 => absurd ⟨⟨_, hvp, rfl⟩, zs_vi (by decide) h8 h13⟩ hb)
      refine lv_iconst (v := nI 0) F.1 F.2.1 dd_TL_isEnd_20 (by decide) ?_
      exact zw_zret F hr hlk hP hS rfl (by decide) rfl dd_TL_isEnd_21
  · refine zw_goi (zw_rS F hE hP (zc_TL_isLedger_bad lc G b0 S l (by first | omega | assumption)) zk_TL_isLedger za_TL_isLedger wl_TL_20 ⟨rfl, rfl, Nat.le_of_ble_eq_true rfl, Nat.le_of_ble_eq_true rfl⟩ hl.1 rfl (Nat.le_of_ble_eq_true rfl) ⟨Nat.zero_le _, Nat.zero_le _⟩ dd_TL_isEnd_1) hS (fun _ h => h) (fun H locs hP _ _ hS => ?_)
    refine lv_if_eq F.1 F.2.1 dd_TL_isEnd_4 (tgt := 20) rfl (fun h4 => ?_) (fun h4 => absurd h4 (by decide))
    refine lv_iconst (v := nI 0) F.1 F.2.1 dd_TL_isEnd_20 (by decide) ?_
    exact zw_zret F hr hlk hP hS rfl (by decide) rfl dd_TL_isEnd_21
set_option maxHeartbeats 4000000 in
set_option maxRecDepth 100000 in
theorem zc_TL_tick (lc : Launch) (G : zw_G) (b0 : Nat) (S : zs_S) (i : Nat) (hi : i < 2) (hn : S 2 i 0 0 = nI (zs_n (S 2 i 0 0))) (hn2 : zs_n (S 2 i 0 0) < 512) (hB : zs_B S) : zw_M lc ym_TL_tick bm_TL_tick 2 (some .int) { frames := 2, cells := 0, slots := 0, locals := 42 } G b0 176 (zp_p G b0 S) [.ref (b0 + zp_o 0 0 0), .int (nI i)] (zw_Qi G b0 176 (zp_p G b0 (zs_mb S i)) (nI (zs_n (S 2 i 0 0) + 1))) := by
  refine zw_of (by decide) (Nat.le_of_ble_eq_true rfl) ?_
  intro p e s m below meth cx ls F hr hlk hE hP hS hl
  have hl : lv_has ls 2 [(0, .ref (b0 + zp_o 0 0 0)), (1, .int (nI i))] := hl
  refine lv_iload_n F.1 F.2.1 dd_TL_tick_0 rfl (lv_at hl 1 rfl) ?_
  refine zw_goi (zw_rS F hE hP (zc_TL_isLedger lc G b0 S i (by first | omega | assumption)) zk_TL_isLedger za_TL_isLedger wl_TL_20 ⟨rfl, rfl, Nat.le_of_ble_eq_true rfl, Nat.le_of_ble_eq_true rfl⟩ hl.1 rfl (Nat.le_of_ble_eq_true rfl) ⟨Nat.zero_le _, Nat.zero_le _⟩ dd_TL_tick_1) hS (fun _ h => h) (fun H locs hP _ _ hS => ?_)
  refine lv_if_eq F.1 F.2.1 dd_TL_tick_4 (tgt := 19) rfl (fun h4 => absurd h4 (by decide)) (fun h4 => ?_)
  refine lv_aload_n F.1 F.2.1 dd_TL_tick_7 rfl (lv_at hl 0 rfl) ?_
  refine zc_gF (t := 0) (i := 0) (j := 0) F hE hP ⟨by decide, (show 0 < 1 by omega), (show 0 < 1 by omega)⟩ rfl rfl zi_TL 1 (by decide) rfl wf_TL_11 rfl dd_TL_tick_8 ?_
  refine lv_iload_n F.1 F.2.1 dd_TL_tick_11 rfl (lv_at hl 1 rfl) ?_
  refine zc_aald (t := 1) (i := 0) (j := 0) (k := i) (N := 2) (z := 2) (a := (b0 + zp_o 2 i 0)) F hE hP ⟨by decide, (show 0 < 1 by omega), (show 0 < 1 by omega)⟩ rfl rfl rfl (by omega) (by decide) rfl dd_TL_tick_12 ?_
  refine zw_goi (zw_rV F hE hP (zc_Ledger_makeBlock lc G b0 S i (by first | omega | assumption) (by assumption) (by assumption) (by assumption)) zk_Ledger_makeBlock za_Ledger_makeBlock zb_Ledger_makeBlock wl_TL_24 ⟨rfl, rfl, Nat.le_of_ble_eq_true rfl, Nat.le_of_ble_eq_true rfl⟩ (zc_recv (t := 2) (i := i) (j := 0) hE hP ⟨by decide, (show i < 2 by omega), (show 0 < 1 by omega)⟩ rfl rfl) hl.1 rfl (Nat.le_of_ble_eq_true rfl) ⟨Nat.zero_le _, Nat.zero_le _⟩ dd_TL_tick_13) hS (fun _ h => h) (fun H locs hP _ _ hS => ?_)
  refine lv_goto F.1 F.2.1 dd_TL_tick_16 (tgt := 20) rfl ?_
  exact zw_iret F hr hlk hP hS rfl rfl dd_TL_tick_20
set_option maxHeartbeats 4000000 in
set_option maxRecDepth 100000 in
theorem zc_TL_tick_bad (lc : Launch) (G : zw_G) (b0 : Nat) (S : zs_S) (l : Int32) (hb : ¬ zs_v l 2) : zw_M lc ym_TL_tick bm_TL_tick 2 (some .int) { frames := 1, cells := 0, slots := 0, locals := 20 } G b0 176 (zp_p G b0 S) [.ref (b0 + zp_o 0 0 0), .int l] (zw_Qi G b0 176 (zp_p G b0 S) (-1)) := by
  refine zw_of (by decide) (Nat.le_of_ble_eq_true rfl) ?_
  intro p e s m below meth cx ls F hr hlk hE hP hS hl
  have hl : lv_has ls 2 [(0, .ref (b0 + zp_o 0 0 0)), (1, .int l)] := hl
  refine lv_iload_n F.1 F.2.1 dd_TL_tick_0 rfl (lv_at hl 1 rfl) ?_
  refine zw_goi (zw_rS F hE hP (zc_TL_isLedger_bad lc G b0 S l (by first | omega | assumption)) zk_TL_isLedger za_TL_isLedger wl_TL_20 ⟨rfl, rfl, Nat.le_of_ble_eq_true rfl, Nat.le_of_ble_eq_true rfl⟩ hl.1 rfl (Nat.le_of_ble_eq_true rfl) ⟨Nat.zero_le _, Nat.zero_le _⟩ dd_TL_tick_1) hS (fun _ h => h) (fun H locs hP _ _ hS => ?_)
  refine lv_if_eq F.1 F.2.1 dd_TL_tick_4 (tgt := 19) rfl (fun h4 => ?_) (fun h4 => absurd h4 (by decide))
  refine lv_iconst (v := (-1)) F.1 F.2.1 dd_TL_tick_19 (by decide) ?_
  exact zw_iret F hr hlk hP hS rfl rfl dd_TL_tick_20
set_option maxHeartbeats 4000000 in
set_option maxRecDepth 100000 in
theorem zc_TL_height (lc : Launch) (G : zw_G) (b0 : Nat) (S : zs_S) (i : Nat) (hi : i < 2) : zw_M lc ym_TL_height bm_TL_height 2 (some .int) { frames := 1, cells := 0, slots := 0, locals := 20 } G b0 176 (zp_p G b0 S) [.ref (b0 + zp_o 0 0 0), .int (nI i)] (zw_Qi G b0 176 (zp_p G b0 S) (S 2 i 0 0)) := by
  refine zw_of (by decide) (Nat.le_of_ble_eq_true rfl) ?_
  intro p e s m below meth cx ls F hr hlk hE hP hS hl
  have hl : lv_has ls 2 [(0, .ref (b0 + zp_o 0 0 0)), (1, .int (nI i))] := hl
  refine lv_iload_n F.1 F.2.1 dd_TL_height_0 rfl (lv_at hl 1 rfl) ?_
  refine zw_goi (zw_rS F hE hP (zc_TL_isLedger lc G b0 S i (by first | omega | assumption)) zk_TL_isLedger za_TL_isLedger wl_TL_20 ⟨rfl, rfl, Nat.le_of_ble_eq_true rfl, Nat.le_of_ble_eq_true rfl⟩ hl.1 rfl (Nat.le_of_ble_eq_true rfl) ⟨Nat.zero_le _, Nat.zero_le _⟩ dd_TL_height_1) hS (fun _ h => h) (fun H locs hP _ _ hS => ?_)
  refine lv_if_eq F.1 F.2.1 dd_TL_height_4 (tgt := 19) rfl (fun h4 => absurd h4 (by decide)) (fun h4 => ?_)
  refine lv_aload_n F.1 F.2.1 dd_TL_height_7 rfl (lv_at hl 0 rfl) ?_
  refine zc_gF (t := 0) (i := 0) (j := 0) F hE hP ⟨by decide, (show 0 < 1 by omega), (show 0 < 1 by omega)⟩ rfl rfl zi_TL 1 (by decide) rfl wf_TL_11 rfl dd_TL_height_8 ?_
  refine lv_iload_n F.1 F.2.1 dd_TL_height_11 rfl (lv_at hl 1 rfl) ?_
  refine zc_aald (t := 1) (i := 0) (j := 0) (k := i) (N := 2) (z := 2) (a := (b0 + zp_o 2 i 0)) F hE hP ⟨by decide, (show 0 < 1 by omega), (show 0 < 1 by omega)⟩ rfl rfl rfl (by omega) (by decide) rfl dd_TL_height_12 ?_
  refine zc_gN (t := 2) (i := i) (j := 0) F hE hP ⟨by decide, (show i < 2 by omega), (show 0 < 1 by omega)⟩ rfl rfl zi_Ledger 6 (by decide) rfl wf_TL_28 rfl dd_TL_height_13 ?_
  refine lv_goto F.1 F.2.1 dd_TL_height_16 (tgt := 20) rfl ?_
  exact zw_iret F hr hlk hP hS rfl rfl dd_TL_height_20
set_option maxHeartbeats 4000000 in
set_option maxRecDepth 100000 in
theorem zc_TL_height_bad (lc : Launch) (G : zw_G) (b0 : Nat) (S : zs_S) (l : Int32) (hb : ¬ zs_v l 2) : zw_M lc ym_TL_height bm_TL_height 2 (some .int) { frames := 1, cells := 0, slots := 0, locals := 20 } G b0 176 (zp_p G b0 S) [.ref (b0 + zp_o 0 0 0), .int l] (zw_Qi G b0 176 (zp_p G b0 S) (-1)) := by
  refine zw_of (by decide) (Nat.le_of_ble_eq_true rfl) ?_
  intro p e s m below meth cx ls F hr hlk hE hP hS hl
  have hl : lv_has ls 2 [(0, .ref (b0 + zp_o 0 0 0)), (1, .int l)] := hl
  refine lv_iload_n F.1 F.2.1 dd_TL_height_0 rfl (lv_at hl 1 rfl) ?_
  refine zw_goi (zw_rS F hE hP (zc_TL_isLedger_bad lc G b0 S l (by first | omega | assumption)) zk_TL_isLedger za_TL_isLedger wl_TL_20 ⟨rfl, rfl, Nat.le_of_ble_eq_true rfl, Nat.le_of_ble_eq_true rfl⟩ hl.1 rfl (Nat.le_of_ble_eq_true rfl) ⟨Nat.zero_le _, Nat.zero_le _⟩ dd_TL_height_1) hS (fun _ h => h) (fun H locs hP _ _ hS => ?_)
  refine lv_if_eq F.1 F.2.1 dd_TL_height_4 (tgt := 19) rfl (fun h4 => ?_) (fun h4 => absurd h4 (by decide))
  refine lv_iconst (v := (-1)) F.1 F.2.1 dd_TL_height_19 (by decide) ?_
  exact zw_iret F hr hlk hP hS rfl rfl dd_TL_height_20
