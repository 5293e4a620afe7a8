def zr_Ledger_isReceivable (S : zs_S) (i : Nat) (c : Nat) (j : Nat) : Int32 := if zs_or (S 4 i 0 c) = nI 1 then (if nI (j + 1) = zs_nx (S 4 i 0 (3 + c)) then (nI 1) else (nI 0)) else (if S 5 i 0 (42 + 12 * c + j) = 0 then (nI 1) else (nI 0))
set_option maxHeartbeats 4000000 in
set_option maxRecDepth 100000 in
theorem zc_Ledger_isReceivable (lc : Launch) (G : zw_G) (b0 : Nat) (S : zs_S) (i : Nat) (c : Nat) (j : Nat) (hi : i < 2) (hc : c < 3) (hj : j < 12) (hB : zs_B S) : zw_M lc ym_Ledger_isReceivable bm_Ledger_isReceivable 3 (some .boolean) { frames := 3, cells := 0, slots := 0, locals := 63 } G b0 176 (zp_p G b0 S) [.ref (b0 + zp_o 2 i 0), .int (nI c), .int (nI (j + 1))] (zw_Qi G b0 176 (zp_p G b0 S) (zr_Ledger_isReceivable S i c j)) := by
  refine zw_of (by decide) (Nat.le_of_ble_eq_true rfl) ?_
  intro p e s m below meth cx ls F hr hlk hE hP hS hl
  have hl : lv_has ls 3 [(0, .ref (b0 + zp_o 2 i 0)), (1, .int (nI c)), (2, .int (nI (j + 1)))] := hl
  refine lv_aload_n F.1 F.2.1 dd_Ledger_isReceivable_0 rfl (lv_at hl 0 rfl) ?_
  refine lv_iload_n F.1 F.2.1 dd_Ledger_isReceivable_1 rfl (lv_at hl 1 rfl) ?_
  refine zw_goi (zw_rV F hE hP (zc_Ledger_isOrdered lc G b0 S i c (by first | omega | assumption) (by first | omega | assumption)) zk_Ledger_isOrdered za_Ledger_isOrdered zb_Ledger_isOrdered wl_Ledger_172 ⟨rfl, rfl, Nat.le_of_ble_eq_true rfl, Nat.le_of_ble_eq_true rfl⟩ (zc_recv (t := 2) (i := i) (j := 0) hE hP ⟨by decide, (show i < 2 by omega), (show 0 < 1 by omega)⟩ rfl rfl) hl.1 rfl (Nat.le_of_ble_eq_true rfl) ⟨Nat.zero_le _, Nat.zero_le _⟩ dd_Ledger_isReceivable_2) hS (fun _ h => h) (fun H locs hP _ _ hS => ?_)
  refine zn_beq F dd_Ledger_isReceivable_5 (tgt := 25) rfl (fun h5 => ?_) (fun h5 => ?_)
  · refine lv_aload_n F.1 F.2.1 dd_Ledger_isReceivable_25 rfl (lv_at hl 0 rfl) ?_
    refine zc_gF (t := 2) (i := i) (j := 0) F hE hP ⟨by decide, (show i < 2 by omega), (show 0 < 1 by omega)⟩ rfl rfl zi_Ledger 0 (by decide) rfl wf_Ledger_12 rfl dd_Ledger_isReceivable_26 ?_
    refine lv_iload_n F.1 F.2.1 dd_Ledger_isReceivable_29 rfl (lv_at hl 1 rfl) ?_
    refine lv_iload_n F.1 F.2.1 dd_Ledger_isReceivable_30 rfl (lv_at hl 2 rfl) ?_
    refine zw_goi (zw_rS F hE hP (zc_Store_receiptSlot lc G b0 S c j) zk_Store_receiptSlot za_Store_receiptSlot wl_Ledger_178 ⟨rfl, rfl, Nat.le_of_ble_eq_true rfl, Nat.le_of_ble_eq_true rfl⟩ hl.1 rfl (Nat.le_of_ble_eq_true rfl) ⟨Nat.zero_le _, Nat.zero_le _⟩ dd_Ledger_isReceivable_31) hS (fun _ h => h) (fun H locs hP _ _ hS => ?_)
    refine zw_goi (zw_rV F hE hP (zc_Store_has lc G b0 S i 0 (42 + 12 * c + j) (by first | omega | assumption) (by first | omega | assumption) (by first | omega | assumption) (hB _ _ _)) zk_Store_has za_Store_has zb_Store_has wl_Ledger_89 ⟨rfl, rfl, Nat.le_of_ble_eq_true rfl, Nat.le_of_ble_eq_true rfl⟩ (zc_recv (t := 3) (i := i) (j := 0) hE hP ⟨by decide, (show i < 2 by omega), (show 0 < 9 by omega)⟩ rfl rfl) hl.1 rfl (Nat.le_of_ble_eq_true rfl) ⟨Nat.zero_le _, Nat.zero_le _⟩ dd_Ledger_isReceivable_34) hS (fun _ h => h) (fun H locs hP _ _ hS => ?_)
    refine lv_if_ne F.1 F.2.1 dd_Ledger_isReceivable_37 (tgt := 44) rfl (fun h37 => ?_) (fun h37 => ?_)
    · refine lv_iconst (v := nI 0) F.1 F.2.1 dd_Ledger_isReceivable_44 (by decide) ?_
      exact zw_zret F hr hlk hP hS rfl (by decide) (by rw [zr_Ledger_isReceivable, if_neg h5, if_neg h37]) dd_Ledger_isReceivable_45
    · refine lv_iconst (v := nI 1) F.1 F.2.1 dd_Ledger_isReceivable_40 (by decide) ?_
      refine lv_goto F.1 F.2.1 dd_Ledger_isReceivable_41 (tgt := 45) rfl ?_
      exact zw_zret F hr hlk hP hS rfl (by decide) (by rw [zr_Ledger_isReceivable, if_neg h5, if_pos h37]) dd_Ledger_isReceivable_45
  · refine lv_iload_n F.1 F.2.1 dd_Ledger_isReceivable_8 rfl (lv_at hl 2 rfl) ?_
    refine lv_aload_n F.1 F.2.1 dd_Ledger_isReceivable_9 rfl (lv_at hl 0 rfl) ?_
    refine lv_iload_n F.1 F.2.1 dd_Ledger_isReceivable_10 rfl (lv_at hl 1 rfl) ?_
    refine zw_goi (zw_rV F hE hP (zc_Ledger_nextToReceive lc G b0 S i c (by first | omega | assumption) (by first | omega | assumption)) zk_Ledger_nextToReceive za_Ledger_nextToReceive zb_Ledger_nextToReceive wl_Ledger_175 ⟨rfl, rfl, Nat.le_of_ble_eq_true rfl, Nat.le_of_ble_eq_true rfl⟩ (zc_recv (t := 2) (i := i) (j := 0) hE hP ⟨by decide, (show i < 2 by omega), (show 0 < 1 by omega)⟩ rfl rfl) hl.1 rfl (Nat.le_of_ble_eq_true rfl) ⟨Nat.zero_le _, Nat.zero_le _⟩ dd_Ledger_isReceivable_11) hS (fun _ h => h) (fun H locs hP _ _ hS => ?_)
    refine lv_icmp_ne F.1 F.2.1 dd_Ledger_isReceivable_14 (tgt := 21) rfl (fun h14 => ?_) (fun h14 => ?_)
    · refine lv_iconst (v := nI 0) F.1 F.2.1 dd_Ledger_isReceivable_21 (by decide) ?_
      refine lv_goto F.1 F.2.1 dd_Ledger_isReceivable_22 (tgt := 45) rfl ?_
      exact zw_zret F hr hlk hP hS rfl (by decide) (by rw [zr_Ledger_isReceivable, if_pos h5, if_neg h14]) dd_Ledger_isReceivable_45
    · refine lv_iconst (v := nI 1) F.1 F.2.1 dd_Ledger_isReceivable_17 (by decide) ?_
      refine lv_goto F.1 F.2.1 dd_Ledger_isReceivable_18 (tgt := 45) rfl ?_
      exact zw_zret F hr hlk hP hS rfl (by decide) (by rw [zr_Ledger_isReceivable, if_pos h5, if_pos h14]) dd_Ledger_isReceivable_45
def zu_Ledger_noteReceived (S : zs_S) (i : Nat) (c : Nat) (j : Nat) (a : Int32) : zs_S := if zs_or (S 4 i 0 c) = nI 1 then (zs_u (zs_u (zs_u (zs_u S 4 i 0 (3 + c) (nI ((j + 1) + 1))) 5 i 0 (3 + c) (nI 1)) 4 i 0 (78 + 12 * c + j) a) 5 i 0 (78 + 12 * c + j) (nI 1)) else (zs_u (zs_u (zs_u (zs_u S 4 i 0 (42 + 12 * c + j) (nI 1)) 5 i 0 (42 + 12 * c + j) (nI 1)) 4 i 0 (78 + 12 * c + j) a) 5 i 0 (78 + 12 * c + j) (nI 1))
set_option maxHeartbeats 4000000 in
set_option maxRecDepth 100000 in
theorem zc_Ledger_noteReceived (lc : Launch) (G : zw_G) (b0 : Nat) (S : zs_S) (i : Nat) (c : Nat) (j : Nat) (a : Int32) (hi : i < 2) (hc : c < 3) (hj : j < 12) : zw_M lc ym_Ledger_noteReceived bm_Ledger_noteReceived 4 none { frames := 3, cells := 0, slots := 0, locals := 63 } G b0 176 (zp_p G b0 S) [.ref (b0 + zp_o 2 i 0), .int (nI c), .int (nI (j + 1)), .int a] (zw_Qv G b0 176 (zp_p G b0 (zu_Ledger_noteReceived S i c j a))) := by
  refine zw_of (by decide) (Nat.le_of_ble_eq_true rfl) ?_
  intro p e s m below meth cx ls F hr hlk hE hP hS hl
  have hl : lv_has ls 4 [(0, .ref (b0 + zp_o 2 i 0)), (1, .int (nI c)), (2, .int (nI (j + 1))), (3, .int a)] := hl
  refine lv_aload_n F.1 F.2.1 dd_Ledger_noteReceived_0 rfl (lv_at hl 0 rfl) ?_
  refine lv_iload_n F.1 F.2.1 dd_Ledger_noteReceived_1 rfl (lv_at hl 1 rfl) ?_
  refine zw_goi (zw_rV F hE hP (zc_Ledger_isOrdered lc G b0 S i c (by first | omega | assumption) (by first | omega | assumption)) zk_Ledger_isOrdered za_Ledger_isOrdered zb_Ledger_isOrdered wl_Ledger_172 ⟨rfl, rfl, Nat.le_of_ble_eq_true rfl, Nat.le_of_ble_eq_true rfl⟩ (zc_recv (t := 2) (i := i) (j := 0) hE hP ⟨by decide, (show i < 2 by omega), (show 0 < 1 by omega)⟩ rfl rfl) hl.1 rfl (Nat.le_of_ble_eq_true rfl) ⟨Nat.zero_le _, Nat.zero_le _⟩ dd_Ledger_noteReceived_2) hS (fun _ h => h) (fun H locs hP _ _ hS => ?_)
  refine zn_beq F dd_Ledger_noteReceived_5 (tgt := 25) rfl (fun h5 => ?_) (fun h5 => ?_)
  · refine lv_aload_n F.1 F.2.1 dd_Ledger_noteReceived_25 rfl (lv_at hl 0 rfl) ?_
    refine zc_gF (t := 2) (i := i) (j := 0) F hE hP ⟨by decide, (show i < 2 by omega), (show 0 < 1 by omega)⟩ rfl rfl zi_Ledger 0 (by decide) rfl wf_Ledger_12 rfl dd_Ledger_noteReceived_26 ?_
    refine lv_iload_n F.1 F.2.1 dd_Ledger_noteReceived_29 rfl (lv_at hl 1 rfl) ?_
    refine lv_iload_n F.1 F.2.1 dd_Ledger_noteReceived_30 rfl (lv_at hl 2 rfl) ?_
    refine zw_goi (zw_rS F hE hP (zc_Store_receiptSlot lc G b0 S c j) zk_Store_receiptSlot za_Store_receiptSlot wl_Ledger_178 ⟨rfl, rfl, Nat.le_of_ble_eq_true rfl, Nat.le_of_ble_eq_true rfl⟩ hl.1 rfl (Nat.le_of_ble_eq_true rfl) ⟨Nat.zero_le _, Nat.zero_le _⟩ dd_Ledger_noteReceived_31) hS (fun _ h => h) (fun H locs hP _ _ hS => ?_)
    refine lv_iconst (v := nI 1) F.1 F.2.1 dd_Ledger_noteReceived_34 (by decide) ?_
    refine zw_gov (zw_rV F hE hP (zc_Store_put lc G b0 S i 0 (42 + 12 * c + j) (nI 1) (by first | omega | assumption) (by first | omega | assumption) (by first | omega | assumption)) zk_Store_put za_Store_put zb_Store_put wl_Ledger_103 ⟨rfl, rfl, Nat.le_of_ble_eq_true rfl, Nat.le_of_ble_eq_true rfl⟩ (zc_recv (t := 3) (i := i) (j := 0) hE hP ⟨by decide, (show i < 2 by omega), (show 0 < 9 by omega)⟩ rfl rfl) hl.1 rfl (Nat.le_of_ble_eq_true rfl) ⟨Nat.zero_le _, Nat.zero_le _⟩ dd_Ledger_noteReceived_35) hS (fun _ h => h) (fun H locs hP _ _ hS => ?_)
    refine lv_aload_n F.1 F.2.1 dd_Ledger_noteReceived_38 rfl (lv_at hl 0 rfl) ?_
    refine zc_gF (t := 2) (i := i) (j := 0) F hE hP ⟨by decide, (show i < 2 by omega), (show 0 < 1 by omega)⟩ rfl rfl zi_Ledger 0 (by decide) rfl wf_Ledger_12 rfl dd_Ledger_noteReceived_39 ?_
    refine lv_iload_n F.1 F.2.1 dd_Ledger_noteReceived_42 rfl (lv_at hl 1 rfl) ?_
    refine lv_iload_n F.1 F.2.1 dd_Ledger_noteReceived_43 rfl (lv_at hl 2 rfl) ?_
    refine zw_goi (zw_rS F hE hP (zc_Store_answerSlot lc G b0 (zs_u (zs_u S 4 i 0 (42 + 12 * c + j) (nI 1)) 5 i 0 (42 + 12 * c + j) (nI 1)) c j) zk_Store_answerSlot za_Store_answerSlot wl_Ledger_181 ⟨rfl, rfl, Nat.le_of_ble_eq_true rfl, Nat.le_of_ble_eq_true rfl⟩ hl.1 rfl (Nat.le_of_ble_eq_true rfl) ⟨Nat.zero_le _, Nat.zero_le _⟩ dd_Ledger_noteReceived_44) hS (fun _ h => h) (fun H locs hP _ _ hS => ?_)
    refine lv_iload_n F.1 F.2.1 dd_Ledger_noteReceived_47 rfl (lv_at hl 3 rfl) ?_
    refine zw_gov (zw_rV F hE hP (zc_Store_put lc G b0 (zs_u (zs_u S 4 i 0 (42 + 12 * c + j) (nI 1)) 5 i 0 (42 + 12 * c + j) (nI 1)) i 0 (78 + 12 * c + j) a (by first | omega | assumption) (by first | omega | assumption) (by first | omega | assumption)) zk_Store_put za_Store_put zb_Store_put wl_Ledger_103 ⟨rfl, rfl, Nat.le_of_ble_eq_true rfl, Nat.le_of_ble_eq_true rfl⟩ (zc_recv (t := 3) (i := i) (j := 0) hE hP ⟨by decide, (show i < 2 by omega), (show 0 < 9 by omega)⟩ rfl rfl) hl.1 rfl (Nat.le_of_ble_eq_true rfl) ⟨Nat.zero_le _, Nat.zero_le _⟩ dd_Ledger_noteReceived_48) hS (fun _ h => h) (fun H locs hP _ _ hS => ?_)
    exact zw_vret F hr hlk hP hS (congrArg (zp_p G b0) (by rw [zu_Ledger_noteReceived, if_neg h5])) dd_Ledger_noteReceived_51
  · refine lv_aload_n F.1 F.2.1 dd_Ledger_noteReceived_8 rfl (lv_at hl 0 rfl) ?_
    refine zc_gF (t := 2) (i := i) (j := 0) F hE hP ⟨by decide, (show i < 2 by omega), (show 0 < 1 by omega)⟩ rfl rfl zi_Ledger 0 (by decide) rfl wf_Ledger_12 rfl dd_Ledger_noteReceived_9 ?_
    refine lv_iload_n F.1 F.2.1 dd_Ledger_noteReceived_12 rfl (lv_at hl 1 rfl) ?_
    refine zw_goi (zw_rS F hE hP (zc_Store_nextSlot lc G b0 S c) zk_Store_nextSlot za_Store_nextSlot wl_Ledger_73 ⟨rfl, rfl, Nat.le_of_ble_eq_true rfl, Nat.le_of_ble_eq_true rfl⟩ hl.1 rfl (Nat.le_of_ble_eq_true rfl) ⟨Nat.zero_le _, Nat.zero_le _⟩ dd_Ledger_noteReceived_13) hS (fun _ h => h) (fun H locs hP _ _ hS => ?_)
    refine lv_iload_n F.1 F.2.1 dd_Ledger_noteReceived_16 rfl (lv_at hl 2 rfl) ?_
    refine lv_iconst (v := nI 1) F.1 F.2.1 dd_Ledger_noteReceived_17 (by decide) ?_
    refine zn_iadd F dd_Ledger_noteReceived_18 ?_
    refine zw_gov (zw_rV F hE hP (zc_Store_put lc G b0 S i 0 (3 + c) (nI ((j + 1) + 1)) (by first | omega | assumption) (by first | omega | assumption) (by first | omega | assumption)) zk_Store_put za_Store_put zb_Store_put wl_Ledger_103 ⟨rfl, rfl, Nat.le_of_ble_eq_true rfl, Nat.le_of_ble_eq_true rfl⟩ (zc_recv (t := 3) (i := i) (j := 0) hE hP ⟨by decide, (show i < 2 by omega), (show 0 < 9 by omega)⟩ rfl rfl) hl.1 rfl (Nat.le_of_ble_eq_true rfl) ⟨Nat.zero_le _, Nat.zero_le _⟩ dd_Ledger_noteReceived_19) hS (fun _ h => h) (fun H locs hP _ _ hS => ?_)
    refine lv_goto F.1 F.2.1 dd_Ledger_noteReceived_22 (tgt := 38) rfl ?_
    refine lv_aload_n F.1 F.2.1 dd_Ledger_noteReceived_38 rfl (lv_at hl 0 rfl) ?_
    refine zc_gF (t := 2) (i := i) (j := 0) F hE hP ⟨by decide, (show i < 2 by omega), (show 0 < 1 by omega)⟩ rfl rfl zi_Ledger 0 (by decide) rfl wf_Ledger_12 rfl dd_Ledger_noteReceived_39 ?_
    refine lv_iload_n F.1 F.2.1 dd_Ledger_noteReceived_42 rfl (lv_at hl 1 rfl) ?_
    refine lv_iload_n F.1 F.2.1 dd_Ledger_noteReceived_43 rfl (lv_at hl 2 rfl) ?_
    refine zw_goi (zw_rS F hE hP (zc_Store_answerSlot lc G b0 (zs_u (zs_u S 4 i 0 (3 + c) (nI ((j + 1) + 1))) 5 i 0 (3 + c) (nI 1)) c j) zk_Store_answerSlot za_Store_answerSlot wl_Ledger_181 ⟨rfl, rfl, Nat.le_of_ble_eq_true rfl, Nat.le_of_ble_eq_true rfl⟩ hl.1 rfl (Nat.le_of_ble_eq_true rfl) ⟨Nat.zero_le _, Nat.zero_le _⟩ dd_Ledger_noteReceived_44) hS (fun _ h => h) (fun H locs hP _ _ hS => ?_)
    refine lv_iload_n F.1 F.2.1 dd_Ledger_noteReceived_47 rfl (lv_at hl 3 rfl) ?_
    refine zw_gov (zw_rV F hE hP (zc_Store_put lc G b0 (zs_u (zs_u S 4 i 0 (3 + c) (nI ((j + 1) + 1))) 5 i 0 (3 + c) (nI 1)) i 0 (78 + 12 * c + j) a (by first | omega | assumption) (by first | omega | assumption) (by first | omega | assumption)) zk_Store_put za_Store_put zb_Store_put wl_Ledger_103 ⟨rfl, rfl, Nat.le_of_ble_eq_true rfl, Nat.le_of_ble_eq_true rfl⟩ (zc_recv (t := 3) (i := i) (j := 0) hE hP ⟨by decide, (show i < 2 by omega), (show 0 < 9 by omega)⟩ rfl rfl) hl.1 rfl (Nat.le_of_ble_eq_true rfl) ⟨Nat.zero_le _, Nat.zero_le _⟩ dd_Ledger_noteReceived_48) hS (fun _ h => h) (fun H locs hP _ _ hS => ?_)
    exact zw_vret F hr hlk hP hS (congrArg (zp_p G b0) (by rw [zu_Ledger_noteReceived, if_pos h5])) dd_Ledger_noteReceived_51
def zu_Ledger_settle (S : zs_S) (i : Nat) (c : Nat) (j : Nat) (x : Int32) : zs_S := if x = nI 1 then (zs_u (zs_u (zs_u S 20 i (12 * c + j) 6 x) 4 i 0 (6 + 12 * c + j) (nI 0)) 5 i 0 (6 + 12 * c + j) (nI 0)) else (zs_u (zs_u (zs_u (zs_u (zs_u S 20 i (12 * c + j) 6 x) 4 i 0 (6 + 12 * c + j) (nI 0)) 5 i 0 (6 + 12 * c + j) (nI 0)) 12 i (zs_n (S 20 i (12 * c + j) 2)) (zs_n (S 20 i (12 * c + j) 0)) (S 12 i (zs_n (S 20 i (12 * c + j) 2)) (zs_n (S 20 i (12 * c + j) 0)) + S 20 i (12 * c + j) 1)) 14 i c (zs_n (S 20 i (12 * c + j) 0)) (if S 20 i (12 * c + j) 5 ≤ 0 then S 14 i c (zs_n (S 20 i (12 * c + j) 0)) - S 20 i (12 * c + j) 1 else S 14 i c (zs_n (S 20 i (12 * c + j) 0))))
set_option maxHeartbeats 4000000 in
set_option maxRecDepth 100000 in
theorem zc_Ledger_settle (lc : Launch) (G : zw_G) (b0 : Nat) (S : zs_S) (i : Nat) (c : Nat) (j : Nat) (x : Int32) (hi : i < 2) (hc : c < 3) (hj : j < 12) (hpk : zs_PK S i (12 * c + j)) : zw_M lc ym_Ledger_settle bm_Ledger_settle 5 none { frames := 2, cells := 0, slots := 0, locals := 42 } G b0 176 (zp_p G b0 S) [.ref (b0 + zp_o 2 i 0), .int (nI c), .int (nI (j + 1)), .int x] (zw_Qv G b0 176 (zp_p G b0 (zu_Ledger_settle S i c j x))) := by
  refine zw_of (by decide) (Nat.le_of_ble_eq_true rfl) ?_
  intro p e s m below meth cx ls F hr hlk hE hP hS hl
  have hl : lv_has ls 5 [(0, .ref (b0 + zp_o 2 i 0)), (1, .int (nI c)), (2, .int (nI (j + 1))), (3, .int x)] := hl
  refine lv_aload_n F.1 F.2.1 dd_Ledger_settle_0 rfl (lv_at hl 0 rfl) ?_
  refine zc_gF (t := 2) (i := i) (j := 0) F hE hP ⟨by decide, (show i < 2 by omega), (show 0 < 1 by omega)⟩ rfl rfl zi_Ledger 5 (by decide) rfl wf_Ledger_42 rfl dd_Ledger_settle_1 ?_
  refine lv_iload_n F.1 F.2.1 dd_Ledger_settle_4 rfl (lv_at hl 1 rfl) ?_
  refine zc_aald (t := 17) (i := i) (j := 0) (k := c) (N := 3) (z := 4) (a := (b0 + zp_o 18 i c)) F hE hP ⟨by decide, (show i < 2 by omega), (show 0 < 1 by omega)⟩ rfl rfl rfl (by omega) (by decide) rfl dd_Ledger_settle_5 ?_
  refine zc_gN (t := 18) (i := i) (j := c) F hE hP ⟨by decide, (show i < 2 by omega), (show c < 3 by omega)⟩ rfl rfl zi_End 0 (by decide) rfl wf_Ledger_121 rfl dd_Ledger_settle_6 ?_
  refine lv_iload_n F.1 F.2.1 dd_Ledger_settle_9 rfl (lv_at hl 2 rfl) ?_
  refine lv_iconst (v := nI 1) F.1 F.2.1 dd_Ledger_settle_10 (by decide) ?_
  refine zn_isub F dd_Ledger_settle_11 (by omega) ?_
  refine zn_top (y := nI j) (congrArg nI (by omega)) ?_
  refine zc_aald (t := 19) (i := i) (j := c) (k := j) (N := 12) (z := 5) (a := (b0 + zp_o 20 i (12 * c + j))) F hE hP ⟨by decide, (show i < 2 by omega), (show c < 3 by omega)⟩ rfl rfl rfl (by omega) (by decide) rfl dd_Ledger_settle_12 ?_
  refine lv_astore F.1 F.2.1 dd_Ledger_settle_13 hl (by decide) (lv' := [(4, .ref (b0 + zp_o 20 i (12 * c + j))), (0, .ref (b0 + zp_o 2 i 0)), (1, .int (nI c)), (2, .int (nI (j + 1))), (3, .int x)]) rfl (fun ls hl => ?_)
  refine lv_aload F.1 F.2.1 dd_Ledger_settle_15 (lv_at hl 0 rfl) ?_
  refine lv_iload_n F.1 F.2.1 dd_Ledger_settle_17 rfl (lv_at hl 4 rfl) ?_
  refine zc_pN (t := 20) (i := i) (j := 12 * c + j) (kf := 6) F hE hP hS (fun _ h => h) ⟨by decide, (show i < 2 by omega), (show 12 * c + j < 36 by omega)⟩ rfl rfl zi_Packet zy_Packet zj_Packet zl_Packet 6 (by decide) rfl rfl wf_Ledger_187 (by decide +kernel) (Nat.le_of_ble_eq_true rfl) rfl dd_Ledger_settle_18 (fun H locs hP hS => ?_)
  refine lv_aload_n F.1 F.2.1 dd_Ledger_settle_21 rfl (lv_at hl 1 rfl) ?_
  refine zc_gF (t := 2) (i := i) (j := 0) F hE hP ⟨by decide, (show i < 2 by omega), (show 0 < 1 by omega)⟩ rfl rfl zi_Ledger 0 (by decide) rfl wf_Ledger_12 rfl dd_Ledger_settle_22 ?_
  refine lv_iload_n F.1 F.2.1 dd_Ledger_settle_25 rfl (lv_at hl 2 rfl) ?_
  refine lv_iload_n F.1 F.2.1 dd_Ledger_settle_26 rfl (lv_at hl 3 rfl) ?_
  refine zw_goi (zw_rS F hE hP (zc_Store_printSlot lc G b0 (zs_u S 20 i (12 * c + j) 6 x) c j) zk_Store_printSlot za_Store_printSlot wl_Ledger_155 ⟨rfl, rfl, Nat.le_of_ble_eq_true rfl, Nat.le_of_ble_eq_true rfl⟩ hl.1 rfl (Nat.le_of_ble_eq_true rfl) ⟨Nat.zero_le _, Nat.zero_le _⟩ dd_Ledger_settle_27) hS (fun _ h => h) (fun H locs hP _ _ hS => ?_)
  refine zw_gov (zw_rV F hE hP (zc_Store_drop lc G b0 (zs_u S 20 i (12 * c + j) 6 x) i 0 (6 + 12 * c + j) (by first | omega | assumption) (by first | omega | assumption) (by first | omega | assumption)) zk_Store_drop za_Store_drop zb_Store_drop wl_Ledger_200 ⟨rfl, rfl, Nat.le_of_ble_eq_true rfl, Nat.le_of_ble_eq_true rfl⟩ (zc_recv (t := 3) (i := i) (j := 0) hE hP ⟨by decide, (show i < 2 by omega), (show 0 < 9 by omega)⟩ rfl rfl) hl.1 rfl (Nat.le_of_ble_eq_true rfl) ⟨Nat.zero_le _, Nat.zero_le _⟩ dd_Ledger_settle_30) hS (fun _ h => h) (fun H locs hP _ _ hS => ?_)
  refine lv_iload_n F.1 F.2.1 dd_Ledger_settle_33 rfl (lv_at hl 4 rfl) ?_
  refine lv_iconst (v := nI 1) F.1 F.2.1 dd_Ledger_settle_34 (by decide) ?_
  refine lv_icmp_eq F.1 F.2.1 dd_Ledger_settle_35 (tgt := 48) rfl (fun h35 => ?_) (fun h35 => ?_)
  · exact zw_vret F hr hlk hP hS (congrArg (zp_p G b0) (by rw [zu_Ledger_settle, if_pos h35])) dd_Ledger_settle_48
  · refine lv_aload_n F.1 F.2.1 dd_Ledger_settle_38 rfl (lv_at hl 1 rfl) ?_
    refine zc_gF (t := 2) (i := i) (j := 0) F hE hP ⟨by decide, (show i < 2 by omega), (show 0 < 1 by omega)⟩ rfl rfl zi_Ledger 4 (by decide) rfl wf_Ledger_36 rfl dd_Ledger_settle_39 ?_
    refine lv_aload F.1 F.2.1 dd_Ledger_settle_42 (lv_at hl 0 rfl) ?_
    refine lv_iload_n F.1 F.2.1 dd_Ledger_settle_44 rfl (lv_at hl 2 rfl) ?_
    refine zw_gov (zw_rV F hE hP (zc_Bank_refund lc G b0 (zs_u (zs_u (zs_u S 20 i (12 * c + j) 6 x) 4 i 0 (6 + 12 * c + j) (nI 0)) 5 i 0 (6 + 12 * c + j) (nI 0)) i (12 * c + j) c (zs_n (S 20 i (12 * c + j) 2)) (zs_n (S 20 i (12 * c + j) 0)) (by first | omega | assumption) (by first | omega | assumption) (by first | omega | assumption) hpk.2.1.2 hpk.1.2 (by rw [zs_ut (by decide), zs_ut (by decide), zs_uk (by decide)]; exact hpk.2.1.1) (by rw [zs_ut (by decide), zs_ut (by decide), zs_uk (by decide)]; exact hpk.1.1)) zk_Bank_refund za_Bank_refund zb_Bank_refund wl_Ledger_204 ⟨rfl, rfl, Nat.le_of_ble_eq_true rfl, Nat.le_of_ble_eq_true rfl⟩ (zc_recv (t := 10) (i := i) (j := 0) hE hP ⟨by decide, (show i < 2 by omega), (show 0 < 1 by omega)⟩ rfl rfl) hl.1 rfl (Nat.le_of_ble_eq_true rfl) ⟨Nat.zero_le _, Nat.zero_le _⟩ dd_Ledger_settle_45) hS (fun _ h => h) (fun H locs hP _ _ hS => ?_)
    rw [zs_ut (by decide)] at hP
    rw [zs_ut (by decide)] at hP
    rw [zs_ut (by decide)] at hP
    rw [zs_ut (by decide)] at hP
    rw [zs_ut (by decide)] at hP
    rw [zs_uk (by decide)] at hP
    rw [zs_ut (by decide)] at hP
    rw [zs_ut (by decide)] at hP
    rw [zs_uk (by decide)] at hP
    rw [zs_ut (by decide)] at hP
    rw [zs_ut (by decide)] at hP
    rw [zs_ut (by decide)] at hP
    exact zw_vret F hr hlk hP hS (congrArg (zp_p G b0) (by rw [zu_Ledger_settle, if_neg h35])) dd_Ledger_settle_48
def zr_Ledger_proveNotReceived (S : zs_S) (i : Nat) (o : Nat) (c : Nat) (j : Nat) (h : Int32) : Int32 := if zs_or (S 4 i 0 c) = nI 1 then (if zs_nx (S 4 o 0 (3 + c)) ≤ nI (j + 1) then (zs_pv S i o h (3 + c) (zs_nx (S 4 o 0 (3 + c)))) else ((-5))) else (zs_pa S i o h (42 + 12 * c + j))
set_option maxHeartbeats 4000000 in
set_option maxRecDepth 100000 in
theorem zc_Ledger_proveNotReceived (lc : Launch) (G : zw_G) (b0 : Nat) (S : zs_S) (i : Nat) (o : Nat) (c : Nat) (j : Nat) (h : Int32) (hi : i < 2) (ho : o < 2) (hc : c < 3) (hj : j < 12) (hB : zs_B S) : zw_M lc ym_Ledger_proveNotReceived bm_Ledger_proveNotReceived 6 (some .int) { frames := 3, cells := 0, slots := 0, locals := 69 } G b0 176 (zp_p G b0 S) [.ref (b0 + zp_o 2 i 0), .ref (b0 + zp_o 2 o 0), .int (nI c), .int (nI (j + 1)), .int h] (zw_Qi G b0 176 (zp_p G b0 S) (zr_Ledger_proveNotReceived S i o c j h)) := by
  refine zw_of (by decide) (Nat.le_of_ble_eq_true rfl) ?_
  intro p e s m below meth cx ls F hr hlk hE hP hS hl
  have hl : lv_has ls 6 [(0, .ref (b0 + zp_o 2 i 0)), (1, .ref (b0 + zp_o 2 o 0)), (2, .int (nI c)), (3, .int (nI (j + 1))), (4, .int h)] := hl
  refine lv_aload_n F.1 F.2.1 dd_Ledger_proveNotReceived_0 rfl (lv_at hl 0 rfl) ?_
  refine lv_iload_n F.1 F.2.1 dd_Ledger_proveNotReceived_1 rfl (lv_at hl 2 rfl) ?_
  refine zw_goi (zw_rV F hE hP (zc_Ledger_isOrdered lc G b0 S i c (by first | omega | assumption) (by first | omega | assumption)) zk_Ledger_isOrdered za_Ledger_isOrdered zb_Ledger_isOrdered wl_Ledger_172 ⟨rfl, rfl, Nat.le_of_ble_eq_true rfl, Nat.le_of_ble_eq_true rfl⟩ (zc_recv (t := 2) (i := i) (j := 0) hE hP ⟨by decide, (show i < 2 by omega), (show 0 < 1 by omega)⟩ rfl rfl) hl.1 rfl (Nat.le_of_ble_eq_true rfl) ⟨Nat.zero_le _, Nat.zero_le _⟩ dd_Ledger_proveNotReceived_2) hS (fun _ h => h) (fun H locs hP _ _ hS => ?_)
  refine zn_bne F dd_Ledger_proveNotReceived_5 (tgt := 21) rfl (fun h5 => ?_) (fun h5 => ?_)
  · refine lv_aload_n F.1 F.2.1 dd_Ledger_proveNotReceived_21 rfl (lv_at hl 1 rfl) ?_
    refine lv_iload_n F.1 F.2.1 dd_Ledger_proveNotReceived_22 rfl (lv_at hl 2 rfl) ?_
    refine zw_goi (zw_rV F hE hP (zc_Ledger_nextToReceive lc G b0 S o c (by first | omega | assumption) (by first | omega | assumption)) zk_Ledger_nextToReceive za_Ledger_nextToReceive zb_Ledger_nextToReceive wl_Ledger_175 ⟨rfl, rfl, Nat.le_of_ble_eq_true rfl, Nat.le_of_ble_eq_true rfl⟩ (zc_recv (t := 2) (i := o) (j := 0) hE hP ⟨by decide, (show o < 2 by omega), (show 0 < 1 by omega)⟩ rfl rfl) hl.1 rfl (Nat.le_of_ble_eq_true rfl) ⟨Nat.zero_le _, Nat.zero_le _⟩ dd_Ledger_proveNotReceived_23) hS (fun _ h => h) (fun H locs hP _ _ hS => ?_)
    refine lv_istore F.1 F.2.1 dd_Ledger_proveNotReceived_26 hl (by decide) (lv' := [(5, .int (zs_nx (S 4 o 0 (3 + c)))), (0, .ref (b0 + zp_o 2 i 0)), (1, .ref (b0 + zp_o 2 o 0)), (2, .int (nI c)), (3, .int (nI (j + 1))), (4, .int h)]) rfl (fun ls hl => ?_)
    refine lv_iload F.1 F.2.1 dd_Ledger_proveNotReceived_28 (lv_at hl 0 rfl) ?_
    refine lv_iload_n F.1 F.2.1 dd_Ledger_proveNotReceived_30 rfl (lv_at hl 4 rfl) ?_
    refine lv_icmp_le F.1 F.2.1 dd_Ledger_proveNotReceived_31 (tgt := 39) rfl (fun h31 => ?_) (fun h31 => ?_)
    · refine lv_aload_n F.1 F.2.1 dd_Ledger_proveNotReceived_39 rfl (lv_at hl 1 rfl) ?_
      refine lv_aload_n F.1 F.2.1 dd_Ledger_proveNotReceived_40 rfl (lv_at hl 2 rfl) ?_
      refine lv_iload F.1 F.2.1 dd_Ledger_proveNotReceived_41 (lv_at hl 5 rfl) ?_
      refine lv_iload_n F.1 F.2.1 dd_Ledger_proveNotReceived_43 rfl (lv_at hl 3 rfl) ?_
      refine zw_goi (zw_rS F hE hP (zc_Store_nextSlot lc G b0 S c) zk_Store_nextSlot za_Store_nextSlot wl_Ledger_73 ⟨rfl, rfl, Nat.le_of_ble_eq_true rfl, Nat.le_of_ble_eq_true rfl⟩ hl.1 rfl (Nat.le_of_ble_eq_true rfl) ⟨Nat.zero_le _, Nat.zero_le _⟩ dd_Ledger_proveNotReceived_44) hS (fun _ h => h) (fun H locs hP _ _ hS => ?_)
      refine lv_iload F.1 F.2.1 dd_Ledger_proveNotReceived_47 (lv_at hl 0 rfl) ?_
      refine zw_goi (zw_rV F hE hP (zc_Ledger_proveValue lc G b0 S i o h (3 + c) (zs_nx (S 4 o 0 (3 + c))) (by first | omega | assumption) (by first | omega | assumption) (by first | omega | assumption) (by assumption)) zk_Ledger_proveValue za_Ledger_proveValue zb_Ledger_proveValue wl_Ledger_92 ⟨rfl, rfl, Nat.le_of_ble_eq_true rfl, Nat.le_of_ble_eq_true rfl⟩ (zc_recv (t := 2) (i := i) (j := 0) hE hP ⟨by decide, (show i < 2 by omega), (show 0 < 1 by omega)⟩ rfl rfl) hl.1 rfl (Nat.le_of_ble_eq_true rfl) ⟨Nat.zero_le _, Nat.zero_le _⟩ dd_Ledger_proveNotReceived_49) hS (fun _ h => h) (fun H locs hP _ _ hS => ?_)
      exact zw_iret F hr hlk hP hS rfl (by rw [zr_Ledger_proveNotReceived, if_pos h5, if_pos h31]) dd_Ledger_proveNotReceived_52
    · refine lv_bipush (v := (-5)) F.1 F.2.1 dd_Ledger_proveNotReceived_34 (by decide) ?_
      refine lv_goto F.1 F.2.1 dd_Ledger_proveNotReceived_36 (tgt := 52) rfl ?_
      exact zw_iret F hr hlk hP hS rfl (by rw [zr_Ledger_proveNotReceived, if_pos h5, if_neg h31]) dd_Ledger_proveNotReceived_52
  · refine lv_aload_n F.1 F.2.1 dd_Ledger_proveNotReceived_8 rfl (lv_at hl 0 rfl) ?_
    refine lv_aload_n F.1 F.2.1 dd_Ledger_proveNotReceived_9 rfl (lv_at hl 1 rfl) ?_
    refine lv_iload F.1 F.2.1 dd_Ledger_proveNotReceived_10 (lv_at hl 4 rfl) ?_
    refine lv_iload_n F.1 F.2.1 dd_Ledger_proveNotReceived_12 rfl (lv_at hl 2 rfl) ?_
    refine lv_iload_n F.1 F.2.1 dd_Ledger_proveNotReceived_13 rfl (lv_at hl 3 rfl) ?_
    refine zw_goi (zw_rS F hE hP (zc_Store_receiptSlot lc G b0 S c j) zk_Store_receiptSlot za_Store_receiptSlot wl_Ledger_178 ⟨rfl, rfl, Nat.le_of_ble_eq_true rfl, Nat.le_of_ble_eq_true rfl⟩ hl.1 rfl (Nat.le_of_ble_eq_true rfl) ⟨Nat.zero_le _, Nat.zero_le _⟩ dd_Ledger_proveNotReceived_14) hS (fun _ h => h) (fun H locs hP _ _ hS => ?_)
    refine zw_goi (zw_rV F hE hP (zc_Ledger_proveAbsence lc G b0 S i o h (42 + 12 * c + j) (by first | omega | assumption) (by first | omega | assumption) (by first | omega | assumption) (by assumption)) zk_Ledger_proveAbsence za_Ledger_proveAbsence zb_Ledger_proveAbsence wl_Ledger_196 ⟨rfl, rfl, Nat.le_of_ble_eq_true rfl, Nat.le_of_ble_eq_true rfl⟩ (zc_recv (t := 2) (i := i) (j := 0) hE hP ⟨by decide, (show i < 2 by omega), (show 0 < 1 by omega)⟩ rfl rfl) hl.1 rfl (Nat.le_of_ble_eq_true rfl) ⟨Nat.zero_le _, Nat.zero_le _⟩ dd_Ledger_proveNotReceived_17) hS (fun _ h => h) (fun H locs hP _ _ hS => ?_)
    exact zw_iret F hr hlk hP hS rfl (by rw [zr_Ledger_proveNotReceived, if_neg h5]) dd_Ledger_proveNotReceived_20
set_option maxHeartbeats 4000000 in
set_option maxRecDepth 100000 in
theorem zl_Bank_findVoucher {p : Program} {e : Env} {R : Room} {s : State} {m : MethodId} {below : List Frame} {meth : Method} {cx : Code} {av : Array Value} (lc : Launch) (G : zw_G) (b0 : Nat) (S : zs_S) (i : Nat) (x : Int32) (c n : Nat) (hi : i < 2) (hn : S 10 i 0 0 = nI n) (hn2 : n ≤ 5) (r0 : Nat) (F : CallFix p m cx bm_Bank_findVoucher 4 s av zw_WS "TwinLedgers$Bank") (hr : meth.sig.returnType = some .int) (hlk : meth.locks = false) (hE : zw_E G s) : ∀ (r k : Nat), k + r = n + 1 → 1 ≤ k → zs_fv (S 15 i 0) (S 16 i 0) x (nI c) k r = r0 → ∀ (ls : Array Slot) (H : Heap) (locs : List Loc), lv_has ls 4 [(3, .int (nI k)), (0, .ref (b0 + zp_o 10 i 0)), (1, .int x), (2, .int (nI c))] → va_P G.1 zw_cl (zw_l b0 176 (zp_p G b0 S)) H → va_S (zw_A b0 176) s.heap H locs → W p lc e R s m av below meth cx H locs 0 0 (MQ below (zw_Qi G b0 176 (zp_p G b0 S) (nI r0)) av s 0 0 (zw_A b0 176)) (F0 m 2 ls []) := by
  intro r
  induction r with
  | zero =>
    intro k hk hk1 hres ls H locs hl hP hS
    refine lv_iload_n F.1 F.2.1 dd_Bank_findVoucher_2 rfl (lv_at hl 0 rfl) ?_
    refine lv_aload_n F.1 F.2.1 dd_Bank_findVoucher_3 rfl (lv_at hl 1 rfl) ?_
    refine zc_gF (t := 10) (i := i) (j := 0) F hE hP ⟨by decide, (show i < 2 by omega), (show 0 < 1 by omega)⟩ rfl rfl zi_Bank 4 (by decide) rfl wf_Bank_26 rfl dd_Bank_findVoucher_4 ?_
    refine zn_top (y := nI n) (hn) ?_
    refine zn_cgt F dd_Bank_findVoucher_7 (tgt := 38) rfl (by omega) (by omega) (fun h7 => ?_) (fun h7 => absurd (show n < k by omega) h7)
    refine lv_iconst (v := nI 0) F.1 F.2.1 dd_Bank_findVoucher_38 (by decide) ?_
    exact zw_iret F hr hlk hP hS rfl (by rw [← hres]; rfl) dd_Bank_findVoucher_39
  | succ r ih =>
    intro k hk hk1 hres ls H locs hl hP hS
    refine lv_iload_n F.1 F.2.1 dd_Bank_findVoucher_2 rfl (lv_at hl 0 rfl) ?_
    refine lv_aload_n F.1 F.2.1 dd_Bank_findVoucher_3 rfl (lv_at hl 1 rfl) ?_
    refine zc_gF (t := 10) (i := i) (j := 0) F hE hP ⟨by decide, (show i < 2 by omega), (show 0 < 1 by omega)⟩ rfl rfl zi_Bank 4 (by decide) rfl wf_Bank_26 rfl dd_Bank_findVoucher_4 ?_
    refine zn_top (y := nI n) (hn) ?_
    refine zn_cgt F dd_Bank_findVoucher_7 (tgt := 38) rfl (by omega) (by omega) (fun h7 => absurd h7 (by omega)) (fun h7 => ?_)
    refine lv_aload_n F.1 F.2.1 dd_Bank_findVoucher_10 rfl (lv_at hl 1 rfl) ?_
    refine zc_gF (t := 10) (i := i) (j := 0) F hE hP ⟨by decide, (show i < 2 by omega), (show 0 < 1 by omega)⟩ rfl rfl zi_Bank 2 (by decide) rfl wf_Bank_19 rfl dd_Bank_findVoucher_11 ?_
    refine lv_iload_n F.1 F.2.1 dd_Bank_findVoucher_14 rfl (lv_at hl 0 rfl) ?_
    refine zc_iald (t := 15) (i := i) (j := 0) (k := k) (N := 6) F hE hP ⟨by decide, (show i < 2 by omega), (show 0 < 1 by omega)⟩ (fun _ => rfl) (by omega) (by decide) dd_Bank_findVoucher_15 ?_
    refine lv_iload_n F.1 F.2.1 dd_Bank_findVoucher_16 rfl (lv_at hl 2 rfl) ?_
    refine lv_icmp_ne F.1 F.2.1 dd_Bank_findVoucher_17 (tgt := 32) rfl (fun h17 => ?_) (fun h17 => ?_)
    · refine lv_iinc F.1 F.2.1 dd_Bank_findVoucher_32 hl (k := 0) rfl (v := nI (k + 1)) (nI_1 _) (by decide) (lv' := [(3, .int (nI (k + 1))), (0, .ref (b0 + zp_o 10 i 0)), (1, .int x), (2, .int (nI c))]) rfl (fun ls hl => ?_)
      refine lv_goto F.1 F.2.1 dd_Bank_findVoucher_35 (tgt := 2) rfl ?_
      exact ih (k + 1) (by omega) (by omega) (by rw [← hres, zs_fvs, if_neg h17]) ls H locs (lv_sub hl [0, 1, 2, 3] rfl) hP hS
    · refine lv_aload_n F.1 F.2.1 dd_Bank_findVoucher_20 rfl (lv_at hl 1 rfl) ?_
      refine zc_gF (t := 10) (i := i) (j := 0) F hE hP ⟨by decide, (show i < 2 by omega), (show 0 < 1 by omega)⟩ rfl rfl zi_Bank 3 (by decide) rfl wf_Bank_23 rfl dd_Bank_findVoucher_21 ?_
      refine lv_iload_n F.1 F.2.1 dd_Bank_findVoucher_24 rfl (lv_at hl 0 rfl) ?_
      refine zc_iald (t := 16) (i := i) (j := 0) (k := k) (N := 6) F hE hP ⟨by decide, (show i < 2 by omega), (show 0 < 1 by omega)⟩ (fun _ => rfl) (by omega) (by decide) dd_Bank_findVoucher_25 ?_
      refine lv_iload_n F.1 F.2.1 dd_Bank_findVoucher_26 rfl (lv_at hl 3 rfl) ?_
      refine lv_icmp_ne F.1 F.2.1 dd_Bank_findVoucher_27 (tgt := 32) rfl (fun h27 => ?_) (fun h27 => ?_)
      · refine lv_iinc F.1 F.2.1 dd_Bank_findVoucher_32 hl (k := 0) rfl (v := nI (k + 1)) (nI_1 _) (by decide) (lv' := [(3, .int (nI (k + 1))), (0, .ref (b0 + zp_o 10 i 0)), (1, .int x), (2, .int (nI c))]) rfl (fun ls hl => ?_)
        refine lv_goto F.1 F.2.1 dd_Bank_findVoucher_35 (tgt := 2) rfl ?_
        exact ih (k + 1) (by omega) (by omega) (by rw [← hres, zs_fvs, if_pos h17, if_neg h27]) ls H locs (lv_sub hl [0, 1, 2, 3] rfl) hP hS
      · refine lv_iload_n F.1 F.2.1 dd_Bank_findVoucher_30 rfl (lv_at hl 0 rfl) ?_
        exact zw_iret F hr hlk hP hS rfl (by rw [← hres, zs_fvs, if_pos h17, if_pos h27]) dd_Bank_findVoucher_31
set_option maxHeartbeats 4000000 in
set_option maxRecDepth 100000 in
theorem zc_Bank_findVoucher (lc : Launch) (G : zw_G) (b0 : Nat) (S : zs_S) (i : Nat) (x : Int32) (c : Nat) (n : Nat) (hi : i < 2) (hn : S 10 i 0 0 = nI n) (hn2 : n ≤ 5) : zw_M lc ym_Bank_findVoucher bm_Bank_findVoucher 4 (some .int) { frames := 0, cells := 0, slots := 0, locals := 0 } G b0 176 (zp_p G b0 S) [.ref (b0 + zp_o 10 i 0), .int x, .int (nI c)] (zw_Qi G b0 176 (zp_p G b0 S) (nI (zs_fv (S 15 i 0) (S 16 i 0) x (nI c) 1 n))) := by
  refine zw_of (by decide) (Nat.le_of_ble_eq_true rfl) ?_
  intro p e s m below meth cx ls F hr hlk hE hP hS hl
  have hl : lv_has ls 4 [(0, .ref (b0 + zp_o 10 i 0)), (1, .int x), (2, .int (nI c))] := hl
  refine lv_iconst (v := nI 1) F.1 F.2.1 dd_Bank_findVoucher_0 (by decide) ?_
  refine lv_istore_n F.1 F.2.1 dd_Bank_findVoucher_1 rfl hl (by decide) (lv' := [(3, .int (nI 1)), (0, .ref (b0 + zp_o 10 i 0)), (1, .int x), (2, .int (nI c))]) rfl (fun ls hl => ?_)
  exact zl_Bank_findVoucher lc G b0 S i x c n hi hn hn2 _ F hr hlk hE n 1 (by omega) (by omega) rfl ls _ _ (lv_sub hl [0, 1, 2, 3] rfl) hP hS
def zr_Bank_takeVoucher (S : zs_S) (i : Nat) (o : Nat) (j : Nat) (c : Nat) (t : Nat) (n : Nat) : Int32 := if nI (zs_fv (S 15 i 0) (S 16 i 0) (S 20 o j 0) (nI c) 1 n) = 0 then (if n < 5 then (nI 1) else (nI 0)) else (nI 1)
def zu_Bank_takeVoucher (S : zs_S) (i : Nat) (o : Nat) (j : Nat) (c : Nat) (t : Nat) (n : Nat) : zs_S := if nI (zs_fv (S 15 i 0) (S 16 i 0) (S 20 o j 0) (nI c) 1 n) = 0 then (if n < 5 then (zs_u (zs_u (zs_u (zs_u S 10 i 0 0 (nI (n + 1))) 15 i 0 (n + 1) (S 20 o j 0)) 16 i 0 (n + 1) (nI c)) 12 i t (n + 1) ((S 12 i t (n + 1)) + (S 20 o j 1))) else (S)) else (zs_u S 12 i t (zs_fv (S 15 i 0) (S 16 i 0) (S 20 o j 0) (nI c) 1 n) ((S 12 i t (zs_fv (S 15 i 0) (S 16 i 0) (S 20 o j 0) (nI c) 1 n)) + (S 20 o j 1)))
set_option maxHeartbeats 4000000 in
set_option maxRecDepth 100000 in
theorem zc_Bank_takeVoucher (lc : Launch) (G : zw_G) (b0 : Nat) (S : zs_S) (i : Nat) (o : Nat) (j : Nat) (c : Nat) (t : Nat) (n : Nat) (hi : i < 2) (ho : o < 2) (hj : j < 36) (hc : c < 3) (ht : t < 4) (hto : S 20 o j 3 = nI t) (hn : S 10 i 0 0 = nI n) (hn2 : n ≤ 5) : zw_M lc ym_Bank_takeVoucher bm_Bank_takeVoucher 4 (some .boolean) { frames := 1, cells := 0, slots := 0, locals := 23 } G b0 176 (zp_p G b0 S) [.ref (b0 + zp_o 10 i 0), .ref (b0 + zp_o 20 o j), .int (nI c)] (zw_Qi G b0 176 (zp_p G b0 (zu_Bank_takeVoucher S i o j c t n)) (zr_Bank_takeVoucher S i o j c t n)) := by
  refine zw_of (by decide) (Nat.le_of_ble_eq_true rfl) ?_
  intro p e s m below meth cx ls F hr hlk hE hP hS hl
  have hl : lv_has ls 4 [(0, .ref (b0 + zp_o 10 i 0)), (1, .ref (b0 + zp_o 20 o j)), (2, .int (nI c))] := hl
  refine lv_aload_n F.1 F.2.1 dd_Bank_takeVoucher_0 rfl (lv_at hl 0 rfl) ?_
  refine lv_aload_n F.1 F.2.1 dd_Bank_takeVoucher_1 rfl (lv_at hl 1 rfl) ?_
  refine zc_gN (t := 20) (i := o) (j := j) F hE hP ⟨by decide, (show o < 2 by omega), (show j < 36 by omega)⟩ rfl rfl zi_Packet 0 (by decide) rfl wf_Bank_35 rfl dd_Bank_takeVoucher_2 ?_
  refine lv_iload_n F.1 F.2.1 dd_Bank_takeVoucher_5 rfl (lv_at hl 2 rfl) ?_
  refine zw_goi (zw_rV F hE hP (zc_Bank_findVoucher lc G b0 S i (S 20 o j 0) c n (by first | omega | assumption) (by assumption) (by first | omega | assumption)) zk_Bank_findVoucher za_Bank_findVoucher zb_Bank_findVoucher wl_Bank_58 ⟨rfl, rfl, Nat.le_of_ble_eq_true rfl, Nat.le_of_ble_eq_true rfl⟩ (zc_recv (t := 10) (i := i) (j := 0) hE hP ⟨by decide, (show i < 2 by omega), (show 0 < 1 by omega)⟩ rfl rfl) hl.1 rfl (Nat.le_of_ble_eq_true rfl) ⟨Nat.zero_le _, Nat.zero_le _⟩ dd_Bank_takeVoucher_6) hS (fun _ h => h) (fun H locs hP _ _ hS => ?_)
  refine lv_istore_n F.1 F.2.1 dd_Bank_takeVoucher_9 rfl hl (by decide) (lv' := [(3, .int (nI (zs_fv (S 15 i 0) (S 16 i 0) (S 20 o j 0) (nI c) 1 n))), (0, .ref (b0 + zp_o 10 i 0)), (1, .ref (b0 + zp_o 20 o j)), (2, .int (nI c))]) rfl (fun ls hl => ?_)
  have hfv := zs_fv_le (S 15 i 0) (S 16 i 0) (S 20 o j 0) (nI c) n 1
  refine lv_iload_n F.1 F.2.1 dd_Bank_takeVoucher_10 rfl (lv_at hl 0 rfl) ?_
  refine lv_if_ne F.1 F.2.1 dd_Bank_takeVoucher_11 (tgt := 56) rfl (fun h11 => ?_) (fun h11 => ?_)
  · refine lv_aload_n F.1 F.2.1 dd_Bank_takeVoucher_56 rfl (lv_at hl 1 rfl) ?_
    refine zc_gF (t := 10) (i := i) (j := 0) F hE hP ⟨by decide, (show i < 2 by omega), (show 0 < 1 by omega)⟩ rfl rfl zi_Bank 0 (by decide) rfl wf_Bank_11 rfl dd_Bank_takeVoucher_57 ?_
    refine lv_aload_n F.1 F.2.1 dd_Bank_takeVoucher_60 rfl (lv_at hl 2 rfl) ?_
    refine zc_gN (t := 20) (i := o) (j := j) F hE hP ⟨by decide, (show o < 2 by omega), (show j < 36 by omega)⟩ rfl rfl zi_Packet 3 (by decide) rfl wf_Bank_45 rfl dd_Bank_takeVoucher_61 ?_
    refine zn_top (y := nI t) (hto) ?_
    refine zc_aald (t := 11) (i := i) (j := 0) (k := t) (N := 4) (z := 6) (a := (b0 + zp_o 12 i t)) F hE hP ⟨by decide, (show i < 2 by omega), (show 0 < 1 by omega)⟩ rfl rfl rfl (by omega) (by decide) rfl dd_Bank_takeVoucher_64 ?_
    refine lv_iload_n F.1 F.2.1 dd_Bank_takeVoucher_65 rfl (lv_at hl 0 rfl) ?_
    refine lv_dup2_11 F.1 F.2.1 dd_Bank_takeVoucher_66 rfl rfl ?_
    refine zc_iald (t := 12) (i := i) (j := t) (k := zs_fv (S 15 i 0) (S 16 i 0) (S 20 o j 0) (nI c) 1 n) (N := 6) F hE hP ⟨by decide, (show i < 2 by omega), (show t < 4 by omega)⟩ (fun _ => rfl) (by omega) (by decide) dd_Bank_takeVoucher_67 ?_
    refine lv_aload_n F.1 F.2.1 dd_Bank_takeVoucher_68 rfl (lv_at hl 2 rfl) ?_
    refine zc_gN (t := 20) (i := o) (j := j) F hE hP ⟨by decide, (show o < 2 by omega), (show j < 36 by omega)⟩ rfl rfl zi_Packet 1 (by decide) rfl wf_Bank_38 rfl dd_Bank_takeVoucher_69 ?_
    refine lv_iadd F.1 F.2.1 dd_Bank_takeVoucher_72 ?_
    refine zc_iast (t := 12) (i := i) (j := t) (k := zs_fv (S 15 i 0) (S 16 i 0) (S 20 o j 0) (nI c) 1 n) (N := 6) F hE hP hS (fun _ h => h) ⟨by decide, (show i < 2 by omega), (show t < 4 by omega)⟩ (fun _ => rfl) (by omega) (by decide)  dd_Bank_takeVoucher_73 (fun H locs hP hS => ?_)
    refine lv_iconst (v := nI 1) F.1 F.2.1 dd_Bank_takeVoucher_74 (by decide) ?_
    exact zw_zret F hr hlk hP hS (congrArg (zp_p G b0) (by rw [zu_Bank_takeVoucher, if_neg h11])) (by decide) (by rw [zr_Bank_takeVoucher, if_neg h11]) dd_Bank_takeVoucher_75
  · refine lv_aload_n F.1 F.2.1 dd_Bank_takeVoucher_14 rfl (lv_at hl 1 rfl) ?_
    refine zc_gF (t := 10) (i := i) (j := 0) F hE hP ⟨by decide, (show i < 2 by omega), (show 0 < 1 by omega)⟩ rfl rfl zi_Bank 4 (by decide) rfl wf_Bank_26 rfl dd_Bank_takeVoucher_15 ?_
    refine zn_top (y := nI n) (hn) ?_
    refine lv_iconst (v := nI 5) F.1 F.2.1 dd_Bank_takeVoucher_18 (by decide) ?_
    refine zn_clt F dd_Bank_takeVoucher_19 (tgt := 24) rfl (by omega) (by omega) (fun h19 => ?_) (fun h19 => ?_)
    · refine lv_aload_n F.1 F.2.1 dd_Bank_takeVoucher_24 rfl (lv_at hl 1 rfl) ?_
      refine lv_dup F.1 F.2.1 dd_Bank_takeVoucher_25 rfl ?_
      refine zc_gF (t := 10) (i := i) (j := 0) F hE hP ⟨by decide, (show i < 2 by omega), (show 0 < 1 by omega)⟩ rfl rfl zi_Bank 4 (by decide) rfl wf_Bank_26 rfl dd_Bank_takeVoucher_26 ?_
      refine zn_top (y := nI n) (hn) ?_
      refine lv_iconst (v := nI 1) F.1 F.2.1 dd_Bank_takeVoucher_29 (by decide) ?_
      refine zn_iadd F dd_Bank_takeVoucher_30 ?_
      refine zc_pF (t := 10) (i := i) (j := 0) (kf := 0) F hE hP hS (fun _ h => h) ⟨by decide, (show i < 2 by omega), (show 0 < 1 by omega)⟩ rfl rfl zi_Bank zy_Bank zj_Bank zl_Bank 4 (by decide) rfl rfl wf_Bank_26 (by decide +kernel) (Nat.le_of_ble_eq_true rfl) rfl dd_Bank_takeVoucher_31 (fun H locs hP hS => ?_)
      refine lv_aload_n F.1 F.2.1 dd_Bank_takeVoucher_34 rfl (lv_at hl 1 rfl) ?_
      refine zc_gF (t := 10) (i := i) (j := 0) F hE hP ⟨by decide, (show i < 2 by omega), (show 0 < 1 by omega)⟩ rfl rfl zi_Bank 4 (by decide) rfl wf_Bank_26 rfl dd_Bank_takeVoucher_35 ?_
      refine zn_top (y := nI (n + 1)) (by rw [zs_us]) ?_
      refine lv_istore_n F.1 F.2.1 dd_Bank_takeVoucher_38 rfl hl (by decide) (lv' := [(3, .int (nI (n + 1))), (0, .ref (b0 + zp_o 10 i 0)), (1, .ref (b0 + zp_o 20 o j)), (2, .int (nI c))]) rfl (fun ls hl => ?_)
      refine lv_aload_n F.1 F.2.1 dd_Bank_takeVoucher_39 rfl (lv_at hl 1 rfl) ?_
      refine zc_gF (t := 10) (i := i) (j := 0) F hE hP ⟨by decide, (show i < 2 by omega), (show 0 < 1 by omega)⟩ rfl rfl zi_Bank 2 (by decide) rfl wf_Bank_19 rfl dd_Bank_takeVoucher_40 ?_
      refine lv_iload_n F.1 F.2.1 dd_Bank_takeVoucher_43 rfl (lv_at hl 0 rfl) ?_
      refine lv_aload_n F.1 F.2.1 dd_Bank_takeVoucher_44 rfl (lv_at hl 2 rfl) ?_
      refine zc_gN (t := 20) (i := o) (j := j) F hE hP ⟨by decide, (show o < 2 by omega), (show j < 36 by omega)⟩ rfl rfl zi_Packet 0 (by decide) rfl wf_Bank_35 rfl dd_Bank_takeVoucher_45 ?_
      refine zn_top (y := S 20 o j 0) (by rw [zs_ut (by decide)]) ?_
      refine zc_iast (t := 15) (i := i) (j := 0) (k := n + 1) (N := 6) F hE hP hS (fun _ h => h) ⟨by decide, (show i < 2 by omega), (show 0 < 1 by omega)⟩ (fun _ => rfl) (by omega) (by decide)  dd_Bank_takeVoucher_48 (fun H locs hP hS => ?_)
      refine lv_aload_n F.1 F.2.1 dd_Bank_takeVoucher_49 rfl (lv_at hl 1 rfl) ?_
      refine zc_gF (t := 10) (i := i) (j := 0) F hE hP ⟨by decide, (show i < 2 by omega), (show 0 < 1 by omega)⟩ rfl rfl zi_Bank 3 (by decide) rfl wf_Bank_23 rfl dd_Bank_takeVoucher_50 ?_
      refine lv_iload_n F.1 F.2.1 dd_Bank_takeVoucher_53 rfl (lv_at hl 0 rfl) ?_
      refine lv_iload_n F.1 F.2.1 dd_Bank_takeVoucher_54 rfl (lv_at hl 3 rfl) ?_
      refine zc_iast (t := 16) (i := i) (j := 0) (k := n + 1) (N := 6) F hE hP hS (fun _ h => h) ⟨by decide, (show i < 2 by omega), (show 0 < 1 by omega)⟩ (fun _ => rfl) (by omega) (by decide)  dd_Bank_takeVoucher_55 (fun H locs hP hS => ?_)
      refine lv_aload_n F.1 F.2.1 dd_Bank_takeVoucher_56 rfl (lv_at hl 1 rfl) ?_
      refine zc_gF (t := 10) (i := i) (j := 0) F hE hP ⟨by decide, (show i < 2 by omega), (show 0 < 1 by omega)⟩ rfl rfl zi_Bank 0 (by decide) rfl wf_Bank_11 rfl dd_Bank_takeVoucher_57 ?_
      refine lv_aload_n F.1 F.2.1 dd_Bank_takeVoucher_60 rfl (lv_at hl 2 rfl) ?_
      refine zc_gN (t := 20) (i := o) (j := j) F hE hP ⟨by decide, (show o < 2 by omega), (show j < 36 by omega)⟩ rfl rfl zi_Packet 3 (by decide) rfl wf_Bank_45 rfl dd_Bank_takeVoucher_61 ?_
      refine zn_top (y := S 20 o j 3) (by rw [zs_ut (by decide), zs_ut (by decide), zs_ut (by decide)]) ?_
      refine zn_top (y := nI t) (hto) ?_
      refine zc_aald (t := 11) (i := i) (j := 0) (k := t) (N := 4) (z := 6) (a := (b0 + zp_o 12 i t)) F hE hP ⟨by decide, (show i < 2 by omega), (show 0 < 1 by omega)⟩ rfl rfl rfl (by omega) (by decide) rfl dd_Bank_takeVoucher_64 ?_
      refine lv_iload_n F.1 F.2.1 dd_Bank_takeVoucher_65 rfl (lv_at hl 0 rfl) ?_
      refine lv_dup2_11 F.1 F.2.1 dd_Bank_takeVoucher_66 rfl rfl ?_
      refine zc_iald (t := 12) (i := i) (j := t) (k := n + 1) (N := 6) F hE hP ⟨by decide, (show i < 2 by omega), (show t < 4 by omega)⟩ (fun _ => rfl) (by omega) (by decide) dd_Bank_takeVoucher_67 ?_
      refine zn_top (y := S 12 i t (n + 1)) (by rw [zs_ut (by decide), zs_ut (by decide), zs_ut (by decide)]) ?_
      refine lv_aload_n F.1 F.2.1 dd_Bank_takeVoucher_68 rfl (lv_at hl 2 rfl) ?_
      refine zc_gN (t := 20) (i := o) (j := j) F hE hP ⟨by decide, (show o < 2 by omega), (show j < 36 by omega)⟩ rfl rfl zi_Packet 1 (by decide) rfl wf_Bank_38 rfl dd_Bank_takeVoucher_69 ?_
      refine zn_top (y := S 20 o j 1) (by rw [zs_ut (by decide), zs_ut (by decide), zs_ut (by decide)]) ?_
      refine lv_iadd F.1 F.2.1 dd_Bank_takeVoucher_72 ?_
      refine zc_iast (t := 12) (i := i) (j := t) (k := n + 1) (N := 6) F hE hP hS (fun _ h => h) ⟨by decide, (show i < 2 by omega), (show t < 4 by omega)⟩ (fun _ => rfl) (by omega) (by decide)  dd_Bank_takeVoucher_73 (fun H locs hP hS => ?_)
      refine lv_iconst (v := nI 1) F.1 F.2.1 dd_Bank_takeVoucher_74 (by decide) ?_
      exact zw_zret F hr hlk hP hS (congrArg (zp_p G b0) (by rw [zu_Bank_takeVoucher, if_pos h11, if_pos h19])) (by decide) (by rw [zr_Bank_takeVoucher, if_pos h11, if_pos h19]) dd_Bank_takeVoucher_75
    · refine lv_iconst (v := nI 0) F.1 F.2.1 dd_Bank_takeVoucher_22 (by decide) ?_
      exact zw_zret F hr hlk hP hS (congrArg (zp_p G b0) (by rw [zu_Bank_takeVoucher, if_pos h11, if_neg h19])) (by decide) (by rw [zr_Bank_takeVoucher, if_pos h11, if_neg h19]) dd_Bank_takeVoucher_23
def zr_Bank_take (S : zs_S) (i : Nat) (o : Nat) (j : Nat) (c : Nat) (t : Nat) (bk : Nat) (n : Nat) : Int32 := if S 20 o j 3 = nI 3 then (nI 0) else (if ¬ S 20 o j 5 ≤ 0 then (zr_Bank_takeBack S i o j c t (bk - 1)) else (zr_Bank_takeVoucher S i o j c t n))
def zu_Bank_take (S : zs_S) (i : Nat) (o : Nat) (j : Nat) (c : Nat) (t : Nat) (bk : Nat) (n : Nat) : zs_S := if S 20 o j 3 = nI 3 then (S) else (if ¬ S 20 o j 5 ≤ 0 then ((zu_Bank_takeBack S i o j c t (bk - 1))) else ((zu_Bank_takeVoucher S i o j c t n)))
set_option maxHeartbeats 4000000 in
set_option maxRecDepth 100000 in
theorem zc_Bank_take (lc : Launch) (G : zw_G) (b0 : Nat) (S : zs_S) (i : Nat) (o : Nat) (j : Nat) (c : Nat) (t : Nat) (bk : Nat) (n : Nat) (hi : i < 2) (ho : o < 2) (hj : j < 36) (hc : c < 3) (ht : t < 4) (hto : S 20 o j 3 = nI t) (hbk : S 20 o j 5 = nI bk) (hbk6 : bk ≤ 6) (hn : S 10 i 0 0 = nI n) (hn2 : n ≤ 5) : zw_M lc ym_Bank_take bm_Bank_take 3 (some .boolean) { frames := 2, cells := 0, slots := 0, locals := 46 } G b0 176 (zp_p G b0 S) [.ref (b0 + zp_o 10 i 0), .ref (b0 + zp_o 20 o j), .int (nI c)] (zw_Qi G b0 176 (zp_p G b0 (zu_Bank_take S i o j c t bk n)) (zr_Bank_take S i o j c t bk n)) := by
  refine zw_of (by decide) (Nat.le_of_ble_eq_true rfl) ?_
  intro p e s m below meth cx ls F hr hlk hE hP hS hl
  have hl : lv_has ls 3 [(0, .ref (b0 + zp_o 10 i 0)), (1, .ref (b0 + zp_o 20 o j)), (2, .int (nI c))] := hl
  refine lv_aload_n F.1 F.2.1 dd_Bank_take_0 rfl (lv_at hl 1 rfl) ?_
  refine zc_gN (t := 20) (i := o) (j := j) F hE hP ⟨by decide, (show o < 2 by omega), (show j < 36 by omega)⟩ rfl rfl zi_Packet 3 (by decide) rfl wf_Bank_45 rfl dd_Bank_take_1 ?_
  refine lv_iconst (v := nI 3) F.1 F.2.1 dd_Bank_take_4 (by decide) ?_
  refine lv_icmp_ne F.1 F.2.1 dd_Bank_take_5 (tgt := 10) rfl (fun h5 => ?_) (fun h5 => ?_)
  · refine lv_aload_n F.1 F.2.1 dd_Bank_take_10 rfl (lv_at hl 1 rfl) ?_
    refine zw_goi (zw_rV F hE hP (zc_Packet_goesBack lc G b0 S o j (by first | omega | assumption) (by first | omega | assumption)) zk_Packet_goesBack za_Packet_goesBack zb_Packet_goesBack wl_Bank_41 ⟨rfl, rfl, Nat.le_of_ble_eq_true rfl, Nat.le_of_ble_eq_true rfl⟩ (zc_recv (t := 20) (i := o) (j := j) hE hP ⟨by decide, (show o < 2 by omega), (show j < 36 by omega)⟩ rfl rfl) hl.1 rfl (Nat.le_of_ble_eq_true rfl) ⟨Nat.zero_le _, Nat.zero_le _⟩ dd_Bank_take_11) hS (fun _ h => h) (fun H locs hP _ _ hS => ?_)
    refine zn_beq F dd_Bank_take_14 (tgt := 26) rfl (fun h14 => ?_) (fun h14 => ?_)
    · refine lv_aload_n F.1 F.2.1 dd_Bank_take_26 rfl (lv_at hl 0 rfl) ?_
      refine lv_aload_n F.1 F.2.1 dd_Bank_take_27 rfl (lv_at hl 1 rfl) ?_
      refine lv_iload_n F.1 F.2.1 dd_Bank_take_28 rfl (lv_at hl 2 rfl) ?_
      refine zw_goi (zw_rV F hE hP (zc_Bank_takeVoucher lc G b0 S i o j c t n (by first | omega | assumption) (by first | omega | assumption) (by first | omega | assumption) (by first | omega | assumption) (by first | omega | assumption) (by assumption) (by assumption) (by first | omega | assumption)) zk_Bank_takeVoucher za_Bank_takeVoucher zb_Bank_takeVoucher wl_Bank_52 ⟨rfl, rfl, Nat.le_of_ble_eq_true rfl, Nat.le_of_ble_eq_true rfl⟩ (zc_recv (t := 10) (i := i) (j := 0) hE hP ⟨by decide, (show i < 2 by omega), (show 0 < 1 by omega)⟩ rfl rfl) hl.1 rfl (Nat.le_of_ble_eq_true rfl) ⟨Nat.zero_le _, Nat.zero_le _⟩ dd_Bank_take_29) hS (fun _ h => h) (fun H locs hP _ _ hS => ?_)
      exact zw_zret F hr hlk hP hS (congrArg (zp_p G b0) (by rw [zu_Bank_take, if_neg h5, if_neg h14])) (by unfold zr_Bank_takeVoucher; repeat (first | exact Or.inl (by decide) | exact Or.inr (by decide) | split)) (by rw [zr_Bank_take, if_neg h5, if_neg h14]) dd_Bank_take_32
    · have hb1 : 1 ≤ bk := zn_pos1 hbk h14
      refine lv_aload_n F.1 F.2.1 dd_Bank_take_17 rfl (lv_at hl 0 rfl) ?_
      refine lv_aload_n F.1 F.2.1 dd_Bank_take_18 rfl (lv_at hl 1 rfl) ?_
      refine lv_iload_n F.1 F.2.1 dd_Bank_take_19 rfl (lv_at hl 2 rfl) ?_
      refine zw_goi (zw_rV F hE hP (zc_Bank_takeBack lc G b0 S i o j c t (bk - 1) (by first | omega | assumption) (by first | omega | assumption) (by first | omega | assumption) (by first | omega | assumption) (by first | omega | assumption) (by first | omega | assumption) (by assumption) (by rw [hbk]; exact congrArg nI (by omega))) zk_Bank_takeBack za_Bank_takeBack zb_Bank_takeBack wl_Bank_48 ⟨rfl, rfl, Nat.le_of_ble_eq_true rfl, Nat.le_of_ble_eq_true rfl⟩ (zc_recv (t := 10) (i := i) (j := 0) hE hP ⟨by decide, (show i < 2 by omega), (show 0 < 1 by omega)⟩ rfl rfl) hl.1 rfl (Nat.le_of_ble_eq_true rfl) ⟨Nat.zero_le _, Nat.zero_le _⟩ dd_Bank_take_20) hS (fun _ h => h) (fun H locs hP _ _ hS => ?_)
      refine lv_goto F.1 F.2.1 dd_Bank_take_23 (tgt := 32) rfl ?_
      exact zw_zret F hr hlk hP hS (congrArg (zp_p G b0) (by rw [zu_Bank_take, if_neg h5, if_pos h14])) (by unfold zr_Bank_takeBack; repeat (first | exact Or.inl (by decide) | exact Or.inr (by decide) | split)) (by rw [zr_Bank_take, if_neg h5, if_pos h14]) dd_Bank_take_32
  · refine lv_iconst (v := nI 0) F.1 F.2.1 dd_Bank_take_8 (by decide) ?_
    exact zw_zret F hr hlk hP hS (congrArg (zp_p G b0) (by rw [zu_Bank_take, if_pos h5])) (by decide) (by rw [zr_Bank_take, if_pos h5]) dd_Bank_take_9
def zr_Ledger_receivePacket (S : zs_S) (i : Nat) (o : Nat) (c : Nat) (j : Nat) (h : Int32) (w : Int32) : Int32 := if zs_st (S 4 i 0 c) = nI 3 then (if S 2 i 0 0 < S 20 o (12 * c + j) 4 then (if zr_Ledger_isReceivable S i c j = 0 then ((-8)) else (if w = 0 then (if zs_pv S i o h (6 + 12 * c + j) (zs_print (S 20 o (12 * c + j)) (nI 0)) = 0 then (if zr_Bank_take S i o (12 * c + j) c (zs_n (S 20 o (12 * c + j) 3)) (zs_n (S 20 o (12 * c + j) 5)) (zs_n (S 10 i 0 0)) = 0 then (nI 2) else (nI 1)) else (zs_pv S i o h (6 + 12 * c + j) (zs_print (S 20 o (12 * c + j)) (nI 0)))) else (if zs_pv S i o h (6 + 12 * c + j) (zs_print (S 20 o (12 * c + j)) (nI 1)) = 0 then (if zr_Bank_take S i o (12 * c + j) c (zs_n (S 20 o (12 * c + j) 3)) (zs_n (S 20 o (12 * c + j) 5)) (zs_n (S 10 i 0 0)) = 0 then (nI 2) else (nI 1)) else (zs_pv S i o h (6 + 12 * c + j) (zs_print (S 20 o (12 * c + j)) (nI 1)))))) else ((-9))) else ((-2))
def zu_Ledger_receivePacket (S : zs_S) (i : Nat) (o : Nat) (c : Nat) (j : Nat) (h : Int32) (w : Int32) : zs_S := if zs_st (S 4 i 0 c) = nI 3 then (if S 2 i 0 0 < S 20 o (12 * c + j) 4 then (if zr_Ledger_isReceivable S i c j = 0 then (S) else (if w = 0 then (if zs_pv S i o h (6 + 12 * c + j) (zs_print (S 20 o (12 * c + j)) (nI 0)) = 0 then (if zr_Bank_take S i o (12 * c + j) c (zs_n (S 20 o (12 * c + j) 3)) (zs_n (S 20 o (12 * c + j) 5)) (zs_n (S 10 i 0 0)) = 0 then ((zu_Ledger_noteReceived (zu_Bank_take S i o (12 * c + j) c (zs_n (S 20 o (12 * c + j) 3)) (zs_n (S 20 o (12 * c + j) 5)) (zs_n (S 10 i 0 0))) i c j (nI 2))) else ((zu_Ledger_noteReceived (zu_Bank_take S i o (12 * c + j) c (zs_n (S 20 o (12 * c + j) 3)) (zs_n (S 20 o (12 * c + j) 5)) (zs_n (S 10 i 0 0))) i c j (nI 1)))) else (S)) else (if zs_pv S i o h (6 + 12 * c + j) (zs_print (S 20 o (12 * c + j)) (nI 1)) = 0 then (if zr_Bank_take S i o (12 * c + j) c (zs_n (S 20 o (12 * c + j) 3)) (zs_n (S 20 o (12 * c + j) 5)) (zs_n (S 10 i 0 0)) = 0 then ((zu_Ledger_noteReceived (zu_Bank_take S i o (12 * c + j) c (zs_n (S 20 o (12 * c + j) 3)) (zs_n (S 20 o (12 * c + j) 5)) (zs_n (S 10 i 0 0))) i c j (nI 2))) else ((zu_Ledger_noteReceived (zu_Bank_take S i o (12 * c + j) c (zs_n (S 20 o (12 * c + j) 3)) (zs_n (S 20 o (12 * c + j) 5)) (zs_n (S 10 i 0 0))) i c j (nI 1)))) else (S)))) else (S)) else (S)
set_option maxHeartbeats 4000000 in
set_option maxRecDepth 100000 in
theorem zc_Ledger_receivePacket (lc : Launch) (G : zw_G) (b0 : Nat) (S : zs_S) (i : Nat) (o : Nat) (c : Nat) (j : Nat) (h : Int32) (w : Int32) (hi : i < 2) (ho : o < 2) (hc : c < 3) (hj : j < 12) (hB : zs_B S) (hpk : zs_PK S o (12 * c + j)) (hv : S 10 i 0 0 = nI (zs_n (S 10 i 0 0))) (hv2 : zs_n (S 10 i 0 0) ≤ 5) : zw_M lc ym_Ledger_receivePacket bm_Ledger_receivePacket 10 (some .int) { frames := 4, cells := 0, slots := 0, locals := 86 } G b0 176 (zp_p G b0 S) [.ref (b0 + zp_o 2 i 0), .ref (b0 + zp_o 2 o 0), .int (nI c), .int (nI (j + 1)), .int h, .int w] (zw_Qi G b0 176 (zp_p G b0 (zu_Ledger_receivePacket S i o c j h w)) (zr_Ledger_receivePacket S i o c j h w)) := by
  refine zw_of (by decide) (Nat.le_of_ble_eq_true rfl) ?_
  intro p e s m below meth cx ls F hr hlk hE hP hS hl
  have hl : lv_has ls 10 [(0, .ref (b0 + zp_o 2 i 0)), (1, .ref (b0 + zp_o 2 o 0)), (2, .int (nI c)), (3, .int (nI (j + 1))), (4, .int h), (5, .int w)] := hl
  refine lv_aload_n F.1 F.2.1 dd_Ledger_receivePacket_0 rfl (lv_at hl 1 rfl) ?_
  refine zc_gF (t := 2) (i := o) (j := 0) F hE hP ⟨by decide, (show o < 2 by omega), (show 0 < 1 by omega)⟩ rfl rfl zi_Ledger 5 (by decide) rfl wf_Ledger_42 rfl dd_Ledger_receivePacket_1 ?_
  refine lv_iload_n F.1 F.2.1 dd_Ledger_receivePacket_4 rfl (lv_at hl 2 rfl) ?_
  refine zc_aald (t := 17) (i := o) (j := 0) (k := c) (N := 3) (z := 4) (a := (b0 + zp_o 18 o c)) F hE hP ⟨by decide, (show o < 2 by omega), (show 0 < 1 by omega)⟩ rfl rfl rfl (by omega) (by decide) rfl dd_Ledger_receivePacket_5 ?_
  refine zc_gN (t := 18) (i := o) (j := c) F hE hP ⟨by decide, (show o < 2 by omega), (show c < 3 by omega)⟩ rfl rfl zi_End 0 (by decide) rfl wf_Ledger_121 rfl dd_Ledger_receivePacket_6 ?_
  refine lv_iload_n F.1 F.2.1 dd_Ledger_receivePacket_9 rfl (lv_at hl 3 rfl) ?_
  refine lv_iconst (v := nI 1) F.1 F.2.1 dd_Ledger_receivePacket_10 (by decide) ?_
  refine zn_isub F dd_Ledger_receivePacket_11 (by omega) ?_
  refine zn_top (y := nI j) (congrArg nI (by omega)) ?_
  refine zc_aald (t := 19) (i := o) (j := c) (k := j) (N := 12) (z := 5) (a := (b0 + zp_o 20 o (12 * c + j))) F hE hP ⟨by decide, (show o < 2 by omega), (show c < 3 by omega)⟩ rfl rfl rfl (by omega) (by decide) rfl dd_Ledger_receivePacket_12 ?_
  refine lv_astore F.1 F.2.1 dd_Ledger_receivePacket_13 hl (by decide) (lv' := [(6, .ref (b0 + zp_o 20 o (12 * c + j))), (0, .ref (b0 + zp_o 2 i 0)), (1, .ref (b0 + zp_o 2 o 0)), (2, .int (nI c)), (3, .int (nI (j + 1))), (4, .int h), (5, .int w)]) rfl (fun ls hl => ?_)
  refine lv_aload_n F.1 F.2.1 dd_Ledger_receivePacket_15 rfl (lv_at hl 1 rfl) ?_
  refine lv_iload_n F.1 F.2.1 dd_Ledger_receivePacket_16 rfl (lv_at hl 3 rfl) ?_
  refine zw_goi (zw_rV F hE hP (zc_Ledger_stateOf lc G b0 S i c (by first | omega | assumption) (by first | omega | assumption)) zk_Ledger_stateOf za_Ledger_stateOf zb_Ledger_stateOf wl_Ledger_96 ⟨rfl, rfl, Nat.le_of_ble_eq_true rfl, Nat.le_of_ble_eq_true rfl⟩ (zc_recv (t := 2) (i := i) (j := 0) hE hP ⟨by decide, (show i < 2 by omega), (show 0 < 1 by omega)⟩ rfl rfl) hl.1 rfl (Nat.le_of_ble_eq_true rfl) ⟨Nat.zero_le _, Nat.zero_le _⟩ dd_Ledger_receivePacket_17) hS (fun _ h => h) (fun H locs hP _ _ hS => ?_)
  refine lv_iconst (v := nI 3) F.1 F.2.1 dd_Ledger_receivePacket_20 (by decide) ?_
  refine lv_icmp_eq F.1 F.2.1 dd_Ledger_receivePacket_21 (tgt := 27) rfl (fun h21 => ?_) (fun h21 => ?_)
  · refine lv_aload_n F.1 F.2.1 dd_Ledger_receivePacket_27 rfl (lv_at hl 1 rfl) ?_
    refine zc_gF (t := 2) (i := i) (j := 0) F hE hP ⟨by decide, (show i < 2 by omega), (show 0 < 1 by omega)⟩ rfl rfl zi_Ledger 6 (by decide) rfl wf_Ledger_47 rfl dd_Ledger_receivePacket_28 ?_
    refine lv_aload F.1 F.2.1 dd_Ledger_receivePacket_31 (lv_at hl 0 rfl) ?_
    refine zc_gN (t := 20) (i := o) (j := 12 * c + j) F hE hP ⟨by decide, (show o < 2 by omega), (show 12 * c + j < 36 by omega)⟩ rfl rfl zi_Packet 4 (by decide) rfl wf_Ledger_142 rfl dd_Ledger_receivePacket_33 ?_
    refine lv_icmp_lt F.1 F.2.1 dd_Ledger_receivePacket_36 (tgt := 42) rfl (fun h36 => ?_) (fun h36 => ?_)
    · refine lv_aload_n F.1 F.2.1 dd_Ledger_receivePacket_42 rfl (lv_at hl 1 rfl) ?_
      refine lv_iload_n F.1 F.2.1 dd_Ledger_receivePacket_43 rfl (lv_at hl 3 rfl) ?_
      refine lv_iload_n F.1 F.2.1 dd_Ledger_receivePacket_44 rfl (lv_at hl 4 rfl) ?_
      refine zw_goi (zw_rV F hE hP (zc_Ledger_isReceivable lc G b0 S i c j (by first | omega | assumption) (by first | omega | assumption) (by first | omega | assumption) (by assumption)) zk_Ledger_isReceivable za_Ledger_isReceivable zb_Ledger_isReceivable wl_Ledger_161 ⟨rfl, rfl, Nat.le_of_ble_eq_true rfl, Nat.le_of_ble_eq_true rfl⟩ (zc_recv (t := 2) (i := i) (j := 0) hE hP ⟨by decide, (show i < 2 by omega), (show 0 < 1 by omega)⟩ rfl rfl) hl.1 rfl (Nat.le_of_ble_eq_true rfl) ⟨Nat.zero_le _, Nat.zero_le _⟩ dd_Ledger_receivePacket_45) hS (fun _ h => h) (fun H locs hP _ _ hS => ?_)
      refine lv_if_ne F.1 F.2.1 dd_Ledger_receivePacket_48 (tgt := 54) rfl (fun h48 => ?_) (fun h48 => ?_)
      · refine lv_aload F.1 F.2.1 dd_Ledger_receivePacket_54 (lv_at hl 0 rfl) ?_
        refine lv_iload F.1 F.2.1 dd_Ledger_receivePacket_56 (lv_at hl 6 rfl) ?_
        refine lv_if_eq F.1 F.2.1 dd_Ledger_receivePacket_58 (tgt := 65) rfl (fun h58 => ?_) (fun h58 => ?_)
        · refine lv_iconst (v := nI 0) F.1 F.2.1 dd_Ledger_receivePacket_65 (by decide) ?_
          refine zw_goi (zw_rV F hE hP (zc_Packet_printWith lc G b0 S o (12 * c + j) (nI 0) (by first | omega | assumption) (by first | omega | assumption)) zk_Packet_printWith za_Packet_printWith zb_Packet_printWith wl_Ledger_158 ⟨rfl, rfl, Nat.le_of_ble_eq_true rfl, Nat.le_of_ble_eq_true rfl⟩ (zc_recv (t := 20) (i := o) (j := 12 * c + j) hE hP ⟨by decide, (show o < 2 by omega), (show 12 * c + j < 36 by omega)⟩ rfl rfl) hl.1 rfl (Nat.le_of_ble_eq_true rfl) ⟨Nat.zero_le _, Nat.zero_le _⟩ dd_Ledger_receivePacket_66) hS (fun _ h => h) (fun H locs hP _ _ hS => ?_)
          refine lv_istore F.1 F.2.1 dd_Ledger_receivePacket_69 hl (by decide) (lv' := [(7, .int (zs_print (S 20 o (12 * c + j)) (nI 0))), (6, .ref (b0 + zp_o 20 o (12 * c + j))), (0, .ref (b0 + zp_o 2 i 0)), (1, .ref (b0 + zp_o 2 o 0)), (2, .int (nI c)), (3, .int (nI (j + 1))), (4, .int h), (5, .int w)]) rfl (fun ls hl => ?_)
          refine lv_aload_n F.1 F.2.1 dd_Ledger_receivePacket_71 rfl (lv_at hl 2 rfl) ?_
          refine lv_aload_n F.1 F.2.1 dd_Ledger_receivePacket_72 rfl (lv_at hl 3 rfl) ?_
          refine lv_iload F.1 F.2.1 dd_Ledger_receivePacket_73 (lv_at hl 6 rfl) ?_
          refine lv_iload_n F.1 F.2.1 dd_Ledger_receivePacket_75 rfl (lv_at hl 4 rfl) ?_
          refine lv_iload_n F.1 F.2.1 dd_Ledger_receivePacket_76 rfl (lv_at hl 5 rfl) ?_
          refine zw_goi (zw_rS F hE hP (zc_Store_printSlot lc G b0 S c j) zk_Store_printSlot za_Store_printSlot wl_Ledger_155 ⟨rfl, rfl, Nat.le_of_ble_eq_true rfl, Nat.le_of_ble_eq_true rfl⟩ hl.1 rfl (Nat.le_of_ble_eq_true rfl) ⟨Nat.zero_le _, Nat.zero_le _⟩ dd_Ledger_receivePacket_77) hS (fun _ h => h) (fun H locs hP _ _ hS => ?_)
          refine lv_iload F.1 F.2.1 dd_Ledger_receivePacket_80 (lv_at hl 0 rfl) ?_
          refine zw_goi (zw_rV F hE hP (zc_Ledger_proveValue lc G b0 S i o h (6 + 12 * c + j) (zs_print (S 20 o (12 * c + j)) (nI 0)) (by first | omega | assumption) (by first | omega | assumption) (by first | omega | assumption) (by assumption)) zk_Ledger_proveValue za_Ledger_proveValue zb_Ledger_proveValue wl_Ledger_92 ⟨rfl, rfl, Nat.le_of_ble_eq_true rfl, Nat.le_of_ble_eq_true rfl⟩ (zc_recv (t := 2) (i := i) (j := 0) hE hP ⟨by decide, (show i < 2 by omega), (show 0 < 1 by omega)⟩ rfl rfl) hl.1 rfl (Nat.le_of_ble_eq_true rfl) ⟨Nat.zero_le _, Nat.zero_le _⟩ dd_Ledger_receivePacket_82) hS (fun _ h => h) (fun H locs hP _ _ hS => ?_)
          refine lv_istore F.1 F.2.1 dd_Ledger_receivePacket_85 hl (by decide) (lv' := [(8, .int (zs_pv S i o h (6 + 12 * c + j) (zs_print (S 20 o (12 * c + j)) (nI 0)))), (7, .int (zs_print (S 20 o (12 * c + j)) (nI 0))), (6, .ref (b0 + zp_o 20 o (12 * c + j))), (0, .ref (b0 + zp_o 2 i 0)), (1, .ref (b0 + zp_o 2 o 0)), (2, .int (nI c)), (3, .int (nI (j + 1))), (4, .int h), (5, .int w)]) rfl (fun ls hl => ?_)
          refine lv_iload F.1 F.2.1 dd_Ledger_receivePacket_87 (lv_at hl 0 rfl) ?_
          refine lv_if_eq F.1 F.2.1 dd_Ledger_receivePacket_89 (tgt := 95) rfl (fun h89 => ?_) (fun h89 => ?_)
          · refine lv_aload_n F.1 F.2.1 dd_Ledger_receivePacket_95 rfl (lv_at hl 3 rfl) ?_
            refine zc_gF (t := 2) (i := i) (j := 0) F hE hP ⟨by decide, (show i < 2 by omega), (show 0 < 1 by omega)⟩ rfl rfl zi_Ledger 4 (by decide) rfl wf_Ledger_36 rfl dd_Ledger_receivePacket_96 ?_
            refine lv_aload F.1 F.2.1 dd_Ledger_receivePacket_99 (lv_at hl 2 rfl) ?_
            refine lv_iload_n F.1 F.2.1 dd_Ledger_receivePacket_101 rfl (lv_at hl 5 rfl) ?_
            refine zw_goi (zw_rV F hE hP (zc_Bank_take lc G b0 S i o (12 * c + j) c (zs_n (S 20 o (12 * c + j) 3)) (zs_n (S 20 o (12 * c + j) 5)) (zs_n (S 10 i 0 0)) (by first | omega | assumption) (by first | omega | assumption) (by first | omega | assumption) (by first | omega | assumption) hpk.2.2.1.2 hpk.2.2.1.1 hpk.2.2.2.1 hpk.2.2.2.2 (by assumption) (by first | omega | assumption)) zk_Bank_take za_Bank_take zb_Bank_take wl_Ledger_165 ⟨rfl, rfl, Nat.le_of_ble_eq_true rfl, Nat.le_of_ble_eq_true rfl⟩ (zc_recv (t := 10) (i := i) (j := 0) hE hP ⟨by decide, (show i < 2 by omega), (show 0 < 1 by omega)⟩ rfl rfl) hl.1 rfl (Nat.le_of_ble_eq_true rfl) ⟨Nat.zero_le _, Nat.zero_le _⟩ dd_Ledger_receivePacket_102) hS (fun _ h => h) (fun H locs hP _ _ hS => ?_)
            refine lv_if_eq F.1 F.2.1 dd_Ledger_receivePacket_105 (tgt := 112) rfl (fun h105 => ?_) (fun h105 => ?_)
            · refine lv_iconst (v := nI 2) F.1 F.2.1 dd_Ledger_receivePacket_112 (by decide) ?_
              refine lv_istore F.1 F.2.1 dd_Ledger_receivePacket_113 hl (by decide) (lv' := [(9, .int (nI 2)), (8, .int (zs_pv S i o h (6 + 12 * c + j) (zs_print (S 20 o (12 * c + j)) (nI 0)))), (7, .int (zs_print (S 20 o (12 * c + j)) (nI 0))), (6, .ref (b0 + zp_o 20 o (12 * c + j))), (0, .ref (b0 + zp_o 2 i 0)), (1, .ref (b0 + zp_o 2 o 0)), (2, .int (nI c)), (3, .int (nI (j + 1))), (4, .int h), (5, .int w)]) rfl (fun ls hl => ?_)
              refine lv_aload_n F.1 F.2.1 dd_Ledger_receivePacket_115 rfl (lv_at hl 4 rfl) ?_
              refine lv_iload_n F.1 F.2.1 dd_Ledger_receivePacket_116 rfl (lv_at hl 6 rfl) ?_
              refine lv_iload_n F.1 F.2.1 dd_Ledger_receivePacket_117 rfl (lv_at hl 7 rfl) ?_
              refine lv_iload F.1 F.2.1 dd_Ledger_receivePacket_118 (lv_at hl 0 rfl) ?_
              refine zw_gov (zw_rV F hE hP (zc_Ledger_noteReceived lc G b0 (zu_Bank_take S i o (12 * c + j) c (zs_n (S 20 o (12 * c + j) 3)) (zs_n (S 20 o (12 * c + j) 5)) (zs_n (S 10 i 0 0))) i c j (nI 2) (by first | omega | assumption) (by first | omega | assumption) (by first | omega | assumption)) zk_Ledger_noteReceived za_Ledger_noteReceived zb_Ledger_noteReceived wl_Ledger_169 ⟨rfl, rfl, Nat.le_of_ble_eq_true rfl, Nat.le_of_ble_eq_true rfl⟩ (zc_recv (t := 2) (i := i) (j := 0) hE hP ⟨by decide, (show i < 2 by omega), (show 0 < 1 by omega)⟩ rfl rfl) hl.1 rfl (Nat.le_of_ble_eq_true rfl) ⟨Nat.zero_le _, Nat.zero_le _⟩ dd_Ledger_receivePacket_120) hS (fun _ h => h) (fun H locs hP _ _ hS => ?_)
              refine lv_iload F.1 F.2.1 dd_Ledger_receivePacket_123 (lv_at hl 0 rfl) ?_
              exact zw_iret F hr hlk hP hS (congrArg (zp_p G b0) (by rw [zu_Ledger_receivePacket, if_pos h21, if_pos h36, if_neg h48, if_pos h58, if_pos h89, if_pos h105])) (by rw [zr_Ledger_receivePacket, if_pos h21, if_pos h36, if_neg h48, if_pos h58, if_pos h89, if_pos h105]) dd_Ledger_receivePacket_125
            · refine lv_iconst (v := nI 1) F.1 F.2.1 dd_Ledger_receivePacket_108 (by decide) ?_
              refine lv_goto F.1 F.2.1 dd_Ledger_receivePacket_109 (tgt := 113) rfl ?_
              refine lv_istore F.1 F.2.1 dd_Ledger_receivePacket_113 hl (by decide) (lv' := [(9, .int (nI 1)), (8, .int (zs_pv S i o h (6 + 12 * c + j) (zs_print (S 20 o (12 * c + j)) (nI 0)))), (7, .int (zs_print (S 20 o (12 * c + j)) (nI 0))), (6, .ref (b0 + zp_o 20 o (12 * c + j))), (0, .ref (b0 + zp_o 2 i 0)), (1, .ref (b0 + zp_o 2 o 0)), (2, .int (nI c)), (3, .int (nI (j + 1))), (4, .int h), (5, .int w)]) rfl (fun ls hl => ?_)
              refine lv_aload_n F.1 F.2.1 dd_Ledger_receivePacket_115 rfl (lv_at hl 4 rfl) ?_
              refine lv_iload_n F.1 F.2.1 dd_Ledger_receivePacket_116 rfl (lv_at hl 6 rfl) ?_
              refine lv_iload_n F.1 F.2.1 dd_Ledger_receivePacket_117 rfl (lv_at hl 7 rfl) ?_
              refine lv_iload F.1 F.2.1 dd_Ledger_receivePacket_118 (lv_at hl 0 rfl) ?_
              refine zw_gov (zw_rV F hE hP (zc_Ledger_noteReceived lc G b0 (zu_Bank_take S i o (12 * c + j) c (zs_n (S 20 o (12 * c + j) 3)) (zs_n (S 20 o (12 * c + j) 5)) (zs_n (S 10 i 0 0))) i c j (nI 1) (by first | omega | assumption) (by first | omega | assumption) (by first | omega | assumption)) zk_Ledger_noteReceived za_Ledger_noteReceived zb_Ledger_noteReceived wl_Ledger_169 ⟨rfl, rfl, Nat.le_of_ble_eq_true rfl, Nat.le_of_ble_eq_true rfl⟩ (zc_recv (t := 2) (i := i) (j := 0) hE hP ⟨by decide, (show i < 2 by omega), (show 0 < 1 by omega)⟩ rfl rfl) hl.1 rfl (Nat.le_of_ble_eq_true rfl) ⟨Nat.zero_le _, Nat.zero_le _⟩ dd_Ledger_receivePacket_120) hS (fun _ h => h) (fun H locs hP _ _ hS => ?_)
              refine lv_iload F.1 F.2.1 dd_Ledger_receivePacket_123 (lv_at hl 0 rfl) ?_
              exact zw_iret F hr hlk hP hS (congrArg (zp_p G b0) (by rw [zu_Ledger_receivePacket, if_pos h21, if_pos h36, if_neg h48, if_pos h58, if_pos h89, if_neg h105])) (by rw [zr_Ledger_receivePacket, if_pos h21, if_pos h36, if_neg h48, if_pos h58, if_pos h89, if_neg h105]) dd_Ledger_receivePacket_125
          · refine lv_iload F.1 F.2.1 dd_Ledger_receivePacket_92 (lv_at hl 0 rfl) ?_
            exact zw_iret F hr hlk hP hS (congrArg (zp_p G b0) (by rw [zu_Ledger_receivePacket, if_pos h21, if_pos h36, if_neg h48, if_pos h58, if_neg h89])) (by rw [zr_Ledger_receivePacket, if_pos h21, if_pos h36, if_neg h48, if_pos h58, if_neg h89]) dd_Ledger_receivePacket_94
        · refine lv_iconst (v := nI 1) F.1 F.2.1 dd_Ledger_receivePacket_61 (by decide) ?_
          refine lv_goto F.1 F.2.1 dd_Ledger_receivePacket_62 (tgt := 66) rfl ?_
          refine zw_goi (zw_rV F hE hP (zc_Packet_printWith lc G b0 S o (12 * c + j) (nI 1) (by first | omega | assumption) (by first | omega | assumption)) zk_Packet_printWith za_Packet_printWith zb_Packet_printWith wl_Ledger_158 ⟨rfl, rfl, Nat.le_of_ble_eq_true rfl, Nat.le_of_ble_eq_true rfl⟩ (zc_recv (t := 20) (i := o) (j := 12 * c + j) hE hP ⟨by decide, (show o < 2 by omega), (show 12 * c + j < 36 by omega)⟩ rfl rfl) hl.1 rfl (Nat.le_of_ble_eq_true rfl) ⟨Nat.zero_le _, Nat.zero_le _⟩ dd_Ledger_receivePacket_66) hS (fun _ h => h) (fun H locs hP _ _ hS => ?_)
          refine lv_istore F.1 F.2.1 dd_Ledger_receivePacket_69 hl (by decide) (lv' := [(7, .int (zs_print (S 20 o (12 * c + j)) (nI 1))), (6, .ref (b0 + zp_o 20 o (12 * c + j))), (0, .ref (b0 + zp_o 2 i 0)), (1, .ref (b0 + zp_o 2 o 0)), (2, .int (nI c)), (3, .int (nI (j + 1))), (4, .int h), (5, .int w)]) rfl (fun ls hl => ?_)
          refine lv_aload_n F.1 F.2.1 dd_Ledger_receivePacket_71 rfl (lv_at hl 2 rfl) ?_
          refine lv_aload_n F.1 F.2.1 dd_Ledger_receivePacket_72 rfl (lv_at hl 3 rfl) ?_
          refine lv_iload F.1 F.2.1 dd_Ledger_receivePacket_73 (lv_at hl 6 rfl) ?_
          refine lv_iload_n F.1 F.2.1 dd_Ledger_receivePacket_75 rfl (lv_at hl 4 rfl) ?_
          refine lv_iload_n F.1 F.2.1 dd_Ledger_receivePacket_76 rfl (lv_at hl 5 rfl) ?_
          refine zw_goi (zw_rS F hE hP (zc_Store_printSlot lc G b0 S c j) zk_Store_printSlot za_Store_printSlot wl_Ledger_155 ⟨rfl, rfl, Nat.le_of_ble_eq_true rfl, Nat.le_of_ble_eq_true rfl⟩ hl.1 rfl (Nat.le_of_ble_eq_true rfl) ⟨Nat.zero_le _, Nat.zero_le _⟩ dd_Ledger_receivePacket_77) hS (fun _ h => h) (fun H locs hP _ _ hS => ?_)
          refine lv_iload F.1 F.2.1 dd_Ledger_receivePacket_80 (lv_at hl 0 rfl) ?_
          refine zw_goi (zw_rV F hE hP (zc_Ledger_proveValue lc G b0 S i o h (6 + 12 * c + j) (zs_print (S 20 o (12 * c + j)) (nI 1)) (by first | omega | assumption) (by first | omega | assumption) (by first | omega | assumption) (by assumption)) zk_Ledger_proveValue za_Ledger_proveValue zb_Ledger_proveValue wl_Ledger_92 ⟨rfl, rfl, Nat.le_of_ble_eq_true rfl, Nat.le_of_ble_eq_true rfl⟩ (zc_recv (t := 2) (i := i) (j := 0) hE hP ⟨by decide, (show i < 2 by omega), (show 0 < 1 by omega)⟩ rfl rfl) hl.1 rfl (Nat.le_of_ble_eq_true rfl) ⟨Nat.zero_le _, Nat.zero_le _⟩ dd_Ledger_receivePacket_82) hS (fun _ h => h) (fun H locs hP _ _ hS => ?_)
          refine lv_istore F.1 F.2.1 dd_Ledger_receivePacket_85 hl (by decide) (lv' := [(8, .int (zs_pv S i o h (6 + 12 * c + j) (zs_print (S 20 o (12 * c + j)) (nI 1)))), (7, .int (zs_print (S 20 o (12 * c + j)) (nI 1))), (6, .ref (b0 + zp_o 20 o (12 * c + j))), (0, .ref (b0 + zp_o 2 i 0)), (1, .ref (b0 + zp_o 2 o 0)), (2, .int (nI c)), (3, .int (nI (j + 1))), (4, .int h), (5, .int w)]) rfl (fun ls hl => ?_)
          refine lv_iload F.1 F.2.1 dd_Ledger_receivePacket_87 (lv_at hl 0 rfl) ?_
          refine lv_if_eq F.1 F.2.1 dd_Ledger_receivePacket_89 (tgt := 95) rfl (fun h89 => ?_) (fun h89 => ?_)
          · refine lv_aload_n F.1 F.2.1 dd_Ledger_receivePacket_95 rfl (lv_at hl 3 rfl) ?_
            refine zc_gF (t := 2) (i := i) (j := 0) F hE hP ⟨by decide, (show i < 2 by omega), (show 0 < 1 by omega)⟩ rfl rfl zi_Ledger 4 (by decide) rfl wf_Ledger_36 rfl dd_Ledger_receivePacket_96 ?_
            refine lv_aload F.1 F.2.1 dd_Ledger_receivePacket_99 (lv_at hl 2 rfl) ?_
            refine lv_iload_n F.1 F.2.1 dd_Ledger_receivePacket_101 rfl (lv_at hl 5 rfl) ?_
            refine zw_goi (zw_rV F hE hP (zc_Bank_take lc G b0 S i o (12 * c + j) c (zs_n (S 20 o (12 * c + j) 3)) (zs_n (S 20 o (12 * c + j) 5)) (zs_n (S 10 i 0 0)) (by first | omega | assumption) (by first | omega | assumption) (by first | omega | assumption) (by first | omega | assumption) hpk.2.2.1.2 hpk.2.2.1.1 hpk.2.2.2.1 hpk.2.2.2.2 (by assumption) (by first | omega | assumption)) zk_Bank_take za_Bank_take zb_Bank_take wl_Ledger_165 ⟨rfl, rfl, Nat.le_of_ble_eq_true rfl, Nat.le_of_ble_eq_true rfl⟩ (zc_recv (t := 10) (i := i) (j := 0) hE hP ⟨by decide, (show i < 2 by omega), (show 0 < 1 by omega)⟩ rfl rfl) hl.1 rfl (Nat.le_of_ble_eq_true rfl) ⟨Nat.zero_le _, Nat.zero_le _⟩ dd_Ledger_receivePacket_102) hS (fun _ h => h) (fun H locs hP _ _ hS => ?_)
            refine lv_if_eq F.1 F.2.1 dd_Ledger_receivePacket_105 (tgt := 112) rfl (fun h105 => ?_) (fun h105 => ?_)
            · refine lv_iconst (v := nI 2) F.1 F.2.1 dd_Ledger_receivePacket_112 (by decide) ?_
              refine lv_istore F.1 F.2.1 dd_Ledger_receivePacket_113 hl (by decide) (lv' := [(9, .int (nI 2)), (8, .int (zs_pv S i o h (6 + 12 * c + j) (zs_print (S 20 o (12 * c + j)) (nI 1)))), (7, .int (zs_print (S 20 o (12 * c + j)) (nI 1))), (6, .ref (b0 + zp_o 20 o (12 * c + j))), (0, .ref (b0 + zp_o 2 i 0)), (1, .ref (b0 + zp_o 2 o 0)), (2, .int (nI c)), (3, .int (nI (j + 1))), (4, .int h), (5, .int w)]) rfl (fun ls hl => ?_)
              refine lv_aload_n F.1 F.2.1 dd_Ledger_receivePacket_115 rfl (lv_at hl 4 rfl) ?_
              refine lv_iload_n F.1 F.2.1 dd_Ledger_receivePacket_116 rfl (lv_at hl 6 rfl) ?_
              refine lv_iload_n F.1 F.2.1 dd_Ledger_receivePacket_117 rfl (lv_at hl 7 rfl) ?_
              refine lv_iload F.1 F.2.1 dd_Ledger_receivePacket_118 (lv_at hl 0 rfl) ?_
              refine zw_gov (zw_rV F hE hP (zc_Ledger_noteReceived lc G b0 (zu_Bank_take S i o (12 * c + j) c (zs_n (S 20 o (12 * c + j) 3)) (zs_n (S 20 o (12 * c + j) 5)) (zs_n (S 10 i 0 0))) i c j (nI 2) (by first | omega | assumption) (by first | omega | assumption) (by first | omega | assumption)) zk_Ledger_noteReceived za_Ledger_noteReceived zb_Ledger_noteReceived wl_Ledger_169 ⟨rfl, rfl, Nat.le_of_ble_eq_true rfl, Nat.le_of_ble_eq_true rfl⟩ (zc_recv (t := 2) (i := i) (j := 0) hE hP ⟨by decide, (show i < 2 by omega), (show 0 < 1 by omega)⟩ rfl rfl) hl.1 rfl (Nat.le_of_ble_eq_true rfl) ⟨Nat.zero_le _, Nat.zero_le _⟩ dd_Ledger_receivePacket_120) hS (fun _ h => h) (fun H locs hP _ _ hS => ?_)
              refine lv_iload F.1 F.2.1 dd_Ledger_receivePacket_123 (lv_at hl 0 rfl) ?_
              exact zw_iret F hr hlk hP hS (congrArg (zp_p G b0) (by rw [zu_Ledger_receivePacket, if_pos h21, if_pos h36, if_neg h48, if_neg h58, if_pos h89, if_pos h105])) (by rw [zr_Ledger_receivePacket, if_pos h21, if_pos h36, if_neg h48, if_neg h58, if_pos h89, if_pos h105]) dd_Ledger_receivePacket_125
            · refine lv_iconst (v := nI 1) F.1 F.2.1 dd_Ledger_receivePacket_108 (by decide) ?_
              refine lv_goto F.1 F.2.1 dd_Ledger_receivePacket_109 (tgt := 113) rfl ?_
              refine lv_istore F.1 F.2.1 dd_Ledger_receivePacket_113 hl (by decide) (lv' := [(9, .int (nI 1)), (8, .int (zs_pv S i o h (6 + 12 * c + j) (zs_print (S 20 o (12 * c + j)) (nI 1)))), (7, .int (zs_print (S 20 o (12 * c + j)) (nI 1))), (6, .ref (b0 + zp_o 20 o (12 * c + j))), (0, .ref (b0 + zp_o 2 i 0)), (1, .ref (b0 + zp_o 2 o 0)), (2, .int (nI c)), (3, .int (nI (j + 1))), (4, .int h), (5, .int w)]) rfl (fun ls hl => ?_)
              refine lv_aload_n F.1 F.2.1 dd_Ledger_receivePacket_115 rfl (lv_at hl 4 rfl) ?_
              refine lv_iload_n F.1 F.2.1 dd_Ledger_receivePacket_116 rfl (lv_at hl 6 rfl) ?_
              refine lv_iload_n F.1 F.2.1 dd_Ledger_receivePacket_117 rfl (lv_at hl 7 rfl) ?_
              refine lv_iload F.1 F.2.1 dd_Ledger_receivePacket_118 (lv_at hl 0 rfl) ?_
              refine zw_gov (zw_rV F hE hP (zc_Ledger_noteReceived lc G b0 (zu_Bank_take S i o (12 * c + j) c (zs_n (S 20 o (12 * c + j) 3)) (zs_n (S 20 o (12 * c + j) 5)) (zs_n (S 10 i 0 0))) i c j (nI 1) (by first | omega | assumption) (by first | omega | assumption) (by first | omega | assumption)) zk_Ledger_noteReceived za_Ledger_noteReceived zb_Ledger_noteReceived wl_Ledger_169 ⟨rfl, rfl, Nat.le_of_ble_eq_true rfl, Nat.le_of_ble_eq_true rfl⟩ (zc_recv (t := 2) (i := i) (j := 0) hE hP ⟨by decide, (show i < 2 by omega), (show 0 < 1 by omega)⟩ rfl rfl) hl.1 rfl (Nat.le_of_ble_eq_true rfl) ⟨Nat.zero_le _, Nat.zero_le _⟩ dd_Ledger_receivePacket_120) hS (fun _ h => h) (fun H locs hP _ _ hS => ?_)
              refine lv_iload F.1 F.2.1 dd_Ledger_receivePacket_123 (lv_at hl 0 rfl) ?_
              exact zw_iret F hr hlk hP hS (congrArg (zp_p G b0) (by rw [zu_Ledger_receivePacket, if_pos h21, if_pos h36, if_neg h48, if_neg h58, if_pos h89, if_neg h105])) (by rw [zr_Ledger_receivePacket, if_pos h21, if_pos h36, if_neg h48, if_neg h58, if_pos h89, if_neg h105]) dd_Ledger_receivePacket_125
          · refine lv_iload F.1 F.2.1 dd_Ledger_receivePacket_92 (lv_at hl 0 rfl) ?_
            exact zw_iret F hr hlk hP hS (congrArg (zp_p G b0) (by rw [zu_Ledger_receivePacket, if_pos h21, if_pos h36, if_neg h48, if_neg h58, if_neg h89])) (by rw [zr_Ledger_receivePacket, if_pos h21, if_pos h36, if_neg h48, if_neg h58, if_neg h89]) dd_Ledger_receivePacket_94
      · refine lv_bipush (v := (-8)) F.1 F.2.1 dd_Ledger_receivePacket_51 (by decide) ?_
        exact zw_iret F hr hlk hP hS (congrArg (zp_p G b0) (by rw [zu_Ledger_receivePacket, if_pos h21, if_pos h36, if_pos h48])) (by rw [zr_Ledger_receivePacket, if_pos h21, if_pos h36, if_pos h48]) dd_Ledger_receivePacket_53
    · refine lv_bipush (v := (-9)) F.1 F.2.1 dd_Ledger_receivePacket_39 (by decide) ?_
      exact zw_iret F hr hlk hP hS (congrArg (zp_p G b0) (by rw [zu_Ledger_receivePacket, if_pos h21, if_neg h36])) (by rw [zr_Ledger_receivePacket, if_pos h21, if_neg h36]) dd_Ledger_receivePacket_41
  · refine lv_bipush (v := (-2)) F.1 F.2.1 dd_Ledger_receivePacket_24 (by decide) ?_
    exact zw_iret F hr hlk hP hS (congrArg (zp_p G b0) (by rw [zu_Ledger_receivePacket, if_neg h21])) (by rw [zr_Ledger_receivePacket, if_neg h21]) dd_Ledger_receivePacket_26
def zr_Ledger_settleAnswered (S : zs_S) (i : Nat) (o : Nat) (c : Nat) (j : Nat) (h : Int32) : Int32 := if zs_st (S 4 i 0 c) = nI 3 then (if zs_or (S 4 i 0 c) = nI 1 then (if nI (j + 1) = S 18 i c 1 then (if S 20 i (12 * c + j) 6 = 0 then (if S 5 o 0 (78 + 12 * c + j) = 0 then ((-5)) else (if zs_pv S i o h (78 + 12 * c + j) (S 4 o 0 (78 + 12 * c + j)) = 0 then (if zs_or (S 4 i 0 c) = nI 1 then (S 4 o 0 (78 + 12 * c + j)) else (S 4 o 0 (78 + 12 * c + j))) else (zs_pv S i o h (78 + 12 * c + j) (S 4 o 0 (78 + 12 * c + j))))) else ((-8))) else (if S 20 i (12 * c + j) 6 = 0 then ((-8)) else ((-8)))) else (if S 20 i (12 * c + j) 6 = 0 then (if S 5 o 0 (78 + 12 * c + j) = 0 then ((-5)) else (if zs_pv S i o h (78 + 12 * c + j) (S 4 o 0 (78 + 12 * c + j)) = 0 then (if zs_or (S 4 i 0 c) = nI 1 then (S 4 o 0 (78 + 12 * c + j)) else (S 4 o 0 (78 + 12 * c + j))) else (zs_pv S i o h (78 + 12 * c + j) (S 4 o 0 (78 + 12 * c + j))))) else ((-8)))) else ((-2))
def zu_Ledger_settleAnswered (S : zs_S) (i : Nat) (o : Nat) (c : Nat) (j : Nat) (h : Int32) : zs_S := if zs_st (S 4 i 0 c) = nI 3 then (if zs_or (S 4 i 0 c) = nI 1 then (if nI (j + 1) = S 18 i c 1 then (if S 20 i (12 * c + j) 6 = 0 then (if S 5 o 0 (78 + 12 * c + j) = 0 then (S) else (if zs_pv S i o h (78 + 12 * c + j) (S 4 o 0 (78 + 12 * c + j)) = 0 then (if zs_or (S 4 i 0 c) = nI 1 then ((zu_Ledger_settle (zs_u S 18 i c 1 (nI ((j + 1) + 1))) i c j (S 4 o 0 (78 + 12 * c + j)))) else ((zu_Ledger_settle S i c j (S 4 o 0 (78 + 12 * c + j))))) else (S))) else (S)) else (if S 20 i (12 * c + j) 6 = 0 then (S) else (S))) else (if S 20 i (12 * c + j) 6 = 0 then (if S 5 o 0 (78 + 12 * c + j) = 0 then (S) else (if zs_pv S i o h (78 + 12 * c + j) (S 4 o 0 (78 + 12 * c + j)) = 0 then (if zs_or (S 4 i 0 c) = nI 1 then ((zu_Ledger_settle (zs_u S 18 i c 1 (nI ((j + 1) + 1))) i c j (S 4 o 0 (78 + 12 * c + j)))) else ((zu_Ledger_settle S i c j (S 4 o 0 (78 + 12 * c + j))))) else (S))) else (S))) else (S)
set_option maxHeartbeats 4000000 in
set_option maxRecDepth 100000 in
theorem zc_Ledger_settleAnswered (lc : Launch) (G : zw_G) (b0 : Nat) (S : zs_S) (i : Nat) (o : Nat) (c : Nat) (j : Nat) (h : Int32) (hi : i < 2) (ho : o < 2) (hc : c < 3) (hj : j < 12) (hB : zs_B S) (hpk : zs_PK S i (12 * c + j)) : zw_M lc ym_Ledger_settleAnswered bm_Ledger_settleAnswered 10 (some .int) { frames := 3, cells := 0, slots := 0, locals := 69 } G b0 176 (zp_p G b0 S) [.ref (b0 + zp_o 2 i 0), .ref (b0 + zp_o 2 o 0), .int (nI c), .int (nI (j + 1)), .int h] (zw_Qi G b0 176 (zp_p G b0 (zu_Ledger_settleAnswered S i o c j h)) (zr_Ledger_settleAnswered S i o c j h)) := by
  refine zw_of (by decide) (Nat.le_of_ble_eq_true rfl) ?_
  intro p e s m below meth cx ls F hr hlk hE hP hS hl
  have hl : lv_has ls 10 [(0, .ref (b0 + zp_o 2 i 0)), (1, .ref (b0 + zp_o 2 o 0)), (2, .int (nI c)), (3, .int (nI (j + 1))), (4, .int h)] := hl
  refine lv_aload_n F.1 F.2.1 dd_Ledger_settleAnswered_0 rfl (lv_at hl 0 rfl) ?_
  refine zc_gF (t := 2) (i := i) (j := 0) F hE hP ⟨by decide, (show i < 2 by omega), (show 0 < 1 by omega)⟩ rfl rfl zi_Ledger 5 (by decide) rfl wf_Ledger_42 rfl dd_Ledger_settleAnswered_1 ?_
  refine lv_iload_n F.1 F.2.1 dd_Ledger_settleAnswered_4 rfl (lv_at hl 2 rfl) ?_
  refine zc_aald (t := 17) (i := i) (j := 0) (k := c) (N := 3) (z := 4) (a := (b0 + zp_o 18 i c)) F hE hP ⟨by decide, (show i < 2 by omega), (show 0 < 1 by omega)⟩ rfl rfl rfl (by omega) (by decide) rfl dd_Ledger_settleAnswered_5 ?_
  refine lv_astore F.1 F.2.1 dd_Ledger_settleAnswered_6 hl (by decide) (lv' := [(5, .ref (b0 + zp_o 18 i c)), (0, .ref (b0 + zp_o 2 i 0)), (1, .ref (b0 + zp_o 2 o 0)), (2, .int (nI c)), (3, .int (nI (j + 1))), (4, .int h)]) rfl (fun ls hl => ?_)
  refine lv_aload_n F.1 F.2.1 dd_Ledger_settleAnswered_8 rfl (lv_at hl 1 rfl) ?_
  refine lv_iload_n F.1 F.2.1 dd_Ledger_settleAnswered_9 rfl (lv_at hl 3 rfl) ?_
  refine zw_goi (zw_rV F hE hP (zc_Ledger_stateOf lc G b0 S i c (by first | omega | assumption) (by first | omega | assumption)) zk_Ledger_stateOf za_Ledger_stateOf zb_Ledger_stateOf wl_Ledger_96 ⟨rfl, rfl, Nat.le_of_ble_eq_true rfl, Nat.le_of_ble_eq_true rfl⟩ (zc_recv (t := 2) (i := i) (j := 0) hE hP ⟨by decide, (show i < 2 by omega), (show 0 < 1 by omega)⟩ rfl rfl) hl.1 rfl (Nat.le_of_ble_eq_true rfl) ⟨Nat.zero_le _, Nat.zero_le _⟩ dd_Ledger_settleAnswered_10) hS (fun _ h => h) (fun H locs hP _ _ hS => ?_)
  refine lv_iconst (v := nI 3) F.1 F.2.1 dd_Ledger_settleAnswered_13 (by decide) ?_
  refine lv_icmp_eq F.1 F.2.1 dd_Ledger_settleAnswered_14 (tgt := 20) rfl (fun h14 => ?_) (fun h14 => ?_)
  · refine lv_aload_n F.1 F.2.1 dd_Ledger_settleAnswered_20 rfl (lv_at hl 1 rfl) ?_
    refine lv_iload_n F.1 F.2.1 dd_Ledger_settleAnswered_21 rfl (lv_at hl 3 rfl) ?_
    refine zw_goi (zw_rV F hE hP (zc_Ledger_isOrdered lc G b0 S i c (by first | omega | assumption) (by first | omega | assumption)) zk_Ledger_isOrdered za_Ledger_isOrdered zb_Ledger_isOrdered wl_Ledger_172 ⟨rfl, rfl, Nat.le_of_ble_eq_true rfl, Nat.le_of_ble_eq_true rfl⟩ (zc_recv (t := 2) (i := i) (j := 0) hE hP ⟨by decide, (show i < 2 by omega), (show 0 < 1 by omega)⟩ rfl rfl) hl.1 rfl (Nat.le_of_ble_eq_true rfl) ⟨Nat.zero_le _, Nat.zero_le _⟩ dd_Ledger_settleAnswered_22) hS (fun _ h => h) (fun H locs hP _ _ hS => ?_)
    refine zn_beq F dd_Ledger_settleAnswered_25 (tgt := 37) rfl (fun h25 => ?_) (fun h25 => ?_)
    · refine lv_iconst (v := nI 1) F.1 F.2.1 dd_Ledger_settleAnswered_37 (by decide) ?_
      refine lv_goto F.1 F.2.1 dd_Ledger_settleAnswered_38 (tgt := 42) rfl ?_
      refine lv_istore F.1 F.2.1 dd_Ledger_settleAnswered_42 hl (by decide) (lv' := [(6, .int (nI 1)), (5, .ref (b0 + zp_o 18 i c)), (0, .ref (b0 + zp_o 2 i 0)), (1, .ref (b0 + zp_o 2 o 0)), (2, .int (nI c)), (3, .int (nI (j + 1))), (4, .int h)]) rfl (fun ls hl => ?_)
      refine lv_aload F.1 F.2.1 dd_Ledger_settleAnswered_44 (lv_at hl 1 rfl) ?_
      refine zc_gN (t := 18) (i := i) (j := c) F hE hP ⟨by decide, (show i < 2 by omega), (show c < 3 by omega)⟩ rfl rfl zi_End 0 (by decide) rfl wf_Ledger_121 rfl dd_Ledger_settleAnswered_46 ?_
      refine lv_iload_n F.1 F.2.1 dd_Ledger_settleAnswered_49 rfl (lv_at hl 5 rfl) ?_
      refine lv_iconst (v := nI 1) F.1 F.2.1 dd_Ledger_settleAnswered_50 (by decide) ?_
      refine zn_isub F dd_Ledger_settleAnswered_51 (by omega) ?_
      refine zn_top (y := nI j) (congrArg nI (by omega)) ?_
      refine zc_aald (t := 19) (i := i) (j := c) (k := j) (N := 12) (z := 5) (a := (b0 + zp_o 20 i (12 * c + j))) F hE hP ⟨by decide, (show i < 2 by omega), (show c < 3 by omega)⟩ rfl rfl rfl (by omega) (by decide) rfl dd_Ledger_settleAnswered_52 ?_
      refine zc_gN (t := 20) (i := i) (j := 12 * c + j) F hE hP ⟨by decide, (show i < 2 by omega), (show 12 * c + j < 36 by omega)⟩ rfl rfl zi_Packet 6 (by decide) rfl wf_Ledger_187 rfl dd_Ledger_settleAnswered_53 ?_
      refine lv_if_ne F.1 F.2.1 dd_Ledger_settleAnswered_56 (tgt := 64) rfl (fun h56 => ?_) (fun h56 => ?_)
      · refine lv_bipush (v := (-8)) F.1 F.2.1 dd_Ledger_settleAnswered_64 (by decide) ?_
        exact zw_iret F hr hlk hP hS (congrArg (zp_p G b0) (by rw [zu_Ledger_settleAnswered, if_pos h14, if_neg h25, if_neg h56])) (by rw [zr_Ledger_settleAnswered, if_pos h14, if_neg h25, if_neg h56]) dd_Ledger_settleAnswered_66
      · refine lv_iload F.1 F.2.1 dd_Ledger_settleAnswered_59 (lv_at hl 0 rfl) ?_
        refine lv_if_ne F.1 F.2.1 dd_Ledger_settleAnswered_61 (tgt := 67) rfl (fun h61 => ?_) (fun h61 => absurd h61 (by decide))
        refine lv_iload_n F.1 F.2.1 dd_Ledger_settleAnswered_67 rfl (lv_at hl 4 rfl) ?_
        refine lv_iload_n F.1 F.2.1 dd_Ledger_settleAnswered_68 rfl (lv_at hl 5 rfl) ?_
        refine zw_goi (zw_rS F hE hP (zc_Store_answerSlot lc G b0 S c j) zk_Store_answerSlot za_Store_answerSlot wl_Ledger_181 ⟨rfl, rfl, Nat.le_of_ble_eq_true rfl, Nat.le_of_ble_eq_true rfl⟩ hl.1 rfl (Nat.le_of_ble_eq_true rfl) ⟨Nat.zero_le _, Nat.zero_le _⟩ dd_Ledger_settleAnswered_69) hS (fun _ h => h) (fun H locs hP _ _ hS => ?_)
        refine lv_istore F.1 F.2.1 dd_Ledger_settleAnswered_72 hl (by decide) (lv' := [(7, .int (nI (78 + 12 * c + j))), (6, .int (nI 1)), (5, .ref (b0 + zp_o 18 i c)), (0, .ref (b0 + zp_o 2 i 0)), (1, .ref (b0 + zp_o 2 o 0)), (2, .int (nI c)), (3, .int (nI (j + 1))), (4, .int h)]) rfl (fun ls hl => ?_)
        refine lv_aload_n F.1 F.2.1 dd_Ledger_settleAnswered_74 rfl (lv_at hl 4 rfl) ?_
        refine zc_gF (t := 2) (i := o) (j := 0) F hE hP ⟨by decide, (show o < 2 by omega), (show 0 < 1 by omega)⟩ rfl rfl zi_Ledger 0 (by decide) rfl wf_Ledger_12 rfl dd_Ledger_settleAnswered_75 ?_
        refine lv_iload F.1 F.2.1 dd_Ledger_settleAnswered_78 (lv_at hl 0 rfl) ?_
        refine zw_goi (zw_rV F hE hP (zc_Store_has lc G b0 S o 0 (78 + 12 * c + j) (by first | omega | assumption) (by first | omega | assumption) (by first | omega | assumption) (hB _ _ _)) zk_Store_has za_Store_has zb_Store_has wl_Ledger_89 ⟨rfl, rfl, Nat.le_of_ble_eq_true rfl, Nat.le_of_ble_eq_true rfl⟩ (zc_recv (t := 3) (i := o) (j := 0) hE hP ⟨by decide, (show o < 2 by omega), (show 0 < 9 by omega)⟩ rfl rfl) hl.1 rfl (Nat.le_of_ble_eq_true rfl) ⟨Nat.zero_le _, Nat.zero_le _⟩ dd_Ledger_settleAnswered_80) hS (fun _ h => h) (fun H locs hP _ _ hS => ?_)
        refine lv_if_ne F.1 F.2.1 dd_Ledger_settleAnswered_83 (tgt := 89) rfl (fun h83 => ?_) (fun h83 => ?_)
        · refine lv_aload_n F.1 F.2.1 dd_Ledger_settleAnswered_89 rfl (lv_at hl 4 rfl) ?_
          refine zc_gF (t := 2) (i := o) (j := 0) F hE hP ⟨by decide, (show o < 2 by omega), (show 0 < 1 by omega)⟩ rfl rfl zi_Ledger 0 (by decide) rfl wf_Ledger_12 rfl dd_Ledger_settleAnswered_90 ?_
          refine lv_iload F.1 F.2.1 dd_Ledger_settleAnswered_93 (lv_at hl 0 rfl) ?_
          refine zw_goi (zw_rV F hE hP (zc_Store_valueIn lc G b0 S o 0 (78 + 12 * c + j) (by first | omega | assumption) (by first | omega | assumption) (by first | omega | assumption)) zk_Store_valueIn za_Store_valueIn zb_Store_valueIn wl_Ledger_67 ⟨rfl, rfl, Nat.le_of_ble_eq_true rfl, Nat.le_of_ble_eq_true rfl⟩ (zc_recv (t := 3) (i := o) (j := 0) hE hP ⟨by decide, (show o < 2 by omega), (show 0 < 9 by omega)⟩ rfl rfl) hl.1 rfl (Nat.le_of_ble_eq_true rfl) ⟨Nat.zero_le _, Nat.zero_le _⟩ dd_Ledger_settleAnswered_95) hS (fun _ h => h) (fun H locs hP _ _ hS => ?_)
          refine lv_istore F.1 F.2.1 dd_Ledger_settleAnswered_98 hl (by decide) (lv' := [(8, .int (S 4 o 0 (78 + 12 * c + j))), (7, .int (nI (78 + 12 * c + j))), (6, .int (nI 1)), (5, .ref (b0 + zp_o 18 i c)), (0, .ref (b0 + zp_o 2 i 0)), (1, .ref (b0 + zp_o 2 o 0)), (2, .int (nI c)), (3, .int (nI (j + 1))), (4, .int h)]) rfl (fun ls hl => ?_)
          refine lv_aload_n F.1 F.2.1 dd_Ledger_settleAnswered_100 rfl (lv_at hl 4 rfl) ?_
          refine lv_aload_n F.1 F.2.1 dd_Ledger_settleAnswered_101 rfl (lv_at hl 5 rfl) ?_
          refine lv_iload F.1 F.2.1 dd_Ledger_settleAnswered_102 (lv_at hl 8 rfl) ?_
          refine lv_iload F.1 F.2.1 dd_Ledger_settleAnswered_104 (lv_at hl 1 rfl) ?_
          refine lv_iload F.1 F.2.1 dd_Ledger_settleAnswered_106 (lv_at hl 0 rfl) ?_
          refine zw_goi (zw_rV F hE hP (zc_Ledger_proveValue lc G b0 S i o h (78 + 12 * c + j) (S 4 o 0 (78 + 12 * c + j)) (by first | omega | assumption) (by first | omega | assumption) (by first | omega | assumption) (by assumption)) zk_Ledger_proveValue za_Ledger_proveValue zb_Ledger_proveValue wl_Ledger_92 ⟨rfl, rfl, Nat.le_of_ble_eq_true rfl, Nat.le_of_ble_eq_true rfl⟩ (zc_recv (t := 2) (i := i) (j := 0) hE hP ⟨by decide, (show i < 2 by omega), (show 0 < 1 by omega)⟩ rfl rfl) hl.1 rfl (Nat.le_of_ble_eq_true rfl) ⟨Nat.zero_le _, Nat.zero_le _⟩ dd_Ledger_settleAnswered_108) hS (fun _ h => h) (fun H locs hP _ _ hS => ?_)
          refine lv_istore F.1 F.2.1 dd_Ledger_settleAnswered_111 hl (by decide) (lv' := [(9, .int (zs_pv S i o h (78 + 12 * c + j) (S 4 o 0 (78 + 12 * c + j)))), (8, .int (S 4 o 0 (78 + 12 * c + j))), (7, .int (nI (78 + 12 * c + j))), (6, .int (nI 1)), (5, .ref (b0 + zp_o 18 i c)), (0, .ref (b0 + zp_o 2 i 0)), (1, .ref (b0 + zp_o 2 o 0)), (2, .int (nI c)), (3, .int (nI (j + 1))), (4, .int h)]) rfl (fun ls hl => ?_)
          refine lv_iload F.1 F.2.1 dd_Ledger_settleAnswered_113 (lv_at hl 0 rfl) ?_
          refine lv_if_eq F.1 F.2.1 dd_Ledger_settleAnswered_115 (tgt := 121) rfl (fun h115 => ?_) (fun h115 => ?_)
          · refine lv_aload_n F.1 F.2.1 dd_Ledger_settleAnswered_121 rfl (lv_at hl 5 rfl) ?_
            refine lv_iload_n F.1 F.2.1 dd_Ledger_settleAnswered_122 rfl (lv_at hl 7 rfl) ?_
            refine zw_goi (zw_rV F hE hP (zc_Ledger_isOrdered lc G b0 S i c (by first | omega | assumption) (by first | omega | assumption)) zk_Ledger_isOrdered za_Ledger_isOrdered zb_Ledger_isOrdered wl_Ledger_172 ⟨rfl, rfl, Nat.le_of_ble_eq_true rfl, Nat.le_of_ble_eq_true rfl⟩ (zc_recv (t := 2) (i := i) (j := 0) hE hP ⟨by decide, (show i < 2 by omega), (show 0 < 1 by omega)⟩ rfl rfl) hl.1 rfl (Nat.le_of_ble_eq_true rfl) ⟨Nat.zero_le _, Nat.zero_le _⟩ dd_Ledger_settleAnswered_123) hS (fun _ h => h) (fun H locs hP _ _ hS => ?_)
            refine zn_beq F dd_Ledger_settleAnswered_126 (tgt := 137) rfl (fun h126 => ?_) (fun h126 => ?_)
            · refine lv_aload_n F.1 F.2.1 dd_Ledger_settleAnswered_137 rfl (lv_at hl 5 rfl) ?_
              refine lv_iload_n F.1 F.2.1 dd_Ledger_settleAnswered_138 rfl (lv_at hl 7 rfl) ?_
              refine lv_iload_n F.1 F.2.1 dd_Ledger_settleAnswered_139 rfl (lv_at hl 8 rfl) ?_
              refine lv_iload F.1 F.2.1 dd_Ledger_settleAnswered_140 (lv_at hl 1 rfl) ?_
              refine zw_gov (zw_rV F hE hP (zc_Ledger_settle lc G b0 S i c j (S 4 o 0 (78 + 12 * c + j)) (by first | omega | assumption) (by first | omega | assumption) (by first | omega | assumption) (by first | exact hpk | simpa [zs_u] using hpk)) zk_Ledger_settle za_Ledger_settle zb_Ledger_settle wl_Ledger_190 ⟨rfl, rfl, Nat.le_of_ble_eq_true rfl, Nat.le_of_ble_eq_true rfl⟩ (zc_recv (t := 2) (i := i) (j := 0) hE hP ⟨by decide, (show i < 2 by omega), (show 0 < 1 by omega)⟩ rfl rfl) hl.1 rfl (Nat.le_of_ble_eq_true rfl) ⟨Nat.zero_le _, Nat.zero_le _⟩ dd_Ledger_settleAnswered_142) hS (fun _ h => h) (fun H locs hP _ _ hS => ?_)
              refine lv_iload F.1 F.2.1 dd_Ledger_settleAnswered_145 (lv_at hl 1 rfl) ?_
              exact zw_iret F hr hlk hP hS (congrArg (zp_p G b0) (by rw [zu_Ledger_settleAnswered, if_pos h14, if_neg h25, if_pos h56, if_neg h83, if_pos h115, if_neg h126])) (by rw [zr_Ledger_settleAnswered, if_pos h14, if_neg h25, if_pos h56, if_neg h83, if_pos h115, if_neg h126]) dd_Ledger_settleAnswered_147
            · refine lv_aload F.1 F.2.1 dd_Ledger_settleAnswered_129 (lv_at hl 4 rfl) ?_
              refine lv_iload_n F.1 F.2.1 dd_Ledger_settleAnswered_131 rfl (lv_at hl 8 rfl) ?_
              refine lv_iconst (v := nI 1) F.1 F.2.1 dd_Ledger_settleAnswered_132 (by decide) ?_
              refine zn_iadd F dd_Ledger_settleAnswered_133 ?_
              refine zc_pN (t := 18) (i := i) (j := c) (kf := 1) F hE hP hS (fun _ h => h) ⟨by decide, (show i < 2 by omega), (show c < 3 by omega)⟩ rfl rfl zi_End zy_End zj_End zl_End 2 (by decide) rfl rfl wf_Ledger_184 (by decide +kernel) (Nat.le_of_ble_eq_true rfl) rfl dd_Ledger_settleAnswered_134 (fun H locs hP hS => ?_)
              refine lv_aload_n F.1 F.2.1 dd_Ledger_settleAnswered_137 rfl (lv_at hl 5 rfl) ?_
              refine lv_iload_n F.1 F.2.1 dd_Ledger_settleAnswered_138 rfl (lv_at hl 7 rfl) ?_
              refine lv_iload_n F.1 F.2.1 dd_Ledger_settleAnswered_139 rfl (lv_at hl 8 rfl) ?_
              refine lv_iload F.1 F.2.1 dd_Ledger_settleAnswered_140 (lv_at hl 1 rfl) ?_
              refine zw_gov (zw_rV F hE hP (zc_Ledger_settle lc G b0 (zs_u S 18 i c 1 (nI ((j + 1) + 1))) i c j (S 4 o 0 (78 + 12 * c + j)) (by first | omega | assumption) (by first | omega | assumption) (by first | omega | assumption) (by first | exact hpk | simpa [zs_u] using hpk)) zk_Ledger_settle za_Ledger_settle zb_Ledger_settle wl_Ledger_190 ⟨rfl, rfl, Nat.le_of_ble_eq_true rfl, Nat.le_of_ble_eq_true rfl⟩ (zc_recv (t := 2) (i := i) (j := 0) hE hP ⟨by decide, (show i < 2 by omega), (show 0 < 1 by omega)⟩ rfl rfl) hl.1 rfl (Nat.le_of_ble_eq_true rfl) ⟨Nat.zero_le _, Nat.zero_le _⟩ dd_Ledger_settleAnswered_142) hS (fun _ h => h) (fun H locs hP _ _ hS => ?_)
              refine lv_iload F.1 F.2.1 dd_Ledger_settleAnswered_145 (lv_at hl 1 rfl) ?_
              exact zw_iret F hr hlk hP hS (congrArg (zp_p G b0) (by rw [zu_Ledger_settleAnswered, if_pos h14, if_neg h25, if_pos h56, if_neg h83, if_pos h115, if_pos h126])) (by rw [zr_Ledger_settleAnswered, if_pos h14, if_neg h25, if_pos h56, if_neg h83, if_pos h115, if_pos h126]) dd_Ledger_settleAnswered_147
          · refine lv_iload F.1 F.2.1 dd_Ledger_settleAnswered_118 (lv_at hl 0 rfl) ?_
            exact zw_iret F hr hlk hP hS (congrArg (zp_p G b0) (by rw [zu_Ledger_settleAnswered, if_pos h14, if_neg h25, if_pos h56, if_neg h83, if_neg h115])) (by rw [zr_Ledger_settleAnswered, if_pos h14, if_neg h25, if_pos h56, if_neg h83, if_neg h115]) dd_Ledger_settleAnswered_120
        · refine lv_bipush (v := (-5)) F.1 F.2.1 dd_Ledger_settleAnswered_86 (by decide) ?_
          exact zw_iret F hr hlk hP hS (congrArg (zp_p G b0) (by rw [zu_Ledger_settleAnswered, if_pos h14, if_neg h25, if_pos h56, if_pos h83])) (by rw [zr_Ledger_settleAnswered, if_pos h14, if_neg h25, if_pos h56, if_pos h83]) dd_Ledger_settleAnswered_88
    · refine lv_iload_n F.1 F.2.1 dd_Ledger_settleAnswered_28 rfl (lv_at hl 4 rfl) ?_
      refine lv_aload F.1 F.2.1 dd_Ledger_settleAnswered_29 (lv_at hl 0 rfl) ?_
      refine zc_gN (t := 18) (i := i) (j := c) F hE hP ⟨by decide, (show i < 2 by omega), (show c < 3 by omega)⟩ rfl rfl zi_End 2 (by decide) rfl wf_Ledger_184 rfl dd_Ledger_settleAnswered_31 ?_
      refine lv_icmp_ne F.1 F.2.1 dd_Ledger_settleAnswered_34 (tgt := 41) rfl (fun h34 => ?_) (fun h34 => ?_)
      · refine lv_iconst (v := nI 0) F.1 F.2.1 dd_Ledger_settleAnswered_41 (by decide) ?_
        refine lv_istore F.1 F.2.1 dd_Ledger_settleAnswered_42 hl (by decide) (lv' := [(6, .int (nI 0)), (5, .ref (b0 + zp_o 18 i c)), (0, .ref (b0 + zp_o 2 i 0)), (1, .ref (b0 + zp_o 2 o 0)), (2, .int (nI c)), (3, .int (nI (j + 1))), (4, .int h)]) rfl (fun ls hl => ?_)
        refine lv_aload F.1 F.2.1 dd_Ledger_settleAnswered_44 (lv_at hl 1 rfl) ?_
        refine zc_gN (t := 18) (i := i) (j := c) F hE hP ⟨by decide, (show i < 2 by omega), (show c < 3 by omega)⟩ rfl rfl zi_End 0 (by decide) rfl wf_Ledger_121 rfl dd_Ledger_settleAnswered_46 ?_
        refine lv_iload_n F.1 F.2.1 dd_Ledger_settleAnswered_49 rfl (lv_at hl 5 rfl) ?_
        refine lv_iconst (v := nI 1) F.1 F.2.1 dd_Ledger_settleAnswered_50 (by decide) ?_
        refine zn_isub F dd_Ledger_settleAnswered_51 (by omega) ?_
        refine zn_top (y := nI j) (congrArg nI (by omega)) ?_
        refine zc_aald (t := 19) (i := i) (j := c) (k := j) (N := 12) (z := 5) (a := (b0 + zp_o 20 i (12 * c + j))) F hE hP ⟨by decide, (show i < 2 by omega), (show c < 3 by omega)⟩ rfl rfl rfl (by omega) (by decide) rfl dd_Ledger_settleAnswered_52 ?_
        refine zc_gN (t := 20) (i := i) (j := 12 * c + j) F hE hP ⟨by decide, (show i < 2 by omega), (show 12 * c + j < 36 by omega)⟩ rfl rfl zi_Packet 6 (by decide) rfl wf_Ledger_187 rfl dd_Ledger_settleAnswered_53 ?_
        refine lv_if_ne F.1 F.2.1 dd_Ledger_settleAnswered_56 (tgt := 64) rfl (fun h56 => ?_) (fun h56 => ?_)
        · refine lv_bipush (v := (-8)) F.1 F.2.1 dd_Ledger_settleAnswered_64 (by decide) ?_
          exact zw_iret F hr hlk hP hS (congrArg (zp_p G b0) (by rw [zu_Ledger_settleAnswered, if_pos h14, if_pos h25, if_neg h34, if_neg h56])) (by rw [zr_Ledger_settleAnswered, if_pos h14, if_pos h25, if_neg h34, if_neg h56]) dd_Ledger_settleAnswered_66
        · refine lv_iload F.1 F.2.1 dd_Ledger_settleAnswered_59 (lv_at hl 0 rfl) ?_
          refine lv_if_ne F.1 F.2.1 dd_Ledger_settleAnswered_61 (tgt := 67) rfl (fun h61 => absurd h61 (by decide)) (fun h61 => ?_)
          refine lv_bipush (v := (-8)) F.1 F.2.1 dd_Ledger_settleAnswered_64 (by decide) ?_
          exact zw_iret F hr hlk hP hS (congrArg (zp_p G b0) (by rw [zu_Ledger_settleAnswered, if_pos h14, if_pos h25, if_neg h34, if_pos h56])) (by rw [zr_Ledger_settleAnswered, if_pos h14, if_pos h25, if_neg h34, if_pos h56]) dd_Ledger_settleAnswered_66
      · refine lv_iconst (v := nI 1) F.1 F.2.1 dd_Ledger_settleAnswered_37 (by decide) ?_
        refine lv_goto F.1 F.2.1 dd_Ledger_settleAnswered_38 (tgt := 42) rfl ?_
        refine lv_istore F.1 F.2.1 dd_Ledger_settleAnswered_42 hl (by decide) (lv' := [(6, .int (nI 1)), (5, .ref (b0 + zp_o 18 i c)), (0, .ref (b0 + zp_o 2 i 0)), (1, .ref (b0 + zp_o 2 o 0)), (2, .int (nI c)), (3, .int (nI (j + 1))), (4, .int h)]) rfl (fun ls hl => ?_)
        refine lv_aload F.1 F.2.1 dd_Ledger_settleAnswered_44 (lv_at hl 1 rfl) ?_
        refine zc_gN (t := 18) (i := i) (j := c) F hE hP ⟨by decide, (show i < 2 by omega), (show c < 3 by omega)⟩ rfl rfl zi_End 0 (by decide) rfl wf_Ledger_121 rfl dd_Ledger_settleAnswered_46 ?_
        refine lv_iload_n F.1 F.2.1 dd_Ledger_settleAnswered_49 rfl (lv_at hl 5 rfl) ?_
        refine lv_iconst (v := nI 1) F.1 F.2.1 dd_Ledger_settleAnswered_50 (by decide) ?_
        refine zn_isub F dd_Ledger_settleAnswered_51 (by omega) ?_
        refine zn_top (y := nI j) (congrArg nI (by omega)) ?_
        refine zc_aald (t := 19) (i := i) (j := c) (k := j) (N := 12) (z := 5) (a := (b0 + zp_o 20 i (12 * c + j))) F hE hP ⟨by decide, (show i < 2 by omega), (show c < 3 by omega)⟩ rfl rfl rfl (by omega) (by decide) rfl dd_Ledger_settleAnswered_52 ?_
        refine zc_gN (t := 20) (i := i) (j := 12 * c + j) F hE hP ⟨by decide, (show i < 2 by omega), (show 12 * c + j < 36 by omega)⟩ rfl rfl zi_Packet 6 (by decide) rfl wf_Ledger_187 rfl dd_Ledger_settleAnswered_53 ?_
        refine lv_if_ne F.1 F.2.1 dd_Ledger_settleAnswered_56 (tgt := 64) rfl (fun h56 => ?_) (fun h56 => ?_)
        · refine lv_bipush (v := (-8)) F.1 F.2.1 dd_Ledger_settleAnswered_64 (by decide) ?_
          exact zw_iret F hr hlk hP hS (congrArg (zp_p G b0) (by rw [zu_Ledger_settleAnswered, if_pos h14, if_pos h25, if_pos h34, if_neg h56])) (by rw [zr_Ledger_settleAnswered, if_pos h14, if_pos h25, if_pos h34, if_neg h56]) dd_Ledger_settleAnswered_66
        · refine lv_iload F.1 F.2.1 dd_Ledger_settleAnswered_59 (lv_at hl 0 rfl) ?_
          refine lv_if_ne F.1 F.2.1 dd_Ledger_settleAnswered_61 (tgt := 67) rfl (fun h61 => ?_) (fun h61 => absurd h61 (by decide))
          refine lv_iload_n F.1 F.2.1 dd_Ledger_settleAnswered_67 rfl (lv_at hl 4 rfl) ?_
          refine lv_iload_n F.1 F.2.1 dd_Ledger_settleAnswered_68 rfl (lv_at hl 5 rfl) ?_
          refine zw_goi (zw_rS F hE hP (zc_Store_answerSlot lc G b0 S c j) zk_Store_answerSlot za_Store_answerSlot wl_Ledger_181 ⟨rfl, rfl, Nat.le_of_ble_eq_true rfl, Nat.le_of_ble_eq_true rfl⟩ hl.1 rfl (Nat.le_of_ble_eq_true rfl) ⟨Nat.zero_le _, Nat.zero_le _⟩ dd_Ledger_settleAnswered_69) hS (fun _ h => h) (fun H locs hP _ _ hS => ?_)
          refine lv_istore F.1 F.2.1 dd_Ledger_settleAnswered_72 hl (by decide) (lv' := [(7, .int (nI (78 + 12 * c + j))), (6, .int (nI 1)), (5, .ref (b0 + zp_o 18 i c)), (0, .ref (b0 + zp_o 2 i 0)), (1, .ref (b0 + zp_o 2 o 0)), (2, .int (nI c)), (3, .int (nI (j + 1))), (4, .int h)]) rfl (fun ls hl => ?_)
          refine lv_aload_n F.1 F.2.1 dd_Ledger_settleAnswered_74 rfl (lv_at hl 4 rfl) ?_
          refine zc_gF (t := 2) (i := o) (j := 0) F hE hP ⟨by decide, (show o < 2 by omega), (show 0 < 1 by omega)⟩ rfl rfl zi_Ledger 0 (by decide) rfl wf_Ledger_12 rfl dd_Ledger_settleAnswered_75 ?_
          refine lv_iload F.1 F.2.1 dd_Ledger_settleAnswered_78 (lv_at hl 0 rfl) ?_
          refine zw_goi (zw_rV F hE hP (zc_Store_has lc G b0 S o 0 (78 + 12 * c + j) (by first | omega | assumption) (by first | omega | assumption) (by first | omega | assumption) (hB _ _ _)) zk_Store_has za_Store_has zb_Store_has wl_Ledger_89 ⟨rfl, rfl, Nat.le_of_ble_eq_true rfl, Nat.le_of_ble_eq_true rfl⟩ (zc_recv (t := 3) (i := o) (j := 0) hE hP ⟨by decide, (show o < 2 by omega), (show 0 < 9 by omega)⟩ rfl rfl) hl.1 rfl (Nat.le_of_ble_eq_true rfl) ⟨Nat.zero_le _, Nat.zero_le _⟩ dd_Ledger_settleAnswered_80) hS (fun _ h => h) (fun H locs hP _ _ hS => ?_)
          refine lv_if_ne F.1 F.2.1 dd_Ledger_settleAnswered_83 (tgt := 89) rfl (fun h83 => ?_) (fun h83 => ?_)
          · refine lv_aload_n F.1 F.2.1 dd_Ledger_settleAnswered_89 rfl (lv_at hl 4 rfl) ?_
            refine zc_gF (t := 2) (i := o) (j := 0) F hE hP ⟨by decide, (show o < 2 by omega), (show 0 < 1 by omega)⟩ rfl rfl zi_Ledger 0 (by decide) rfl wf_Ledger_12 rfl dd_Ledger_settleAnswered_90 ?_
            refine lv_iload F.1 F.2.1 dd_Ledger_settleAnswered_93 (lv_at hl 0 rfl) ?_
            refine zw_goi (zw_rV F hE hP (zc_Store_valueIn lc G b0 S o 0 (78 + 12 * c + j) (by first | omega | assumption) (by first | omega | assumption) (by first | omega | assumption)) zk_Store_valueIn za_Store_valueIn zb_Store_valueIn wl_Ledger_67 ⟨rfl, rfl, Nat.le_of_ble_eq_true rfl, Nat.le_of_ble_eq_true rfl⟩ (zc_recv (t := 3) (i := o) (j := 0) hE hP ⟨by decide, (show o < 2 by omega), (show 0 < 9 by omega)⟩ rfl rfl) hl.1 rfl (Nat.le_of_ble_eq_true rfl) ⟨Nat.zero_le _, Nat.zero_le _⟩ dd_Ledger_settleAnswered_95) hS (fun _ h => h) (fun H locs hP _ _ hS => ?_)
            refine lv_istore F.1 F.2.1 dd_Ledger_settleAnswered_98 hl (by decide) (lv' := [(8, .int (S 4 o 0 (78 + 12 * c + j))), (7, .int (nI (78 + 12 * c + j))), (6, .int (nI 1)), (5, .ref (b0 + zp_o 18 i c)), (0, .ref (b0 + zp_o 2 i 0)), (1, .ref (b0 + zp_o 2 o 0)), (2, .int (nI c)), (3, .int (nI (j + 1))), (4, .int h)]) rfl (fun ls hl => ?_)
            refine lv_aload_n F.1 F.2.1 dd_Ledger_settleAnswered_100 rfl (lv_at hl 4 rfl) ?_
            refine lv_aload_n F.1 F.2.1 dd_Ledger_settleAnswered_101 rfl (lv_at hl 5 rfl) ?_
            refine lv_iload F.1 F.2.1 dd_Ledger_settleAnswered_102 (lv_at hl 8 rfl) ?_
            refine lv_iload F.1 F.2.1 dd_Ledger_settleAnswered_104 (lv_at hl 1 rfl) ?_
            refine lv_iload F.1 F.2.1 dd_Ledger_settleAnswered_106 (lv_at hl 0 rfl) ?_
            refine zw_goi (zw_rV F hE hP (zc_Ledger_proveValue lc G b0 S i o h (78 + 12 * c + j) (S 4 o 0 (78 + 12 * c + j)) (by first | omega | assumption) (by first | omega | assumption) (by first | omega | assumption) (by assumption)) zk_Ledger_proveValue za_Ledger_proveValue zb_Ledger_proveValue wl_Ledger_92 ⟨rfl, rfl, Nat.le_of_ble_eq_true rfl, Nat.le_of_ble_eq_true rfl⟩ (zc_recv (t := 2) (i := i) (j := 0) hE hP ⟨by decide, (show i < 2 by omega), (show 0 < 1 by omega)⟩ rfl rfl) hl.1 rfl (Nat.le_of_ble_eq_true rfl) ⟨Nat.zero_le _, Nat.zero_le _⟩ dd_Ledger_settleAnswered_108) hS (fun _ h => h) (fun H locs hP _ _ hS => ?_)
            refine lv_istore F.1 F.2.1 dd_Ledger_settleAnswered_111 hl (by decide) (lv' := [(9, .int (zs_pv S i o h (78 + 12 * c + j) (S 4 o 0 (78 + 12 * c + j)))), (8, .int (S 4 o 0 (78 + 12 * c + j))), (7, .int (nI (78 + 12 * c + j))), (6, .int (nI 1)), (5, .ref (b0 + zp_o 18 i c)), (0, .ref (b0 + zp_o 2 i 0)), (1, .ref (b0 + zp_o 2 o 0)), (2, .int (nI c)), (3, .int (nI (j + 1))), (4, .int h)]) rfl (fun ls hl => ?_)
            refine lv_iload F.1 F.2.1 dd_Ledger_settleAnswered_113 (lv_at hl 0 rfl) ?_
            refine lv_if_eq F.1 F.2.1 dd_Ledger_settleAnswered_115 (tgt := 121) rfl (fun h115 => ?_) (fun h115 => ?_)
            · refine lv_aload_n F.1 F.2.1 dd_Ledger_settleAnswered_121 rfl (lv_at hl 5 rfl) ?_
              refine lv_iload_n F.1 F.2.1 dd_Ledger_settleAnswered_122 rfl (lv_at hl 7 rfl) ?_
              refine zw_goi (zw_rV F hE hP (zc_Ledger_isOrdered lc G b0 S i c (by first | omega | assumption) (by first | omega | assumption)) zk_Ledger_isOrdered za_Ledger_isOrdered zb_Ledger_isOrdered wl_Ledger_172 ⟨rfl, rfl, Nat.le_of_ble_eq_true rfl, Nat.le_of_ble_eq_true rfl⟩ (zc_recv (t := 2) (i := i) (j := 0) hE hP ⟨by decide, (show i < 2 by omega), (show 0 < 1 by omega)⟩ rfl rfl) hl.1 rfl (Nat.le_of_ble_eq_true rfl) ⟨Nat.zero_le _, Nat.zero_le _⟩ dd_Ledger_settleAnswered_123) hS (fun _ h => h) (fun H locs hP _ _ hS => ?_)
              refine zn_beq F dd_Ledger_settleAnswered_126 (tgt := 137) rfl (fun h126 => ?_) (fun h126 => ?_)
              · refine lv_aload_n F.1 F.2.1 dd_Ledger_settleAnswered_137 rfl (lv_at hl 5 rfl) ?_
                refine lv_iload_n F.1 F.2.1 dd_Ledger_settleAnswered_138 rfl (lv_at hl 7 rfl) ?_
                refine lv_iload_n F.1 F.2.1 dd_Ledger_settleAnswered_139 rfl (lv_at hl 8 rfl) ?_
                refine lv_iload F.1 F.2.1 dd_Ledger_settleAnswered_140 (lv_at hl 1 rfl) ?_
                refine zw_gov (zw_rV F hE hP (zc_Ledger_settle lc G b0 S i c j (S 4 o 0 (78 + 12 * c + j)) (by first | omega | assumption) (by first | omega | assumption) (by first | omega | assumption) (by first | exact hpk | simpa [zs_u] using hpk)) zk_Ledger_settle za_Ledger_settle zb_Ledger_settle wl_Ledger_190 ⟨rfl, rfl, Nat.le_of_ble_eq_true rfl, Nat.le_of_ble_eq_true rfl⟩ (zc_recv (t := 2) (i := i) (j := 0) hE hP ⟨by decide, (show i < 2 by omega), (show 0 < 1 by omega)⟩ rfl rfl) hl.1 rfl (Nat.le_of_ble_eq_true rfl) ⟨Nat.zero_le _, Nat.zero_le _⟩ dd_Ledger_settleAnswered_142) hS (fun _ h => h) (fun H locs hP _ _ hS => ?_)
                refine lv_iload F.1 F.2.1 dd_Ledger_settleAnswered_145 (lv_at hl 1 rfl) ?_
                exact zw_iret F hr hlk hP hS (congrArg (zp_p G b0) (by rw [zu_Ledger_settleAnswered, if_pos h14, if_pos h25, if_pos h34, if_pos h56, if_neg h83, if_pos h115, if_neg h126])) (by rw [zr_Ledger_settleAnswered, if_pos h14, if_pos h25, if_pos h34, if_pos h56, if_neg h83, if_pos h115, if_neg h126]) dd_Ledger_settleAnswered_147
              · refine lv_aload F.1 F.2.1 dd_Ledger_settleAnswered_129 (lv_at hl 4 rfl) ?_
                refine lv_iload_n F.1 F.2.1 dd_Ledger_settleAnswered_131 rfl (lv_at hl 8 rfl) ?_
                refine lv_iconst (v := nI 1) F.1 F.2.1 dd_Ledger_settleAnswered_132 (by decide) ?_
                refine zn_iadd F dd_Ledger_settleAnswered_133 ?_
                refine zc_pN (t := 18) (i := i) (j := c) (kf := 1) F hE hP hS (fun _ h => h) ⟨by decide, (show i < 2 by omega), (show c < 3 by omega)⟩ rfl rfl zi_End zy_End zj_End zl_End 2 (by decide) rfl rfl wf_Ledger_184 (by decide +kernel) (Nat.le_of_ble_eq_true rfl) rfl dd_Ledger_settleAnswered_134 (fun H locs hP hS => ?_)
                refine lv_aload_n F.1 F.2.1 dd_Ledger_settleAnswered_137 rfl (lv_at hl 5 rfl) ?_
                refine lv_iload_n F.1 F.2.1 dd_Ledger_settleAnswered_138 rfl (lv_at hl 7 rfl) ?_
                refine lv_iload_n F.1 F.2.1 dd_Ledger_settleAnswered_139 rfl (lv_at hl 8 rfl) ?_
                refine lv_iload F.1 F.2.1 dd_Ledger_settleAnswered_140 (lv_at hl 1 rfl) ?_
                refine zw_gov (zw_rV F hE hP (zc_Ledger_settle lc G b0 (zs_u S 18 i c 1 (nI ((j + 1) + 1))) i c j (S 4 o 0 (78 + 12 * c + j)) (by first | omega | assumption) (by first | omega | assumption) (by first | omega | assumption) (by first | exact hpk | simpa [zs_u] using hpk)) zk_Ledger_settle za_Ledger_settle zb_Ledger_settle wl_Ledger_190 ⟨rfl, rfl, Nat.le_of_ble_eq_true rfl, Nat.le_of_ble_eq_true rfl⟩ (zc_recv (t := 2) (i := i) (j := 0) hE hP ⟨by decide, (show i < 2 by omega), (show 0 < 1 by omega)⟩ rfl rfl) hl.1 rfl (Nat.le_of_ble_eq_true rfl) ⟨Nat.zero_le _, Nat.zero_le _⟩ dd_Ledger_settleAnswered_142) hS (fun _ h => h) (fun H locs hP _ _ hS => ?_)
                refine lv_iload F.1 F.2.1 dd_Ledger_settleAnswered_145 (lv_at hl 1 rfl) ?_
                exact zw_iret F hr hlk hP hS (congrArg (zp_p G b0) (by rw [zu_Ledger_settleAnswered, if_pos h14, if_pos h25, if_pos h34, if_pos h56, if_neg h83, if_pos h115, if_pos h126])) (by rw [zr_Ledger_settleAnswered, if_pos h14, if_pos h25, if_pos h34, if_pos h56, if_neg h83, if_pos h115, if_pos h126]) dd_Ledger_settleAnswered_147
            · refine lv_iload F.1 F.2.1 dd_Ledger_settleAnswered_118 (lv_at hl 0 rfl) ?_
              exact zw_iret F hr hlk hP hS (congrArg (zp_p G b0) (by rw [zu_Ledger_settleAnswered, if_pos h14, if_pos h25, if_pos h34, if_pos h56, if_neg h83, if_neg h115])) (by rw [zr_Ledger_settleAnswered, if_pos h14, if_pos h25, if_pos h34, if_pos h56, if_neg h83, if_neg h115]) dd_Ledger_settleAnswered_120
          · refine lv_bipush (v := (-5)) F.1 F.2.1 dd_Ledger_settleAnswered_86 (by decide) ?_
            exact zw_iret F hr hlk hP hS (congrArg (zp_p G b0) (by rw [zu_Ledger_settleAnswered, if_pos h14, if_pos h25, if_pos h34, if_pos h56, if_pos h83])) (by rw [zr_Ledger_settleAnswered, if_pos h14, if_pos h25, if_pos h34, if_pos h56, if_pos h83]) dd_Ledger_settleAnswered_88
  · refine lv_bipush (v := (-2)) F.1 F.2.1 dd_Ledger_settleAnswered_17 (by decide) ?_
    exact zw_iret F hr hlk hP hS (congrArg (zp_p G b0) (by rw [zu_Ledger_settleAnswered, if_neg h14])) (by rw [zr_Ledger_settleAnswered, if_neg h14]) dd_Ledger_settleAnswered_19
