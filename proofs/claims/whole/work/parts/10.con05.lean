set_option maxHeartbeats 4000000 in
set_option maxRecDepth 100000 in
theorem zc_TL_packet_bad (lc : Launch) (G : zw_G) (b0 : Nat) (S : zs_S) (l : Int32) (d : Int32) (x : Int32) (hb : ¬ (zs_v l 2 ∧ zs_v d 3)) : zw_M lc ym_TL_packet bm_TL_packet 4 (some .int) { frames := 3, cells := 0, slots := 0, locals := 64 } G b0 176 (zp_p G b0 S) [.ref (b0 + zp_o 0 0 0), .int l, .int d, .int x] (zw_Qi G b0 176 (zp_p G b0 S) (-1)) := by
  refine zw_of (by decide) (Nat.le_of_ble_eq_true rfl) ?_
  intro p e s m below meth cx ls F hr hlk hE hP hS hl
  have hl : lv_has ls 4 [(0, .ref (b0 + zp_o 0 0 0)), (1, .int l), (2, .int d), (3, .int x)] := hl
  refine lv_aload_n F.1 F.2.1 dd_TL_packet_0 rfl (lv_at hl 0 rfl) ?_
  refine lv_iload_n F.1 F.2.1 dd_TL_packet_1 rfl (lv_at hl 1 rfl) ?_
  refine lv_iload_n F.1 F.2.1 dd_TL_packet_2 rfl (lv_at hl 2 rfl) ?_
  refine lv_iload_n F.1 F.2.1 dd_TL_packet_3 rfl (lv_at hl 3 rfl) ?_
  refine zw_goi (zw_rV F hE hP (zc_TL_isPacket_bad lc G b0 S l d x (by first | omega | assumption)) zk_TL_isPacket za_TL_isPacket zb_TL_isPacket wl_TL_79 ⟨rfl, rfl, Nat.le_of_ble_eq_true rfl, Nat.le_of_ble_eq_true rfl⟩ (zc_recv (t := 0) (i := 0) (j := 0) hE hP ⟨by decide, (show 0 < 1 by omega), (show 0 < 1 by omega)⟩ rfl rfl) hl.1 rfl (Nat.le_of_ble_eq_true rfl) ⟨Nat.zero_le _, Nat.zero_le _⟩ dd_TL_packet_4) hS (fun _ h => h) (fun H locs hP _ _ hS => ?_)
  refine lv_if_eq F.1 F.2.1 dd_TL_packet_7 (tgt := 34) rfl (fun h7 => ?_) (fun h7 => absurd h7 (by decide))
  refine lv_iconst (v := (-1)) F.1 F.2.1 dd_TL_packet_34 (by decide) ?_
  exact zw_iret F hr hlk hP hS rfl rfl dd_TL_packet_35
set_option maxHeartbeats 4000000 in
set_option maxRecDepth 100000 in
theorem zc_TL_packet_bad2 (lc : Launch) (G : zw_G) (b0 : Nat) (S : zs_S) (i : Nat) (c : Nat) (x : Int32) (hi : i < 2) (hc : c < 3) (hb : x < nI 1 ∨ S 18 i c 0 < x) : zw_M lc ym_TL_packet bm_TL_packet 4 (some .int) { frames := 3, cells := 0, slots := 0, locals := 64 } G b0 176 (zp_p G b0 S) [.ref (b0 + zp_o 0 0 0), .int (nI i), .int (nI c), .int x] (zw_Qi G b0 176 (zp_p G b0 S) (-1)) := by
  refine zw_of (by decide) (Nat.le_of_ble_eq_true rfl) ?_
  intro p e s m below meth cx ls F hr hlk hE hP hS hl
  have hl : lv_has ls 4 [(0, .ref (b0 + zp_o 0 0 0)), (1, .int (nI i)), (2, .int (nI c)), (3, .int x)] := hl
  refine lv_aload_n F.1 F.2.1 dd_TL_packet_0 rfl (lv_at hl 0 rfl) ?_
  refine lv_iload_n F.1 F.2.1 dd_TL_packet_1 rfl (lv_at hl 1 rfl) ?_
  refine lv_iload_n F.1 F.2.1 dd_TL_packet_2 rfl (lv_at hl 2 rfl) ?_
  refine lv_iload_n F.1 F.2.1 dd_TL_packet_3 rfl (lv_at hl 3 rfl) ?_
  refine zw_goi (zw_rV F hE hP (zc_TL_isPacket_bad2 lc G b0 S i c x (by first | omega | assumption) (by first | omega | assumption) (by assumption)) zk_TL_isPacket za_TL_isPacket zb_TL_isPacket wl_TL_79 ⟨rfl, rfl, Nat.le_of_ble_eq_true rfl, Nat.le_of_ble_eq_true rfl⟩ (zc_recv (t := 0) (i := 0) (j := 0) hE hP ⟨by decide, (show 0 < 1 by omega), (show 0 < 1 by omega)⟩ rfl rfl) hl.1 rfl (Nat.le_of_ble_eq_true rfl) ⟨Nat.zero_le _, Nat.zero_le _⟩ dd_TL_packet_4) hS (fun _ h => h) (fun H locs hP _ _ hS => ?_)
  refine lv_if_eq F.1 F.2.1 dd_TL_packet_7 (tgt := 34) rfl (fun h7 => ?_) (fun h7 => absurd h7 (by decide))
  refine lv_iconst (v := (-1)) F.1 F.2.1 dd_TL_packet_34 (by decide) ?_
  exact zw_iret F hr hlk hP hS rfl rfl dd_TL_packet_35
set_option maxHeartbeats 4000000 in
set_option maxRecDepth 100000 in
theorem zc_TL_limit (lc : Launch) (G : zw_G) (b0 : Nat) (S : zs_S) (i : Nat) (c : Nat) (j : Nat) (hi : i < 2) (hc : c < 3) (hn : S 18 i c 0 = nI (zs_n (S 18 i c 0))) (hn2 : zs_n (S 18 i c 0) ≤ 12) (hjn : j + 1 ≤ zs_n (S 18 i c 0)) : zw_M lc ym_TL_limit bm_TL_limit 4 (some .int) { frames := 3, cells := 0, slots := 0, locals := 64 } G b0 176 (zp_p G b0 S) [.ref (b0 + zp_o 0 0 0), .int (nI i), .int (nI c), .int (nI (j + 1))] (zw_Qi G b0 176 (zp_p G b0 S) (S 20 i (12 * c + j) 4)) := by
  refine zw_of (by decide) (Nat.le_of_ble_eq_true rfl) ?_
  intro p e s m below meth cx ls F hr hlk hE hP hS hl
  have hl : lv_has ls 4 [(0, .ref (b0 + zp_o 0 0 0)), (1, .int (nI i)), (2, .int (nI c)), (3, .int (nI (j + 1)))] := hl
  refine lv_aload_n F.1 F.2.1 dd_TL_limit_0 rfl (lv_at hl 0 rfl) ?_
  refine lv_iload_n F.1 F.2.1 dd_TL_limit_1 rfl (lv_at hl 1 rfl) ?_
  refine lv_iload_n F.1 F.2.1 dd_TL_limit_2 rfl (lv_at hl 2 rfl) ?_
  refine lv_iload_n F.1 F.2.1 dd_TL_limit_3 rfl (lv_at hl 3 rfl) ?_
  refine zw_goi (zw_rV F hE hP (zc_TL_isPacket lc G b0 S i c j (by first | omega | assumption) (by first | omega | assumption) (by assumption) (by assumption) (by assumption)) zk_TL_isPacket za_TL_isPacket zb_TL_isPacket wl_TL_79 ⟨rfl, rfl, Nat.le_of_ble_eq_true rfl, Nat.le_of_ble_eq_true rfl⟩ (zc_recv (t := 0) (i := 0) (j := 0) hE hP ⟨by decide, (show 0 < 1 by omega), (show 0 < 1 by omega)⟩ rfl rfl) hl.1 rfl (Nat.le_of_ble_eq_true rfl) ⟨Nat.zero_le _, Nat.zero_le _⟩ dd_TL_limit_4) hS (fun _ h => h) (fun H locs hP _ _ hS => ?_)
  refine lv_if_eq F.1 F.2.1 dd_TL_limit_7 (tgt := 34) rfl (fun h7 => absurd h7 (by decide)) (fun h7 => ?_)
  refine lv_aload_n F.1 F.2.1 dd_TL_limit_10 rfl (lv_at hl 0 rfl) ?_
  refine zc_gF (t := 0) (i := 0) (j := 0) F hE hP ⟨by decide, (show 0 < 1 by omega), (show 0 < 1 by omega)⟩ rfl rfl zi_TL 1 (by decide) rfl wf_TL_11 rfl dd_TL_limit_11 ?_
  refine lv_iload_n F.1 F.2.1 dd_TL_limit_14 rfl (lv_at hl 1 rfl) ?_
  refine zc_aald (t := 1) (i := 0) (j := 0) (k := i) (N := 2) (z := 2) (a := (b0 + zp_o 2 i 0)) F hE hP ⟨by decide, (show 0 < 1 by omega), (show 0 < 1 by omega)⟩ rfl rfl rfl (by omega) (by decide) rfl dd_TL_limit_15 ?_
  refine zc_gN (t := 2) (i := i) (j := 0) F hE hP ⟨by decide, (show i < 2 by omega), (show 0 < 1 by omega)⟩ rfl rfl zi_Ledger 5 (by decide) rfl wf_TL_116 rfl dd_TL_limit_16 ?_
  refine lv_iload_n F.1 F.2.1 dd_TL_limit_19 rfl (lv_at hl 2 rfl) ?_
  refine zc_aald (t := 17) (i := i) (j := 0) (k := c) (N := 3) (z := 4) (a := (b0 + zp_o 18 i c)) F hE hP ⟨by decide, (show i < 2 by omega), (show 0 < 1 by omega)⟩ rfl rfl rfl (by omega) (by decide) rfl dd_TL_limit_20 ?_
  refine zc_gN (t := 18) (i := i) (j := c) F hE hP ⟨by decide, (show i < 2 by omega), (show c < 3 by omega)⟩ rfl rfl zi_End 0 (by decide) rfl wf_TL_131 rfl dd_TL_limit_21 ?_
  refine lv_iload_n F.1 F.2.1 dd_TL_limit_24 rfl (lv_at hl 3 rfl) ?_
  refine lv_iconst (v := nI 1) F.1 F.2.1 dd_TL_limit_25 (by decide) ?_
  refine zn_isub F dd_TL_limit_26 (by omega) ?_
  refine zn_top (y := nI j) (congrArg nI (by omega)) ?_
  refine zc_aald (t := 19) (i := i) (j := c) (k := j) (N := 12) (z := 5) (a := (b0 + zp_o 20 i (12 * c + j))) F hE hP ⟨by decide, (show i < 2 by omega), (show c < 3 by omega)⟩ rfl rfl rfl (by omega) (by decide) rfl dd_TL_limit_27 ?_
  refine zc_gN (t := 20) (i := i) (j := 12 * c + j) F hE hP ⟨by decide, (show i < 2 by omega), (show 12 * c + j < 36 by omega)⟩ rfl rfl zi_Packet 4 (by decide) rfl wf_TL_140 rfl dd_TL_limit_28 ?_
  refine lv_goto F.1 F.2.1 dd_TL_limit_31 (tgt := 35) rfl ?_
  exact zw_iret F hr hlk hP hS rfl rfl dd_TL_limit_35
set_option maxHeartbeats 4000000 in
set_option maxRecDepth 100000 in
theorem zc_TL_limit_bad (lc : Launch) (G : zw_G) (b0 : Nat) (S : zs_S) (l : Int32) (d : Int32) (x : Int32) (hb : ¬ (zs_v l 2 ∧ zs_v d 3)) : zw_M lc ym_TL_limit bm_TL_limit 4 (some .int) { frames := 3, cells := 0, slots := 0, locals := 64 } G b0 176 (zp_p G b0 S) [.ref (b0 + zp_o 0 0 0), .int l, .int d, .int x] (zw_Qi G b0 176 (zp_p G b0 S) (-1)) := by
  refine zw_of (by decide) (Nat.le_of_ble_eq_true rfl) ?_
  intro p e s m below meth cx ls F hr hlk hE hP hS hl
  have hl : lv_has ls 4 [(0, .ref (b0 + zp_o 0 0 0)), (1, .int l), (2, .int d), (3, .int x)] := hl
  refine lv_aload_n F.1 F.2.1 dd_TL_limit_0 rfl (lv_at hl 0 rfl) ?_
  refine lv_iload_n F.1 F.2.1 dd_TL_limit_1 rfl (lv_at hl 1 rfl) ?_
  refine lv_iload_n F.1 F.2.1 dd_TL_limit_2 rfl (lv_at hl 2 rfl) ?_
  refine lv_iload_n F.1 F.2.1 dd_TL_limit_3 rfl (lv_at hl 3 rfl) ?_
  refine zw_goi (zw_rV F hE hP (zc_TL_isPacket_bad lc G b0 S l d x (by first | omega | assumption)) zk_TL_isPacket za_TL_isPacket zb_TL_isPacket wl_TL_79 ⟨rfl, rfl, Nat.le_of_ble_eq_true rfl, Nat.le_of_ble_eq_true rfl⟩ (zc_recv (t := 0) (i := 0) (j := 0) hE hP ⟨by decide, (show 0 < 1 by omega), (show 0 < 1 by omega)⟩ rfl rfl) hl.1 rfl (Nat.le_of_ble_eq_true rfl) ⟨Nat.zero_le _, Nat.zero_le _⟩ dd_TL_limit_4) hS (fun _ h => h) (fun H locs hP _ _ hS => ?_)
  refine lv_if_eq F.1 F.2.1 dd_TL_limit_7 (tgt := 34) rfl (fun h7 => ?_) (fun h7 => absurd h7 (by decide))
  refine lv_iconst (v := (-1)) F.1 F.2.1 dd_TL_limit_34 (by decide) ?_
  exact zw_iret F hr hlk hP hS rfl rfl dd_TL_limit_35
set_option maxHeartbeats 4000000 in
set_option maxRecDepth 100000 in
theorem zc_TL_limit_bad2 (lc : Launch) (G : zw_G) (b0 : Nat) (S : zs_S) (i : Nat) (c : Nat) (x : Int32) (hi : i < 2) (hc : c < 3) (hb : x < nI 1 ∨ S 18 i c 0 < x) : zw_M lc ym_TL_limit bm_TL_limit 4 (some .int) { frames := 3, cells := 0, slots := 0, locals := 64 } G b0 176 (zp_p G b0 S) [.ref (b0 + zp_o 0 0 0), .int (nI i), .int (nI c), .int x] (zw_Qi G b0 176 (zp_p G b0 S) (-1)) := by
  refine zw_of (by decide) (Nat.le_of_ble_eq_true rfl) ?_
  intro p e s m below meth cx ls F hr hlk hE hP hS hl
  have hl : lv_has ls 4 [(0, .ref (b0 + zp_o 0 0 0)), (1, .int (nI i)), (2, .int (nI c)), (3, .int x)] := hl
  refine lv_aload_n F.1 F.2.1 dd_TL_limit_0 rfl (lv_at hl 0 rfl) ?_
  refine lv_iload_n F.1 F.2.1 dd_TL_limit_1 rfl (lv_at hl 1 rfl) ?_
  refine lv_iload_n F.1 F.2.1 dd_TL_limit_2 rfl (lv_at hl 2 rfl) ?_
  refine lv_iload_n F.1 F.2.1 dd_TL_limit_3 rfl (lv_at hl 3 rfl) ?_
  refine zw_goi (zw_rV F hE hP (zc_TL_isPacket_bad2 lc G b0 S i c x (by first | omega | assumption) (by first | omega | assumption) (by assumption)) zk_TL_isPacket za_TL_isPacket zb_TL_isPacket wl_TL_79 ⟨rfl, rfl, Nat.le_of_ble_eq_true rfl, Nat.le_of_ble_eq_true rfl⟩ (zc_recv (t := 0) (i := 0) (j := 0) hE hP ⟨by decide, (show 0 < 1 by omega), (show 0 < 1 by omega)⟩ rfl rfl) hl.1 rfl (Nat.le_of_ble_eq_true rfl) ⟨Nat.zero_le _, Nat.zero_le _⟩ dd_TL_limit_4) hS (fun _ h => h) (fun H locs hP _ _ hS => ?_)
  refine lv_if_eq F.1 F.2.1 dd_TL_limit_7 (tgt := 34) rfl (fun h7 => ?_) (fun h7 => absurd h7 (by decide))
  refine lv_iconst (v := (-1)) F.1 F.2.1 dd_TL_limit_34 (by decide) ?_
  exact zw_iret F hr hlk hP hS rfl rfl dd_TL_limit_35
set_option maxHeartbeats 4000000 in
set_option maxRecDepth 100000 in
theorem zc_TL_receive (lc : Launch) (G : zw_G) (b0 : Nat) (S : zs_S) (i : Nat) (c : Nat) (j : Nat) (h : Int32) (w : Int32) (hi : i < 2) (hc : c < 3) (hn : S 18 (1 - i) c 0 = nI (zs_n (S 18 (1 - i) c 0))) (hn2 : zs_n (S 18 (1 - i) c 0) ≤ 12) (hjn : j + 1 ≤ zs_n (S 18 (1 - i) c 0)) (hB : zs_B S) (hpk : zs_PK S (1 - i) (12 * c + j)) (hv : S 10 i 0 0 = nI (zs_n (S 10 i 0 0))) (hv2 : zs_n (S 10 i 0 0) ≤ 5) : zw_M lc ym_TL_receive bm_TL_receive 6 (some .int) { frames := 5, cells := 0, slots := 0, locals := 115 } G b0 176 (zp_p G b0 S) [.ref (b0 + zp_o 0 0 0), .int (nI i), .int (nI c), .int (nI (j + 1)), .int h, .int w] (zw_Qi G b0 176 (zp_p G b0 (zu_Ledger_receivePacket S i (1 - i) c j h w)) (zr_Ledger_receivePacket S i (1 - i) c j h w)) := by
  refine zw_of (by decide) (Nat.le_of_ble_eq_true rfl) ?_
  intro p e s m below meth cx ls F hr hlk hE hP hS hl
  have hl : lv_has ls 6 [(0, .ref (b0 + zp_o 0 0 0)), (1, .int (nI i)), (2, .int (nI c)), (3, .int (nI (j + 1))), (4, .int h), (5, .int w)] := hl
  refine lv_iload_n F.1 F.2.1 dd_TL_receive_0 rfl (lv_at hl 1 rfl) ?_
  refine lv_iload_n F.1 F.2.1 dd_TL_receive_1 rfl (lv_at hl 2 rfl) ?_
  refine zw_goi (zw_rS F hE hP (zc_TL_isEnd lc G b0 S i c (by first | omega | assumption) (by first | omega | assumption)) zk_TL_isEnd za_TL_isEnd wl_TL_47 ⟨rfl, rfl, Nat.le_of_ble_eq_true rfl, Nat.le_of_ble_eq_true rfl⟩ hl.1 rfl (Nat.le_of_ble_eq_true rfl) ⟨Nat.zero_le _, Nat.zero_le _⟩ dd_TL_receive_2) hS (fun _ h => h) (fun H locs hP _ _ hS => ?_)
  refine lv_if_eq F.1 F.2.1 dd_TL_receive_5 (tgt := 20) rfl (fun h5 => absurd h5 (by decide)) (fun h5 => ?_)
  refine lv_aload_n F.1 F.2.1 dd_TL_receive_8 rfl (lv_at hl 0 rfl) ?_
  refine lv_iconst (v := nI 1) F.1 F.2.1 dd_TL_receive_9 (by decide) ?_
  refine lv_iload_n F.1 F.2.1 dd_TL_receive_10 rfl (lv_at hl 1 rfl) ?_
  refine zn_isub F dd_TL_receive_11 (by omega) ?_
  refine lv_iload_n F.1 F.2.1 dd_TL_receive_12 rfl (lv_at hl 2 rfl) ?_
  refine lv_iload_n F.1 F.2.1 dd_TL_receive_13 rfl (lv_at hl 3 rfl) ?_
  refine zw_goi (zw_rV F hE hP (zc_TL_isPacket lc G b0 S (1 - i) c j (by first | omega | assumption) (by first | omega | assumption) (by assumption) (by assumption) (by assumption)) zk_TL_isPacket za_TL_isPacket zb_TL_isPacket wl_TL_79 ⟨rfl, rfl, Nat.le_of_ble_eq_true rfl, Nat.le_of_ble_eq_true rfl⟩ (zc_recv (t := 0) (i := 0) (j := 0) hE hP ⟨by decide, (show 0 < 1 by omega), (show 0 < 1 by omega)⟩ rfl rfl) hl.1 rfl (Nat.le_of_ble_eq_true rfl) ⟨Nat.zero_le _, Nat.zero_le _⟩ dd_TL_receive_14) hS (fun _ h => h) (fun H locs hP _ _ hS => ?_)
  refine lv_if_ne F.1 F.2.1 dd_TL_receive_17 (tgt := 22) rfl (fun h17 => ?_) (fun h17 => absurd h17 (by decide))
  refine lv_aload_n F.1 F.2.1 dd_TL_receive_22 rfl (lv_at hl 0 rfl) ?_
  refine zc_gF (t := 0) (i := 0) (j := 0) F hE hP ⟨by decide, (show 0 < 1 by omega), (show 0 < 1 by omega)⟩ rfl rfl zi_TL 1 (by decide) rfl wf_TL_11 rfl dd_TL_receive_23 ?_
  refine lv_iload_n F.1 F.2.1 dd_TL_receive_26 rfl (lv_at hl 1 rfl) ?_
  refine zc_aald (t := 1) (i := 0) (j := 0) (k := i) (N := 2) (z := 2) (a := (b0 + zp_o 2 i 0)) F hE hP ⟨by decide, (show 0 < 1 by omega), (show 0 < 1 by omega)⟩ rfl rfl rfl (by omega) (by decide) rfl dd_TL_receive_27 ?_
  refine lv_aload_n F.1 F.2.1 dd_TL_receive_28 rfl (lv_at hl 0 rfl) ?_
  refine zc_gF (t := 0) (i := 0) (j := 0) F hE hP ⟨by decide, (show 0 < 1 by omega), (show 0 < 1 by omega)⟩ rfl rfl zi_TL 1 (by decide) rfl wf_TL_11 rfl dd_TL_receive_29 ?_
  refine lv_iconst (v := nI 1) F.1 F.2.1 dd_TL_receive_32 (by decide) ?_
  refine lv_iload_n F.1 F.2.1 dd_TL_receive_33 rfl (lv_at hl 1 rfl) ?_
  refine zn_isub F dd_TL_receive_34 (by omega) ?_
  refine zc_aald (t := 1) (i := 0) (j := 0) (k := 1 - i) (N := 2) (z := 2) (a := (b0 + zp_o 2 (1 - i) 0)) F hE hP ⟨by decide, (show 0 < 1 by omega), (show 0 < 1 by omega)⟩ rfl rfl rfl (by omega) (by decide) rfl dd_TL_receive_35 ?_
  refine lv_iload_n F.1 F.2.1 dd_TL_receive_36 rfl (lv_at hl 2 rfl) ?_
  refine lv_iload_n F.1 F.2.1 dd_TL_receive_37 rfl (lv_at hl 3 rfl) ?_
  refine lv_iload F.1 F.2.1 dd_TL_receive_38 (lv_at hl 4 rfl) ?_
  refine lv_iload F.1 F.2.1 dd_TL_receive_40 (lv_at hl 5 rfl) ?_
  refine zw_goi (zw_rV F hE hP (zc_Ledger_receivePacket lc G b0 S i (1 - i) c j h w (by first | omega | assumption) (by first | omega | assumption) (by first | omega | assumption) (by first | omega | assumption) (by assumption) (by assumption) (by assumption) (by assumption)) zk_Ledger_receivePacket za_Ledger_receivePacket zb_Ledger_receivePacket wl_TL_83 ⟨rfl, rfl, Nat.le_of_ble_eq_true rfl, Nat.le_of_ble_eq_true rfl⟩ (zc_recv (t := 2) (i := i) (j := 0) hE hP ⟨by decide, (show i < 2 by omega), (show 0 < 1 by omega)⟩ rfl rfl) hl.1 rfl (Nat.le_of_ble_eq_true rfl) ⟨Nat.zero_le _, Nat.zero_le _⟩ dd_TL_receive_42) hS (fun _ h => h) (fun H locs hP _ _ hS => ?_)
  exact zw_iret F hr hlk hP hS rfl rfl dd_TL_receive_45
set_option maxHeartbeats 4000000 in
set_option maxRecDepth 100000 in
theorem zc_TL_receive_bad (lc : Launch) (G : zw_G) (b0 : Nat) (S : zs_S) (l : Int32) (d : Int32) (x : Int32) (h : Int32) (w : Int32) (hb : ¬ (zs_v l 2 ∧ zs_v d 3)) : zw_M lc ym_TL_receive bm_TL_receive 6 (some .int) { frames := 2, cells := 0, slots := 0, locals := 41 } G b0 176 (zp_p G b0 S) [.ref (b0 + zp_o 0 0 0), .int l, .int d, .int x, .int h, .int w] (zw_Qi G b0 176 (zp_p G b0 S) (-1)) := by
  refine zw_of (by decide) (Nat.le_of_ble_eq_true rfl) ?_
  intro p e s m below meth cx ls F hr hlk hE hP hS hl
  have hl : lv_has ls 6 [(0, .ref (b0 + zp_o 0 0 0)), (1, .int l), (2, .int d), (3, .int x), (4, .int h), (5, .int w)] := hl
  refine lv_iload_n F.1 F.2.1 dd_TL_receive_0 rfl (lv_at hl 1 rfl) ?_
  refine lv_iload_n F.1 F.2.1 dd_TL_receive_1 rfl (lv_at hl 2 rfl) ?_
  refine zw_goi (zw_rS F hE hP (zc_TL_isEnd_bad lc G b0 S l d (by first | omega | assumption)) zk_TL_isEnd za_TL_isEnd wl_TL_47 ⟨rfl, rfl, Nat.le_of_ble_eq_true rfl, Nat.le_of_ble_eq_true rfl⟩ hl.1 rfl (Nat.le_of_ble_eq_true rfl) ⟨Nat.zero_le _, Nat.zero_le _⟩ dd_TL_receive_2) hS (fun _ h => h) (fun H locs hP _ _ hS => ?_)
  refine lv_if_eq F.1 F.2.1 dd_TL_receive_5 (tgt := 20) rfl (fun h5 => ?_) (fun h5 => absurd h5 (by decide))
  refine lv_iconst (v := (-1)) F.1 F.2.1 dd_TL_receive_20 (by decide) ?_
  exact zw_iret F hr hlk hP hS rfl rfl dd_TL_receive_21
set_option maxHeartbeats 4000000 in
set_option maxRecDepth 100000 in
theorem zc_TL_receive_bad2 (lc : Launch) (G : zw_G) (b0 : Nat) (S : zs_S) (i : Nat) (c : Nat) (x : Int32) (h : Int32) (w : Int32) (hi : i < 2) (hc : c < 3) (hb : x < nI 1 ∨ S 18 (1 - i) c 0 < x) : zw_M lc ym_TL_receive bm_TL_receive 6 (some .int) { frames := 3, cells := 0, slots := 0, locals := 64 } G b0 176 (zp_p G b0 S) [.ref (b0 + zp_o 0 0 0), .int (nI i), .int (nI c), .int x, .int h, .int w] (zw_Qi G b0 176 (zp_p G b0 S) (-1)) := by
  refine zw_of (by decide) (Nat.le_of_ble_eq_true rfl) ?_
  intro p e s m below meth cx ls F hr hlk hE hP hS hl
  have hl : lv_has ls 6 [(0, .ref (b0 + zp_o 0 0 0)), (1, .int (nI i)), (2, .int (nI c)), (3, .int x), (4, .int h), (5, .int w)] := hl
  refine lv_iload_n F.1 F.2.1 dd_TL_receive_0 rfl (lv_at hl 1 rfl) ?_
  refine lv_iload_n F.1 F.2.1 dd_TL_receive_1 rfl (lv_at hl 2 rfl) ?_
  refine zw_goi (zw_rS F hE hP (zc_TL_isEnd lc G b0 S i c (by first | omega | assumption) (by first | omega | assumption)) zk_TL_isEnd za_TL_isEnd wl_TL_47 ⟨rfl, rfl, Nat.le_of_ble_eq_true rfl, Nat.le_of_ble_eq_true rfl⟩ hl.1 rfl (Nat.le_of_ble_eq_true rfl) ⟨Nat.zero_le _, Nat.zero_le _⟩ dd_TL_receive_2) hS (fun _ h => h) (fun H locs hP _ _ hS => ?_)
  refine lv_if_eq F.1 F.2.1 dd_TL_receive_5 (tgt := 20) rfl (fun h5 => absurd h5 (by decide)) (fun h5 => ?_)
  refine lv_aload_n F.1 F.2.1 dd_TL_receive_8 rfl (lv_at hl 0 rfl) ?_
  refine lv_iconst (v := nI 1) F.1 F.2.1 dd_TL_receive_9 (by decide) ?_
  refine lv_iload_n F.1 F.2.1 dd_TL_receive_10 rfl (lv_at hl 1 rfl) ?_
  refine zn_isub F dd_TL_receive_11 (by omega) ?_
  refine lv_iload_n F.1 F.2.1 dd_TL_receive_12 rfl (lv_at hl 2 rfl) ?_
  refine lv_iload_n F.1 F.2.1 dd_TL_receive_13 rfl (lv_at hl 3 rfl) ?_
  refine zw_goi (zw_rV F hE hP (zc_TL_isPacket_bad2 lc G b0 S (1 - i) c x (by first | omega | assumption) (by first | omega | assumption) (by assumption)) zk_TL_isPacket za_TL_isPacket zb_TL_isPacket wl_TL_79 ⟨rfl, rfl, Nat.le_of_ble_eq_true rfl, Nat.le_of_ble_eq_true rfl⟩ (zc_recv (t := 0) (i := 0) (j := 0) hE hP ⟨by decide, (show 0 < 1 by omega), (show 0 < 1 by omega)⟩ rfl rfl) hl.1 rfl (Nat.le_of_ble_eq_true rfl) ⟨Nat.zero_le _, Nat.zero_le _⟩ dd_TL_receive_14) hS (fun _ h => h) (fun H locs hP _ _ hS => ?_)
  refine lv_if_ne F.1 F.2.1 dd_TL_receive_17 (tgt := 22) rfl (fun h17 => absurd h17 (by decide)) (fun h17 => ?_)
  refine lv_iconst (v := (-1)) F.1 F.2.1 dd_TL_receive_20 (by decide) ?_
  exact zw_iret F hr hlk hP hS rfl rfl dd_TL_receive_21
set_option maxHeartbeats 4000000 in
set_option maxRecDepth 100000 in
theorem zc_TL_balance (lc : Launch) (G : zw_G) (b0 : Nat) (S : zs_S) (i : Nat) (u : Nat) (k : Nat) (hi : i < 2) (hu : u < 4) (hk : k < 6) (hkv : ¬ S 10 i 0 0 < nI k) : zw_M lc ym_TL_balance bm_TL_balance 4 (some .int) { frames := 1, cells := 0, slots := 0, locals := 21 } G b0 176 (zp_p G b0 S) [.ref (b0 + zp_o 0 0 0), .int (nI i), .int (nI u), .int (nI k)] (zw_Qi G b0 176 (zp_p G b0 S) (S 12 i u k)) := by
  refine zw_of (by decide) (Nat.le_of_ble_eq_true rfl) ?_
  intro p e s m below meth cx ls F hr hlk hE hP hS hl
  have hl : lv_has ls 4 [(0, .ref (b0 + zp_o 0 0 0)), (1, .int (nI i)), (2, .int (nI u)), (3, .int (nI k))] := hl
  refine lv_iload_n F.1 F.2.1 dd_TL_balance_0 rfl (lv_at hl 1 rfl) ?_
  refine zw_goi (zw_rS F hE hP (zc_TL_isLedger lc G b0 S i (by first | omega | assumption)) zk_TL_isLedger za_TL_isLedger wl_TL_20 ⟨rfl, rfl, Nat.le_of_ble_eq_true rfl, Nat.le_of_ble_eq_true rfl⟩ hl.1 rfl (Nat.le_of_ble_eq_true rfl) ⟨Nat.zero_le _, Nat.zero_le _⟩ dd_TL_balance_1) hS (fun _ h => h) (fun H locs hP _ _ hS => ?_)
  refine lv_if_eq F.1 F.2.1 dd_TL_balance_4 (tgt := 32) rfl (fun h4 => absurd h4 (by decide)) (fun h4 => ?_)
  refine lv_iload_n F.1 F.2.1 dd_TL_balance_7 rfl (lv_at hl 2 rfl) ?_
  refine lv_if_lt F.1 F.2.1 dd_TL_balance_8 (tgt := 32) rfl (fun h8 => absurd h8 (nI_pos (by omega))) (fun h8 => ?_)
  refine lv_iload_n F.1 F.2.1 dd_TL_balance_11 rfl (lv_at hl 2 rfl) ?_
  refine lv_iconst (v := nI 4) F.1 F.2.1 dd_TL_balance_12 (by decide) ?_
  refine zn_cge F dd_TL_balance_13 (tgt := 32) rfl (by omega) (by omega) (fun h13 => absurd h13 (by omega)) (fun h13 => ?_)
  refine lv_aload_n F.1 F.2.1 dd_TL_balance_16 rfl (lv_at hl 0 rfl) ?_
  refine zc_gF (t := 0) (i := 0) (j := 0) F hE hP ⟨by decide, (show 0 < 1 by omega), (show 0 < 1 by omega)⟩ rfl rfl zi_TL 1 (by decide) rfl wf_TL_11 rfl dd_TL_balance_17 ?_
  refine lv_iload_n F.1 F.2.1 dd_TL_balance_20 rfl (lv_at hl 1 rfl) ?_
  refine zc_aald (t := 1) (i := 0) (j := 0) (k := i) (N := 2) (z := 2) (a := (b0 + zp_o 2 i 0)) F hE hP ⟨by decide, (show 0 < 1 by omega), (show 0 < 1 by omega)⟩ rfl rfl rfl (by omega) (by decide) rfl dd_TL_balance_21 ?_
  refine zc_gN (t := 2) (i := i) (j := 0) F hE hP ⟨by decide, (show i < 2 by omega), (show 0 < 1 by omega)⟩ rfl rfl zi_Ledger 4 (by decide) rfl wf_TL_66 rfl dd_TL_balance_22 ?_
  refine lv_iload_n F.1 F.2.1 dd_TL_balance_25 rfl (lv_at hl 3 rfl) ?_
  refine zw_goi (zw_rV F hE hP (zc_Bank_isKind lc G b0 S i (nI k) (by first | omega | assumption)) zk_Bank_isKind za_Bank_isKind zb_Bank_isKind wl_TL_70 ⟨rfl, rfl, Nat.le_of_ble_eq_true rfl, Nat.le_of_ble_eq_true rfl⟩ (zc_recv (t := 10) (i := i) (j := 0) hE hP ⟨by decide, (show i < 2 by omega), (show 0 < 1 by omega)⟩ rfl rfl) hl.1 rfl (Nat.le_of_ble_eq_true rfl) ⟨Nat.zero_le _, Nat.zero_le _⟩ dd_TL_balance_26) hS (fun _ h => h) (fun H locs hP _ _ hS => ?_)
  refine zn_bne F dd_TL_balance_29 (tgt := 34) rfl (fun h29 => ?_) (fun h29 => absurd ⟨nI_pos (by omega), hkv⟩ h29)
  refine lv_aload_n F.1 F.2.1 dd_TL_balance_34 rfl (lv_at hl 0 rfl) ?_
  refine zc_gF (t := 0) (i := 0) (j := 0) F hE hP ⟨by decide, (show 0 < 1 by omega), (show 0 < 1 by omega)⟩ rfl rfl zi_TL 1 (by decide) rfl wf_TL_11 rfl dd_TL_balance_35 ?_
  refine lv_iload_n F.1 F.2.1 dd_TL_balance_38 rfl (lv_at hl 1 rfl) ?_
  refine zc_aald (t := 1) (i := 0) (j := 0) (k := i) (N := 2) (z := 2) (a := (b0 + zp_o 2 i 0)) F hE hP ⟨by decide, (show 0 < 1 by omega), (show 0 < 1 by omega)⟩ rfl rfl rfl (by omega) (by decide) rfl dd_TL_balance_39 ?_
  refine zc_gN (t := 2) (i := i) (j := 0) F hE hP ⟨by decide, (show i < 2 by omega), (show 0 < 1 by omega)⟩ rfl rfl zi_Ledger 4 (by decide) rfl wf_TL_66 rfl dd_TL_balance_40 ?_
  refine zc_gN (t := 10) (i := i) (j := 0) F hE hP ⟨by decide, (show i < 2 by omega), (show 0 < 1 by omega)⟩ rfl rfl zi_Bank 0 (by decide) rfl wf_TL_143 rfl dd_TL_balance_43 ?_
  refine lv_iload_n F.1 F.2.1 dd_TL_balance_46 rfl (lv_at hl 2 rfl) ?_
  refine zc_aald (t := 11) (i := i) (j := 0) (k := u) (N := 4) (z := 6) (a := (b0 + zp_o 12 i u)) F hE hP ⟨by decide, (show i < 2 by omega), (show 0 < 1 by omega)⟩ rfl rfl rfl (by omega) (by decide) rfl dd_TL_balance_47 ?_
  refine lv_iload_n F.1 F.2.1 dd_TL_balance_48 rfl (lv_at hl 3 rfl) ?_
  refine zc_iald (t := 12) (i := i) (j := u) (k := k) (N := 6) F hE hP ⟨by decide, (show i < 2 by omega), (show u < 4 by omega)⟩ (fun _ => rfl) (by omega) (by decide) dd_TL_balance_49 ?_
  exact zw_iret F hr hlk hP hS rfl rfl dd_TL_balance_50
set_option maxHeartbeats 4000000 in
set_option maxRecDepth 100000 in
theorem zc_TL_balance_bad (lc : Launch) (G : zw_G) (b0 : Nat) (S : zs_S) (l : Int32) (u : Int32) (k : Int32) (hb : ¬ zs_v l 2) : zw_M lc ym_TL_balance bm_TL_balance 4 (some .int) { frames := 1, cells := 0, slots := 0, locals := 20 } G b0 176 (zp_p G b0 S) [.ref (b0 + zp_o 0 0 0), .int l, .int u, .int k] (zw_Qi G b0 176 (zp_p G b0 S) (nI 0)) := by
  refine zw_of (by decide) (Nat.le_of_ble_eq_true rfl) ?_
  intro p e s m below meth cx ls F hr hlk hE hP hS hl
  have hl : lv_has ls 4 [(0, .ref (b0 + zp_o 0 0 0)), (1, .int l), (2, .int u), (3, .int k)] := hl
  refine lv_iload_n F.1 F.2.1 dd_TL_balance_0 rfl (lv_at hl 1 rfl) ?_
  refine zw_goi (zw_rS F hE hP (zc_TL_isLedger_bad lc G b0 S l (by first | omega | assumption)) zk_TL_isLedger za_TL_isLedger wl_TL_20 ⟨rfl, rfl, Nat.le_of_ble_eq_true rfl, Nat.le_of_ble_eq_true rfl⟩ hl.1 rfl (Nat.le_of_ble_eq_true rfl) ⟨Nat.zero_le _, Nat.zero_le _⟩ dd_TL_balance_1) hS (fun _ h => h) (fun H locs hP _ _ hS => ?_)
  refine lv_if_eq F.1 F.2.1 dd_TL_balance_4 (tgt := 32) rfl (fun h4 => ?_) (fun h4 => absurd h4 (by decide))
  refine lv_iconst (v := nI 0) F.1 F.2.1 dd_TL_balance_32 (by decide) ?_
  exact zw_iret F hr hlk hP hS rfl rfl dd_TL_balance_33
set_option maxHeartbeats 4000000 in
set_option maxRecDepth 100000 in
theorem zc_TL_balance_bad2 (lc : Launch) (G : zw_G) (b0 : Nat) (S : zs_S) (i : Nat) (u : Int32) (k : Int32) (hi : i < 2) (hb : u < 0 ∨ nI 4 ≤ u ∨ k < 0 ∨ S 10 i 0 0 < k) : zw_M lc ym_TL_balance bm_TL_balance 4 (some .int) { frames := 1, cells := 0, slots := 0, locals := 21 } G b0 176 (zp_p G b0 S) [.ref (b0 + zp_o 0 0 0), .int (nI i), .int u, .int k] (zw_Qi G b0 176 (zp_p G b0 S) (nI 0)) := by
  refine zw_of (by decide) (Nat.le_of_ble_eq_true rfl) ?_
  intro p e s m below meth cx ls F hr hlk hE hP hS hl
  have hl : lv_has ls 4 [(0, .ref (b0 + zp_o 0 0 0)), (1, .int (nI i)), (2, .int u), (3, .int k)] := hl
  refine lv_iload_n F.1 F.2.1 dd_TL_balance_0 rfl (lv_at hl 1 rfl) ?_
  refine zw_goi (zw_rS F hE hP (zc_TL_isLedger lc G b0 S i (by first | omega | assumption)) zk_TL_isLedger za_TL_isLedger wl_TL_20 ⟨rfl, rfl, Nat.le_of_ble_eq_true rfl, Nat.le_of_ble_eq_true rfl⟩ hl.1 rfl (Nat.le_of_ble_eq_true rfl) ⟨Nat.zero_le _, Nat.zero_le _⟩ dd_TL_balance_1) hS (fun _ h => h) (fun H locs hP _ _ hS => ?_)
  refine lv_if_eq F.1 F.2.1 dd_TL_balance_4 (tgt := 32) rfl (fun h4 => absurd h4 (by decide)) (fun h4 => ?_)
  refine lv_iload_n F.1 F.2.1 dd_TL_balance_7 rfl (lv_at hl 2 rfl) ?_
  refine lv_if_lt F.1 F.2.1 dd_TL_balance_8 (tgt := 32) rfl (fun h8 => ?_) (fun h8 => ?_)
  · refine lv_iconst (v := nI 0) F.1 F.2.1 dd_TL_balance_32 (by decide) ?_
    exact zw_iret F hr hlk hP hS rfl rfl dd_TL_balance_33
  · refine lv_iload_n F.1 F.2.1 dd_TL_balance_11 rfl (lv_at hl 2 rfl) ?_
    refine lv_iconst (v := nI 4) F.1 F.2.1 dd_TL_balance_12 (by decide) ?_
    refine lv_icmp_ge F.1 F.2.1 dd_TL_balance_13 (tgt := 32) rfl (fun h13 => ?_) (fun h13 => ?_)
    · refine lv_iconst (v := nI 0) F.1 F.2.1 dd_TL_balance_32 (by decide) ?_
      exact zw_iret F hr hlk hP hS rfl rfl dd_TL_balance_33
    · refine lv_aload_n F.1 F.2.1 dd_TL_balance_16 rfl (lv_at hl 0 rfl) ?_
      refine zc_gF (t := 0) (i := 0) (j := 0) F hE hP ⟨by decide, (show 0 < 1 by omega), (show 0 < 1 by omega)⟩ rfl rfl zi_TL 1 (by decide) rfl wf_TL_11 rfl dd_TL_balance_17 ?_
      refine lv_iload_n F.1 F.2.1 dd_TL_balance_20 rfl (lv_at hl 1 rfl) ?_
      refine zc_aald (t := 1) (i := 0) (j := 0) (k := i) (N := 2) (z := 2) (a := (b0 + zp_o 2 i 0)) F hE hP ⟨by decide, (show 0 < 1 by omega), (show 0 < 1 by omega)⟩ rfl rfl rfl (by omega) (by decide) rfl dd_TL_balance_21 ?_
      refine zc_gN (t := 2) (i := i) (j := 0) F hE hP ⟨by decide, (show i < 2 by omega), (show 0 < 1 by omega)⟩ rfl rfl zi_Ledger 4 (by decide) rfl wf_TL_66 rfl dd_TL_balance_22 ?_
      refine lv_iload_n F.1 F.2.1 dd_TL_balance_25 rfl (lv_at hl 3 rfl) ?_
      refine zw_goi (zw_rV F hE hP (zc_Bank_isKind lc G b0 S i k (by first | omega | assumption)) zk_Bank_isKind za_Bank_isKind zb_Bank_isKind wl_TL_70 ⟨rfl, rfl, Nat.le_of_ble_eq_true rfl, Nat.le_of_ble_eq_true rfl⟩ (zc_recv (t := 10) (i := i) (j := 0) hE hP ⟨by decide, (show i < 2 by omega), (show 0 < 1 by omega)⟩ rfl rfl) hl.1 rfl (Nat.le_of_ble_eq_true rfl) ⟨Nat.zero_le _, Nat.zero_le _⟩ dd_TL_balance_26) hS (fun _ h => h) (fun H locs hP _ _ hS => ?_)
      refine zn_bne F dd_TL_balance_29 (tgt := 34) rfl (fun h29 => Or.elim hb (fun z => absurd z h8) (fun y => Or.elim y (fun z => absurd z h13) (fun y => Or.elim y (fun z => absurd z h29.1) (fun z => absurd z h29.2)))) (fun h29 => ?_)
      refine lv_iconst (v := nI 0) F.1 F.2.1 dd_TL_balance_32 (by decide) ?_
      exact zw_iret F hr hlk hP hS rfl rfl dd_TL_balance_33
set_option maxHeartbeats 4000000 in
set_option maxRecDepth 100000 in
theorem zc_TL_escrow (lc : Launch) (G : zw_G) (b0 : Nat) (S : zs_S) (i : Nat) (c : Nat) (k : Nat) (hi : i < 2) (hc : c < 3) (hk : k < 6) (hkv : ¬ S 10 i 0 0 < nI k) : zw_M lc ym_TL_escrow bm_TL_escrow 4 (some .int) { frames := 2, cells := 0, slots := 0, locals := 41 } G b0 176 (zp_p G b0 S) [.ref (b0 + zp_o 0 0 0), .int (nI i), .int (nI c), .int (nI k)] (zw_Qi G b0 176 (zp_p G b0 S) (S 14 i c k)) := by
  refine zw_of (by decide) (Nat.le_of_ble_eq_true rfl) ?_
  intro p e s m below meth cx ls F hr hlk hE hP hS hl
  have hl : lv_has ls 4 [(0, .ref (b0 + zp_o 0 0 0)), (1, .int (nI i)), (2, .int (nI c)), (3, .int (nI k))] := hl
  refine lv_iload_n F.1 F.2.1 dd_TL_escrow_0 rfl (lv_at hl 1 rfl) ?_
  refine lv_iload_n F.1 F.2.1 dd_TL_escrow_1 rfl (lv_at hl 2 rfl) ?_
  refine zw_goi (zw_rS F hE hP (zc_TL_isEnd lc G b0 S i c (by first | omega | assumption) (by first | omega | assumption)) zk_TL_isEnd za_TL_isEnd wl_TL_47 ⟨rfl, rfl, Nat.le_of_ble_eq_true rfl, Nat.le_of_ble_eq_true rfl⟩ hl.1 rfl (Nat.le_of_ble_eq_true rfl) ⟨Nat.zero_le _, Nat.zero_le _⟩ dd_TL_escrow_2) hS (fun _ h => h) (fun H locs hP _ _ hS => ?_)
  refine lv_if_eq F.1 F.2.1 dd_TL_escrow_5 (tgt := 24) rfl (fun h5 => absurd h5 (by decide)) (fun h5 => ?_)
  refine lv_aload_n F.1 F.2.1 dd_TL_escrow_8 rfl (lv_at hl 0 rfl) ?_
  refine zc_gF (t := 0) (i := 0) (j := 0) F hE hP ⟨by decide, (show 0 < 1 by omega), (show 0 < 1 by omega)⟩ rfl rfl zi_TL 1 (by decide) rfl wf_TL_11 rfl dd_TL_escrow_9 ?_
  refine lv_iload_n F.1 F.2.1 dd_TL_escrow_12 rfl (lv_at hl 1 rfl) ?_
  refine zc_aald (t := 1) (i := 0) (j := 0) (k := i) (N := 2) (z := 2) (a := (b0 + zp_o 2 i 0)) F hE hP ⟨by decide, (show 0 < 1 by omega), (show 0 < 1 by omega)⟩ rfl rfl rfl (by omega) (by decide) rfl dd_TL_escrow_13 ?_
  refine zc_gN (t := 2) (i := i) (j := 0) F hE hP ⟨by decide, (show i < 2 by omega), (show 0 < 1 by omega)⟩ rfl rfl zi_Ledger 4 (by decide) rfl wf_TL_66 rfl dd_TL_escrow_14 ?_
  refine lv_iload_n F.1 F.2.1 dd_TL_escrow_17 rfl (lv_at hl 3 rfl) ?_
  refine zw_goi (zw_rV F hE hP (zc_Bank_isKind lc G b0 S i (nI k) (by first | omega | assumption)) zk_Bank_isKind za_Bank_isKind zb_Bank_isKind wl_TL_70 ⟨rfl, rfl, Nat.le_of_ble_eq_true rfl, Nat.le_of_ble_eq_true rfl⟩ (zc_recv (t := 10) (i := i) (j := 0) hE hP ⟨by decide, (show i < 2 by omega), (show 0 < 1 by omega)⟩ rfl rfl) hl.1 rfl (Nat.le_of_ble_eq_true rfl) ⟨Nat.zero_le _, Nat.zero_le _⟩ dd_TL_escrow_18) hS (fun _ h => h) (fun H locs hP _ _ hS => ?_)
  refine zn_bne F dd_TL_escrow_21 (tgt := 26) rfl (fun h21 => ?_) (fun h21 => absurd ⟨nI_pos (by omega), hkv⟩ h21)
  refine lv_aload_n F.1 F.2.1 dd_TL_escrow_26 rfl (lv_at hl 0 rfl) ?_
  refine zc_gF (t := 0) (i := 0) (j := 0) F hE hP ⟨by decide, (show 0 < 1 by omega), (show 0 < 1 by omega)⟩ rfl rfl zi_TL 1 (by decide) rfl wf_TL_11 rfl dd_TL_escrow_27 ?_
  refine lv_iload_n F.1 F.2.1 dd_TL_escrow_30 rfl (lv_at hl 1 rfl) ?_
  refine zc_aald (t := 1) (i := 0) (j := 0) (k := i) (N := 2) (z := 2) (a := (b0 + zp_o 2 i 0)) F hE hP ⟨by decide, (show 0 < 1 by omega), (show 0 < 1 by omega)⟩ rfl rfl rfl (by omega) (by decide) rfl dd_TL_escrow_31 ?_
  refine zc_gN (t := 2) (i := i) (j := 0) F hE hP ⟨by decide, (show i < 2 by omega), (show 0 < 1 by omega)⟩ rfl rfl zi_Ledger 4 (by decide) rfl wf_TL_66 rfl dd_TL_escrow_32 ?_
  refine zc_gN (t := 10) (i := i) (j := 0) F hE hP ⟨by decide, (show i < 2 by omega), (show 0 < 1 by omega)⟩ rfl rfl zi_Bank 1 (by decide) rfl wf_TL_147 rfl dd_TL_escrow_35 ?_
  refine lv_iload_n F.1 F.2.1 dd_TL_escrow_38 rfl (lv_at hl 2 rfl) ?_
  refine zc_aald (t := 13) (i := i) (j := 0) (k := c) (N := 3) (z := 6) (a := (b0 + zp_o 14 i c)) F hE hP ⟨by decide, (show i < 2 by omega), (show 0 < 1 by omega)⟩ rfl rfl rfl (by omega) (by decide) rfl dd_TL_escrow_39 ?_
  refine lv_iload_n F.1 F.2.1 dd_TL_escrow_40 rfl (lv_at hl 3 rfl) ?_
  refine zc_iald (t := 14) (i := i) (j := c) (k := k) (N := 6) F hE hP ⟨by decide, (show i < 2 by omega), (show c < 3 by omega)⟩ (fun _ => rfl) (by omega) (by decide) dd_TL_escrow_41 ?_
  exact zw_iret F hr hlk hP hS rfl rfl dd_TL_escrow_42
set_option maxHeartbeats 4000000 in
set_option maxRecDepth 100000 in
theorem zc_TL_escrow_bad (lc : Launch) (G : zw_G) (b0 : Nat) (S : zs_S) (l : Int32) (d : Int32) (k : Int32) (hb : ¬ (zs_v l 2 ∧ zs_v d 3)) : zw_M lc ym_TL_escrow bm_TL_escrow 4 (some .int) { frames := 2, cells := 0, slots := 0, locals := 41 } G b0 176 (zp_p G b0 S) [.ref (b0 + zp_o 0 0 0), .int l, .int d, .int k] (zw_Qi G b0 176 (zp_p G b0 S) (nI 0)) := by
  refine zw_of (by decide) (Nat.le_of_ble_eq_true rfl) ?_
  intro p e s m below meth cx ls F hr hlk hE hP hS hl
  have hl : lv_has ls 4 [(0, .ref (b0 + zp_o 0 0 0)), (1, .int l), (2, .int d), (3, .int k)] := hl
  refine lv_iload_n F.1 F.2.1 dd_TL_escrow_0 rfl (lv_at hl 1 rfl) ?_
  refine lv_iload_n F.1 F.2.1 dd_TL_escrow_1 rfl (lv_at hl 2 rfl) ?_
  refine zw_goi (zw_rS F hE hP (zc_TL_isEnd_bad lc G b0 S l d (by first | omega | assumption)) zk_TL_isEnd za_TL_isEnd wl_TL_47 ⟨rfl, rfl, Nat.le_of_ble_eq_true rfl, Nat.le_of_ble_eq_true rfl⟩ hl.1 rfl (Nat.le_of_ble_eq_true rfl) ⟨Nat.zero_le _, Nat.zero_le _⟩ dd_TL_escrow_2) hS (fun _ h => h) (fun H locs hP _ _ hS => ?_)
  refine lv_if_eq F.1 F.2.1 dd_TL_escrow_5 (tgt := 24) rfl (fun h5 => ?_) (fun h5 => absurd h5 (by decide))
  refine lv_iconst (v := nI 0) F.1 F.2.1 dd_TL_escrow_24 (by decide) ?_
  exact zw_iret F hr hlk hP hS rfl rfl dd_TL_escrow_25
set_option maxHeartbeats 4000000 in
set_option maxRecDepth 100000 in
theorem zc_TL_escrow_bad2 (lc : Launch) (G : zw_G) (b0 : Nat) (S : zs_S) (i : Nat) (c : Nat) (k : Int32) (hi : i < 2) (hc : c < 3) (hb : k < 0 ∨ S 10 i 0 0 < k) : zw_M lc ym_TL_escrow bm_TL_escrow 4 (some .int) { frames := 2, cells := 0, slots := 0, locals := 41 } G b0 176 (zp_p G b0 S) [.ref (b0 + zp_o 0 0 0), .int (nI i), .int (nI c), .int k] (zw_Qi G b0 176 (zp_p G b0 S) (nI 0)) := by
  refine zw_of (by decide) (Nat.le_of_ble_eq_true rfl) ?_
  intro p e s m below meth cx ls F hr hlk hE hP hS hl
  have hl : lv_has ls 4 [(0, .ref (b0 + zp_o 0 0 0)), (1, .int (nI i)), (2, .int (nI c)), (3, .int k)] := hl
  refine lv_iload_n F.1 F.2.1 dd_TL_escrow_0 rfl (lv_at hl 1 rfl) ?_
  refine lv_iload_n F.1 F.2.1 dd_TL_escrow_1 rfl (lv_at hl 2 rfl) ?_
  refine zw_goi (zw_rS F hE hP (zc_TL_isEnd lc G b0 S i c (by first | omega | assumption) (by first | omega | assumption)) zk_TL_isEnd za_TL_isEnd wl_TL_47 ⟨rfl, rfl, Nat.le_of_ble_eq_true rfl, Nat.le_of_ble_eq_true rfl⟩ hl.1 rfl (Nat.le_of_ble_eq_true rfl) ⟨Nat.zero_le _, Nat.zero_le _⟩ dd_TL_escrow_2) hS (fun _ h => h) (fun H locs hP _ _ hS => ?_)
  refine lv_if_eq F.1 F.2.1 dd_TL_escrow_5 (tgt := 24) rfl (fun h5 => absurd h5 (by decide)) (fun h5 => ?_)
  refine lv_aload_n F.1 F.2.1 dd_TL_escrow_8 rfl (lv_at hl 0 rfl) ?_
  refine zc_gF (t := 0) (i := 0) (j := 0) F hE hP ⟨by decide, (show 0 < 1 by omega), (show 0 < 1 by omega)⟩ rfl rfl zi_TL 1 (by decide) rfl wf_TL_11 rfl dd_TL_escrow_9 ?_
  refine lv_iload_n F.1 F.2.1 dd_TL_escrow_12 rfl (lv_at hl 1 rfl) ?_
  refine zc_aald (t := 1) (i := 0) (j := 0) (k := i) (N := 2) (z := 2) (a := (b0 + zp_o 2 i 0)) F hE hP ⟨by decide, (show 0 < 1 by omega), (show 0 < 1 by omega)⟩ rfl rfl rfl (by omega) (by decide) rfl dd_TL_escrow_13 ?_
  refine zc_gN (t := 2) (i := i) (j := 0) F hE hP ⟨by decide, (show i < 2 by omega), (show 0 < 1 by omega)⟩ rfl rfl zi_Ledger 4 (by decide) rfl wf_TL_66 rfl dd_TL_escrow_14 ?_
  refine lv_iload_n F.1 F.2.1 dd_TL_escrow_17 rfl (lv_at hl 3 rfl) ?_
  refine zw_goi (zw_rV F hE hP (zc_Bank_isKind lc G b0 S i k (by first | omega | assumption)) zk_Bank_isKind za_Bank_isKind zb_Bank_isKind wl_TL_70 ⟨rfl, rfl, Nat.le_of_ble_eq_true rfl, Nat.le_of_ble_eq_true rfl⟩ (zc_recv (t := 10) (i := i) (j := 0) hE hP ⟨by decide, (show i < 2 by omega), (show 0 < 1 by omega)⟩ rfl rfl) hl.1 rfl (Nat.le_of_ble_eq_true rfl) ⟨Nat.zero_le _, Nat.zero_le _⟩ dd_TL_escrow_18) hS (fun _ h => h) (fun H locs hP _ _ hS => ?_)
  refine zn_bne F dd_TL_escrow_21 (tgt := 26) rfl (fun h21 => Or.elim hb (fun z => absurd z h21.1) (fun z => absurd z h21.2)) (fun h21 => ?_)
  refine lv_iconst (v := nI 0) F.1 F.2.1 dd_TL_escrow_24 (by decide) ?_
  exact zw_iret F hr hlk hP hS rfl rfl dd_TL_escrow_25
set_option maxHeartbeats 4000000 in
set_option maxRecDepth 100000 in
theorem zc_TL_voucher (lc : Launch) (G : zw_G) (b0 : Nat) (S : zs_S) (i : Nat) (k : Nat) (hi : i < 2) (hk : k < 6) (hk1 : 1 ≤ k) (hkv : ¬ S 10 i 0 0 < nI k) : zw_M lc ym_TL_voucher bm_TL_voucher 3 (some .int) { frames := 1, cells := 0, slots := 0, locals := 21 } G b0 176 (zp_p G b0 S) [.ref (b0 + zp_o 0 0 0), .int (nI i), .int (nI k)] (zw_Qi G b0 176 (zp_p G b0 S) (nI 4 * S 15 i 0 k + S 16 i 0 k)) := by
  refine zw_of (by decide) (Nat.le_of_ble_eq_true rfl) ?_
  intro p e s m below meth cx ls F hr hlk hE hP hS hl
  have hl : lv_has ls 3 [(0, .ref (b0 + zp_o 0 0 0)), (1, .int (nI i)), (2, .int (nI k))] := hl
  refine lv_iload_n F.1 F.2.1 dd_TL_voucher_0 rfl (lv_at hl 1 rfl) ?_
  refine zw_goi (zw_rS F hE hP (zc_TL_isLedger lc G b0 S i (by first | omega | assumption)) zk_TL_isLedger za_TL_isLedger wl_TL_20 ⟨rfl, rfl, Nat.le_of_ble_eq_true rfl, Nat.le_of_ble_eq_true rfl⟩ hl.1 rfl (Nat.le_of_ble_eq_true rfl) ⟨Nat.zero_le _, Nat.zero_le _⟩ dd_TL_voucher_1) hS (fun _ h => h) (fun H locs hP _ _ hS => ?_)
  refine lv_if_eq F.1 F.2.1 dd_TL_voucher_4 (tgt := 28) rfl (fun h4 => absurd h4 (by decide)) (fun h4 => ?_)
  refine lv_iload_n F.1 F.2.1 dd_TL_voucher_7 rfl (lv_at hl 2 rfl) ?_
  refine lv_iconst (v := nI 1) F.1 F.2.1 dd_TL_voucher_8 (by decide) ?_
  refine zn_clt F dd_TL_voucher_9 (tgt := 28) rfl (by omega) (by omega) (fun h9 => absurd h9 (by omega)) (fun h9 => ?_)
  refine lv_aload_n F.1 F.2.1 dd_TL_voucher_12 rfl (lv_at hl 0 rfl) ?_
  refine zc_gF (t := 0) (i := 0) (j := 0) F hE hP ⟨by decide, (show 0 < 1 by omega), (show 0 < 1 by omega)⟩ rfl rfl zi_TL 1 (by decide) rfl wf_TL_11 rfl dd_TL_voucher_13 ?_
  refine lv_iload_n F.1 F.2.1 dd_TL_voucher_16 rfl (lv_at hl 1 rfl) ?_
  refine zc_aald (t := 1) (i := 0) (j := 0) (k := i) (N := 2) (z := 2) (a := (b0 + zp_o 2 i 0)) F hE hP ⟨by decide, (show 0 < 1 by omega), (show 0 < 1 by omega)⟩ rfl rfl rfl (by omega) (by decide) rfl dd_TL_voucher_17 ?_
  refine zc_gN (t := 2) (i := i) (j := 0) F hE hP ⟨by decide, (show i < 2 by omega), (show 0 < 1 by omega)⟩ rfl rfl zi_Ledger 4 (by decide) rfl wf_TL_66 rfl dd_TL_voucher_18 ?_
  refine lv_iload_n F.1 F.2.1 dd_TL_voucher_21 rfl (lv_at hl 2 rfl) ?_
  refine zw_goi (zw_rV F hE hP (zc_Bank_isKind lc G b0 S i (nI k) (by first | omega | assumption)) zk_Bank_isKind za_Bank_isKind zb_Bank_isKind wl_TL_70 ⟨rfl, rfl, Nat.le_of_ble_eq_true rfl, Nat.le_of_ble_eq_true rfl⟩ (zc_recv (t := 10) (i := i) (j := 0) hE hP ⟨by decide, (show i < 2 by omega), (show 0 < 1 by omega)⟩ rfl rfl) hl.1 rfl (Nat.le_of_ble_eq_true rfl) ⟨Nat.zero_le _, Nat.zero_le _⟩ dd_TL_voucher_22) hS (fun _ h => h) (fun H locs hP _ _ hS => ?_)
  refine zn_bne F dd_TL_voucher_25 (tgt := 30) rfl (fun h25 => ?_) (fun h25 => absurd ⟨nI_pos (by omega), hkv⟩ h25)
  refine lv_iconst (v := nI 4) F.1 F.2.1 dd_TL_voucher_30 (by decide) ?_
  refine lv_aload_n F.1 F.2.1 dd_TL_voucher_31 rfl (lv_at hl 0 rfl) ?_
  refine zc_gF (t := 0) (i := 0) (j := 0) F hE hP ⟨by decide, (show 0 < 1 by omega), (show 0 < 1 by omega)⟩ rfl rfl zi_TL 1 (by decide) rfl wf_TL_11 rfl dd_TL_voucher_32 ?_
  refine lv_iload_n F.1 F.2.1 dd_TL_voucher_35 rfl (lv_at hl 1 rfl) ?_
  refine zc_aald (t := 1) (i := 0) (j := 0) (k := i) (N := 2) (z := 2) (a := (b0 + zp_o 2 i 0)) F hE hP ⟨by decide, (show 0 < 1 by omega), (show 0 < 1 by omega)⟩ rfl rfl rfl (by omega) (by decide) rfl dd_TL_voucher_36 ?_
  refine zc_gN (t := 2) (i := i) (j := 0) F hE hP ⟨by decide, (show i < 2 by omega), (show 0 < 1 by omega)⟩ rfl rfl zi_Ledger 4 (by decide) rfl wf_TL_66 rfl dd_TL_voucher_37 ?_
  refine zc_gN (t := 10) (i := i) (j := 0) F hE hP ⟨by decide, (show i < 2 by omega), (show 0 < 1 by omega)⟩ rfl rfl zi_Bank 2 (by decide) rfl wf_TL_150 rfl dd_TL_voucher_40 ?_
  refine lv_iload_n F.1 F.2.1 dd_TL_voucher_43 rfl (lv_at hl 2 rfl) ?_
  refine zc_iald (t := 15) (i := i) (j := 0) (k := k) (N := 6) F hE hP ⟨by decide, (show i < 2 by omega), (show 0 < 1 by omega)⟩ (fun _ => rfl) (by omega) (by decide) dd_TL_voucher_44 ?_
  refine lv_imul F.1 F.2.1 dd_TL_voucher_45 ?_
  refine lv_aload_n F.1 F.2.1 dd_TL_voucher_46 rfl (lv_at hl 0 rfl) ?_
  refine zc_gF (t := 0) (i := 0) (j := 0) F hE hP ⟨by decide, (show 0 < 1 by omega), (show 0 < 1 by omega)⟩ rfl rfl zi_TL 1 (by decide) rfl wf_TL_11 rfl dd_TL_voucher_47 ?_
  refine lv_iload_n F.1 F.2.1 dd_TL_voucher_50 rfl (lv_at hl 1 rfl) ?_
  refine zc_aald (t := 1) (i := 0) (j := 0) (k := i) (N := 2) (z := 2) (a := (b0 + zp_o 2 i 0)) F hE hP ⟨by decide, (show 0 < 1 by omega), (show 0 < 1 by omega)⟩ rfl rfl rfl (by omega) (by decide) rfl dd_TL_voucher_51 ?_
  refine zc_gN (t := 2) (i := i) (j := 0) F hE hP ⟨by decide, (show i < 2 by omega), (show 0 < 1 by omega)⟩ rfl rfl zi_Ledger 4 (by decide) rfl wf_TL_66 rfl dd_TL_voucher_52 ?_
  refine zc_gN (t := 10) (i := i) (j := 0) F hE hP ⟨by decide, (show i < 2 by omega), (show 0 < 1 by omega)⟩ rfl rfl zi_Bank 3 (by decide) rfl wf_TL_154 rfl dd_TL_voucher_55 ?_
  refine lv_iload_n F.1 F.2.1 dd_TL_voucher_58 rfl (lv_at hl 2 rfl) ?_
  refine zc_iald (t := 16) (i := i) (j := 0) (k := k) (N := 6) F hE hP ⟨by decide, (show i < 2 by omega), (show 0 < 1 by omega)⟩ (fun _ => rfl) (by omega) (by decide) dd_TL_voucher_59 ?_
  refine lv_iadd F.1 F.2.1 dd_TL_voucher_60 ?_
  exact zw_iret F hr hlk hP hS rfl rfl dd_TL_voucher_61
set_option maxHeartbeats 4000000 in
set_option maxRecDepth 100000 in
theorem zc_TL_voucher_bad (lc : Launch) (G : zw_G) (b0 : Nat) (S : zs_S) (l : Int32) (k : Int32) (hb : ¬ zs_v l 2) : zw_M lc ym_TL_voucher bm_TL_voucher 3 (some .int) { frames := 1, cells := 0, slots := 0, locals := 20 } G b0 176 (zp_p G b0 S) [.ref (b0 + zp_o 0 0 0), .int l, .int k] (zw_Qi G b0 176 (zp_p G b0 S) (-1)) := by
  refine zw_of (by decide) (Nat.le_of_ble_eq_true rfl) ?_
  intro p e s m below meth cx ls F hr hlk hE hP hS hl
  have hl : lv_has ls 3 [(0, .ref (b0 + zp_o 0 0 0)), (1, .int l), (2, .int k)] := hl
  refine lv_iload_n F.1 F.2.1 dd_TL_voucher_0 rfl (lv_at hl 1 rfl) ?_
  refine zw_goi (zw_rS F hE hP (zc_TL_isLedger_bad lc G b0 S l (by first | omega | assumption)) zk_TL_isLedger za_TL_isLedger wl_TL_20 ⟨rfl, rfl, Nat.le_of_ble_eq_true rfl, Nat.le_of_ble_eq_true rfl⟩ hl.1 rfl (Nat.le_of_ble_eq_true rfl) ⟨Nat.zero_le _, Nat.zero_le _⟩ dd_TL_voucher_1) hS (fun _ h => h) (fun H locs hP _ _ hS => ?_)
  refine lv_if_eq F.1 F.2.1 dd_TL_voucher_4 (tgt := 28) rfl (fun h4 => ?_) (fun h4 => absurd h4 (by decide))
  refine lv_iconst (v := (-1)) F.1 F.2.1 dd_TL_voucher_28 (by decide) ?_
  exact zw_iret F hr hlk hP hS rfl rfl dd_TL_voucher_29
set_option maxHeartbeats 4000000 in
set_option maxRecDepth 100000 in
theorem zc_TL_voucher_bad2 (lc : Launch) (G : zw_G) (b0 : Nat) (S : zs_S) (i : Nat) (k : Int32) (hi : i < 2) (hb : k < nI 1 ∨ S 10 i 0 0 < k) : zw_M lc ym_TL_voucher bm_TL_voucher 3 (some .int) { frames := 1, cells := 0, slots := 0, locals := 21 } G b0 176 (zp_p G b0 S) [.ref (b0 + zp_o 0 0 0), .int (nI i), .int k] (zw_Qi G b0 176 (zp_p G b0 S) (-1)) := by
  refine zw_of (by decide) (Nat.le_of_ble_eq_true rfl) ?_
  intro p e s m below meth cx ls F hr hlk hE hP hS hl
  have hl : lv_has ls 3 [(0, .ref (b0 + zp_o 0 0 0)), (1, .int (nI i)), (2, .int k)] := hl
  refine lv_iload_n F.1 F.2.1 dd_TL_voucher_0 rfl (lv_at hl 1 rfl) ?_
  refine zw_goi (zw_rS F hE hP (zc_TL_isLedger lc G b0 S i (by first | omega | assumption)) zk_TL_isLedger za_TL_isLedger wl_TL_20 ⟨rfl, rfl, Nat.le_of_ble_eq_true rfl, Nat.le_of_ble_eq_true rfl⟩ hl.1 rfl (Nat.le_of_ble_eq_true rfl) ⟨Nat.zero_le _, Nat.zero_le _⟩ dd_TL_voucher_1) hS (fun _ h => h) (fun H locs hP _ _ hS => ?_)
  refine lv_if_eq F.1 F.2.1 dd_TL_voucher_4 (tgt := 28) rfl (fun h4 => absurd h4 (by decide)) (fun h4 => ?_)
  refine lv_iload_n F.1 F.2.1 dd_TL_voucher_7 rfl (lv_at hl 2 rfl) ?_
  refine lv_iconst (v := nI 1) F.1 F.2.1 dd_TL_voucher_8 (by decide) ?_
  refine lv_icmp_lt F.1 F.2.1 dd_TL_voucher_9 (tgt := 28) rfl (fun h9 => ?_) (fun h9 => ?_)
  · refine lv_iconst (v := (-1)) F.1 F.2.1 dd_TL_voucher_28 (by decide) ?_
    exact zw_iret F hr hlk hP hS rfl rfl dd_TL_voucher_29
  · refine lv_aload_n F.1 F.2.1 dd_TL_voucher_12 rfl (lv_at hl 0 rfl) ?_
    refine zc_gF (t := 0) (i := 0) (j := 0) F hE hP ⟨by decide, (show 0 < 1 by omega), (show 0 < 1 by omega)⟩ rfl rfl zi_TL 1 (by decide) rfl wf_TL_11 rfl dd_TL_voucher_13 ?_
    refine lv_iload_n F.1 F.2.1 dd_TL_voucher_16 rfl (lv_at hl 1 rfl) ?_
    refine zc_aald (t := 1) (i := 0) (j := 0) (k := i) (N := 2) (z := 2) (a := (b0 + zp_o 2 i 0)) F hE hP ⟨by decide, (show 0 < 1 by omega), (show 0 < 1 by omega)⟩ rfl rfl rfl (by omega) (by decide) rfl dd_TL_voucher_17 ?_
    refine zc_gN (t := 2) (i := i) (j := 0) F hE hP ⟨by decide, (show i < 2 by omega), (show 0 < 1 by omega)⟩ rfl rfl zi_Ledger 4 (by decide) rfl wf_TL_66 rfl dd_TL_voucher_18 ?_
    refine lv_iload_n F.1 F.2.1 dd_TL_voucher_21 rfl (lv_at hl 2 rfl) ?_
    refine zw_goi (zw_rV F hE hP (zc_Bank_isKind lc G b0 S i k (by first | omega | assumption)) zk_Bank_isKind za_Bank_isKind zb_Bank_isKind wl_TL_70 ⟨rfl, rfl, Nat.le_of_ble_eq_true rfl, Nat.le_of_ble_eq_true rfl⟩ (zc_recv (t := 10) (i := i) (j := 0) hE hP ⟨by decide, (show i < 2 by omega), (show 0 < 1 by omega)⟩ rfl rfl) hl.1 rfl (Nat.le_of_ble_eq_true rfl) ⟨Nat.zero_le _, Nat.zero_le _⟩ dd_TL_voucher_22) hS (fun _ h => h) (fun H locs hP _ _ hS => ?_)
    refine zn_bne F dd_TL_voucher_25 (tgt := 30) rfl (fun h25 => Or.elim hb (fun z => absurd z h9) (fun z => absurd z h25.2)) (fun h25 => ?_)
    refine lv_iconst (v := (-1)) F.1 F.2.1 dd_TL_voucher_28 (by decide) ?_
    exact zw_iret F hr hlk hP hS rfl rfl dd_TL_voucher_29
set_option maxHeartbeats 4000000 in
set_option maxRecDepth 100000 in
theorem zc_TL_update (lc : Launch) (G : zw_G) (b0 : Nat) (S : zs_S) (i : Nat) (h : Int32) (x : Int32) (w : Int32) (hi : i < 2) (hh : S 2 (1 - i) 0 0 = nI (zs_n (S 2 (1 - i) 0 0))) (hh2 : zs_n (S 2 (1 - i) 0 0) ≤ 512) : zw_M lc ym_TL_update bm_TL_update 5 (some .int) { frames := 2, cells := 0, slots := 0, locals := 35 } G b0 176 (zp_p G b0 S) [.ref (b0 + zp_o 0 0 0), .int (nI i), .int h, .int x, .int w] (zw_Qi G b0 176 (zp_p G b0 (zs_cus S i h x w)) (zs_cur S i h x w)) := by
  refine zw_of (by decide) (Nat.le_of_ble_eq_true rfl) ?_
  intro p e s m below meth cx ls F hr hlk hE hP hS hl
  have hl : lv_has ls 5 [(0, .ref (b0 + zp_o 0 0 0)), (1, .int (nI i)), (2, .int h), (3, .int x), (4, .int w)] := hl
  refine lv_iload_n F.1 F.2.1 dd_TL_update_0 rfl (lv_at hl 1 rfl) ?_
  refine zw_goi (zw_rS F hE hP (zc_TL_isLedger lc G b0 S i (by first | omega | assumption)) zk_TL_isLedger za_TL_isLedger wl_TL_20 ⟨rfl, rfl, Nat.le_of_ble_eq_true rfl, Nat.le_of_ble_eq_true rfl⟩ hl.1 rfl (Nat.le_of_ble_eq_true rfl) ⟨Nat.zero_le _, Nat.zero_le _⟩ dd_TL_update_1) hS (fun _ h => h) (fun H locs hP _ _ hS => ?_)
  refine lv_if_eq F.1 F.2.1 dd_TL_update_4 (tgt := 27) rfl (fun h4 => absurd h4 (by decide)) (fun h4 => ?_)
  refine lv_iload_n F.1 F.2.1 dd_TL_update_7 rfl (lv_at hl 2 rfl) ?_
  refine lv_iconst (v := nI 1) F.1 F.2.1 dd_TL_update_8 (by decide) ?_
  refine lv_icmp_lt F.1 F.2.1 dd_TL_update_9 (tgt := 27) rfl (fun h9 => ?_) (fun h9 => ?_)
  · refine lv_iconst (v := (-1)) F.1 F.2.1 dd_TL_update_27 (by decide) ?_
    exact zw_iret F hr hlk hP hS (congrArg (zp_p G b0) (by rw [zs_cus, if_pos h9])) (by rw [zs_cur, if_pos h9]) dd_TL_update_28
  · refine lv_iload_n F.1 F.2.1 dd_TL_update_12 rfl (lv_at hl 2 rfl) ?_
    refine lv_aload_n F.1 F.2.1 dd_TL_update_13 rfl (lv_at hl 0 rfl) ?_
    refine zc_gF (t := 0) (i := 0) (j := 0) F hE hP ⟨by decide, (show 0 < 1 by omega), (show 0 < 1 by omega)⟩ rfl rfl zi_TL 1 (by decide) rfl wf_TL_11 rfl dd_TL_update_14 ?_
    refine lv_iconst (v := nI 1) F.1 F.2.1 dd_TL_update_17 (by decide) ?_
    refine lv_iload_n F.1 F.2.1 dd_TL_update_18 rfl (lv_at hl 1 rfl) ?_
    refine zn_isub F dd_TL_update_19 (by omega) ?_
    refine zc_aald (t := 1) (i := 0) (j := 0) (k := 1 - i) (N := 2) (z := 2) (a := (b0 + zp_o 2 (1 - i) 0)) F hE hP ⟨by decide, (show 0 < 1 by omega), (show 0 < 1 by omega)⟩ rfl rfl rfl (by omega) (by decide) rfl dd_TL_update_20 ?_
    refine zc_gN (t := 2) (i := 1 - i) (j := 0) F hE hP ⟨by decide, (show 1 - i < 2 by omega), (show 0 < 1 by omega)⟩ rfl rfl zi_Ledger 6 (by decide) rfl wf_TL_28 rfl dd_TL_update_21 ?_
    refine lv_icmp_le F.1 F.2.1 dd_TL_update_24 (tgt := 29) rfl (fun h24 => ?_) (fun h24 => ?_)
    · obtain ⟨q, hq, hq1, rfl⟩ := zs_uq hh hh2 h9 h24
      refine lv_iload F.1 F.2.1 dd_TL_update_29 (lv_at hl 4 rfl) ?_
      refine lv_if_ne F.1 F.2.1 dd_TL_update_31 (tgt := 45) rfl (fun h31 => ?_) (fun h31 => ?_)
      · refine lv_bipush (v := (-6)) F.1 F.2.1 dd_TL_update_45 (by decide) ?_
        exact zw_iret F hr hlk hP hS (congrArg (zp_p G b0) (by rw [zs_cus, if_neg h9, if_pos h24, if_neg h31])) (by rw [zs_cur, if_neg h9, if_pos h24, if_neg h31]) dd_TL_update_47
      · refine lv_iload_n F.1 F.2.1 dd_TL_update_34 rfl (lv_at hl 3 rfl) ?_
        refine lv_bipush (v := nI 15) F.1 F.2.1 dd_TL_update_35 (by decide) ?_
        refine lv_iand F.1 F.2.1 dd_TL_update_37 ?_
        refine zw_goi (zw_rS F hE hP (zc_Integer_bitCount lc G b0 S (x &&& (nI 15))) zk_Integer_bitCount za_Integer_bitCount wl_TL_31 ⟨rfl, rfl, Nat.le_of_ble_eq_true rfl, Nat.le_of_ble_eq_true rfl⟩ hl.1 rfl (Nat.le_of_ble_eq_true rfl) ⟨Nat.zero_le _, Nat.zero_le _⟩ dd_TL_update_38) hS (fun _ h => h) (fun H locs hP _ _ hS => ?_)
        refine lv_iconst (v := nI 3) F.1 F.2.1 dd_TL_update_41 (by decide) ?_
        refine lv_icmp_ge F.1 F.2.1 dd_TL_update_42 (tgt := 48) rfl (fun h42 => ?_) (fun h42 => ?_)
        · refine lv_aload_n F.1 F.2.1 dd_TL_update_48 rfl (lv_at hl 0 rfl) ?_
          refine zc_gF (t := 0) (i := 0) (j := 0) F hE hP ⟨by decide, (show 0 < 1 by omega), (show 0 < 1 by omega)⟩ rfl rfl zi_TL 1 (by decide) rfl wf_TL_11 rfl dd_TL_update_49 ?_
          refine lv_iload_n F.1 F.2.1 dd_TL_update_52 rfl (lv_at hl 1 rfl) ?_
          refine zc_aald (t := 1) (i := 0) (j := 0) (k := i) (N := 2) (z := 2) (a := (b0 + zp_o 2 i 0)) F hE hP ⟨by decide, (show 0 < 1 by omega), (show 0 < 1 by omega)⟩ rfl rfl rfl (by omega) (by decide) rfl dd_TL_update_53 ?_
          refine zc_gN (t := 2) (i := i) (j := 0) F hE hP ⟨by decide, (show i < 2 by omega), (show 0 < 1 by omega)⟩ rfl rfl zi_Ledger 3 (by decide) rfl wf_TL_37 rfl dd_TL_update_54 ?_
          refine lv_iload_n F.1 F.2.1 dd_TL_update_57 rfl (lv_at hl 2 rfl) ?_
          refine zw_gov (zw_rV F hE hP (zc_Client_learn lc G b0 S i q (by first | omega | assumption) (by first | omega | assumption) (by first | omega | assumption)) zk_Client_learn za_Client_learn zb_Client_learn wl_TL_41 ⟨rfl, rfl, Nat.le_of_ble_eq_true rfl, Nat.le_of_ble_eq_true rfl⟩ (zc_recv (t := 8) (i := i) (j := 0) hE hP ⟨by decide, (show i < 2 by omega), (show 0 < 1 by omega)⟩ rfl rfl) hl.1 rfl (Nat.le_of_ble_eq_true rfl) ⟨Nat.zero_le _, Nat.zero_le _⟩ dd_TL_update_58) hS (fun _ h => h) (fun H locs hP _ _ hS => ?_)
          refine lv_iconst (v := nI 0) F.1 F.2.1 dd_TL_update_61 (by decide) ?_
          exact zw_iret F hr hlk hP hS (congrArg (zp_p G b0) (by rw [zs_cus, if_neg h9, if_pos h24, if_pos h31, if_pos h42]; rw [nI_clamp (by omega)])) (by rw [zs_cur, if_neg h9, if_pos h24, if_pos h31, if_pos h42]) dd_TL_update_62
        · refine lv_bipush (v := (-6)) F.1 F.2.1 dd_TL_update_45 (by decide) ?_
          exact zw_iret F hr hlk hP hS (congrArg (zp_p G b0) (by rw [zs_cus, if_neg h9, if_pos h24, if_pos h31, if_neg h42])) (by rw [zs_cur, if_neg h9, if_pos h24, if_pos h31, if_neg h42]) dd_TL_update_47
    · refine lv_iconst (v := (-1)) F.1 F.2.1 dd_TL_update_27 (by decide) ?_
      exact zw_iret F hr hlk hP hS (congrArg (zp_p G b0) (by rw [zs_cus, if_neg h9, if_neg h24])) (by rw [zs_cur, if_neg h9, if_neg h24]) dd_TL_update_28
set_option maxHeartbeats 4000000 in
set_option maxRecDepth 100000 in
theorem zc_TL_update_bad (lc : Launch) (G : zw_G) (b0 : Nat) (S : zs_S) (l : Int32) (h : Int32) (x : Int32) (w : Int32) (hb : ¬ zs_v l 2) : zw_M lc ym_TL_update bm_TL_update 5 (some .int) { frames := 1, cells := 0, slots := 0, locals := 20 } G b0 176 (zp_p G b0 S) [.ref (b0 + zp_o 0 0 0), .int l, .int h, .int x, .int w] (zw_Qi G b0 176 (zp_p G b0 S) (-1)) := by
  refine zw_of (by decide) (Nat.le_of_ble_eq_true rfl) ?_
  intro p e s m below meth cx ls F hr hlk hE hP hS hl
  have hl : lv_has ls 5 [(0, .ref (b0 + zp_o 0 0 0)), (1, .int l), (2, .int h), (3, .int x), (4, .int w)] := hl
  refine lv_iload_n F.1 F.2.1 dd_TL_update_0 rfl (lv_at hl 1 rfl) ?_
  refine zw_goi (zw_rS F hE hP (zc_TL_isLedger_bad lc G b0 S l (by first | omega | assumption)) zk_TL_isLedger za_TL_isLedger wl_TL_20 ⟨rfl, rfl, Nat.le_of_ble_eq_true rfl, Nat.le_of_ble_eq_true rfl⟩ hl.1 rfl (Nat.le_of_ble_eq_true rfl) ⟨Nat.zero_le _, Nat.zero_le _⟩ dd_TL_update_1) hS (fun _ h => h) (fun H locs hP _ _ hS => ?_)
  refine lv_if_eq F.1 F.2.1 dd_TL_update_4 (tgt := 27) rfl (fun h4 => ?_) (fun h4 => absurd h4 (by decide))
  refine lv_iconst (v := (-1)) F.1 F.2.1 dd_TL_update_27 (by decide) ?_
  exact zw_iret F hr hlk hP hS rfl rfl dd_TL_update_28
set_option maxHeartbeats 4000000 in
set_option maxRecDepth 100000 in
theorem zc_Mo_outside (lc : Launch) (G : zw_G) (b0 : Nat) (T : zs_T) (v : Int32) (a : Int32) (b : Int32)  : zw_M lc ym_Mo_outside bm_Mo_outside 3 (some .boolean) { frames := 0, cells := 0, slots := 0, locals := 0 } G b0 26 (zq_p G b0 T) [.int v, .int a, .int b] (zw_Qi G b0 26 (zq_p G b0 T) (zn_b (v < a ∨ b < v))) := by
  refine zw_of (by decide) (Nat.le_of_ble_eq_true rfl) ?_
  intro p e s m below meth cx ls F hr hlk hE hP hS hl
  have hl : lv_has ls 3 [(0, .int v), (1, .int a), (2, .int b)] := hl
  refine lv_iload_n F.1 F.2.1 dd_Mo_outside_0 rfl (lv_at hl 0 rfl) ?_
  refine lv_iload_n F.1 F.2.1 dd_Mo_outside_1 rfl (lv_at hl 1 rfl) ?_
  refine lv_icmp_lt F.1 F.2.1 dd_Mo_outside_2 (tgt := 10) rfl (fun h2 => ?_) (fun h2 => ?_)
  · refine lv_iconst (v := nI 1) F.1 F.2.1 dd_Mo_outside_10 (by decide) ?_
    refine lv_goto F.1 F.2.1 dd_Mo_outside_11 (tgt := 15) rfl ?_
    exact zw_zret F hr hlk hP hS rfl (by decide) ((zn_b1 (Or.inl h2)).symm) dd_Mo_outside_15
  · refine lv_iload_n F.1 F.2.1 dd_Mo_outside_5 rfl (lv_at hl 0 rfl) ?_
    refine lv_iload_n F.1 F.2.1 dd_Mo_outside_6 rfl (lv_at hl 2 rfl) ?_
    refine lv_icmp_le F.1 F.2.1 dd_Mo_outside_7 (tgt := 14) rfl (fun h7 => ?_) (fun h7 => ?_)
    · refine lv_iconst (v := nI 0) F.1 F.2.1 dd_Mo_outside_14 (by decide) ?_
      exact zw_zret F hr hlk hP hS rfl (by decide) ((zn_b0 (fun z => z.elim h2 (fun y => zn_ltle y h7))).symm) dd_Mo_outside_15
    · refine lv_iconst (v := nI 1) F.1 F.2.1 dd_Mo_outside_10 (by decide) ?_
      refine lv_goto F.1 F.2.1 dd_Mo_outside_11 (tgt := 15) rfl ?_
      exact zw_zret F hr hlk hP hS rfl (by decide) ((zn_b1 (Or.inr (zn_nlelt h7))).symm) dd_Mo_outside_15
set_option maxHeartbeats 4000000 in
set_option maxRecDepth 100000 in
theorem zc_Mo_mix (lc : Launch) (G : zw_G) (b0 : Nat) (T : zs_T) (h : Int32) (x : Int32)  : zw_M lc ym_Mo_mix bm_Mo_mix 3 (some .int) { frames := 0, cells := 0, slots := 0, locals := 0 } G b0 26 (zq_p G b0 T) [.int h, .int x] (zw_Qi G b0 26 (zq_p G b0 T) (zs_mix h x)) := by
  refine zw_of (by decide) (Nat.le_of_ble_eq_true rfl) ?_
  intro p e s m below meth cx ls F hr hlk hE hP hS hl
  have hl : lv_has ls 3 [(0, .int h), (1, .int x)] := hl
  refine lv_iload_n F.1 F.2.1 dd_Mo_mix_0 rfl (lv_at hl 0 rfl) ?_
  refine lv_iload_n F.1 F.2.1 dd_Mo_mix_1 rfl (lv_at hl 1 rfl) ?_
  refine lv_ixor F.1 F.2.1 dd_Mo_mix_2 ?_
  refine lv_ldc (v := 73244475) F.1 F.2.1 F.2.2.2.1 (F.2.2.2.2 _ wc_Mo_90) dd_Mo_mix_3 ?_
  refine lv_imul F.1 F.2.1 dd_Mo_mix_5 ?_
  refine lv_istore_n F.1 F.2.1 dd_Mo_mix_6 rfl hl (by decide) (lv' := [(2, .int ((h ^^^ x) * 73244475)), (0, .int h), (1, .int x)]) rfl (fun ls hl => ?_)
  refine lv_iload_n F.1 F.2.1 dd_Mo_mix_7 rfl (lv_at hl 0 rfl) ?_
  refine lv_iload_n F.1 F.2.1 dd_Mo_mix_8 rfl (lv_at hl 0 rfl) ?_
  refine lv_bipush (v := nI 15) F.1 F.2.1 dd_Mo_mix_9 (by decide) ?_
  refine lv_iushr F.1 F.2.1 dd_Mo_mix_11 rfl ?_
  refine lv_ixor F.1 F.2.1 dd_Mo_mix_12 ?_
  exact zw_iret F hr hlk hP hS rfl rfl dd_Mo_mix_13
set_option maxHeartbeats 4000000 in
set_option maxRecDepth 100000 in
theorem zc_Mo_flag (lc : Launch) (G : zw_G) (b0 : Nat) (T : zs_T) (w : Int32)  : zw_M lc ym_Mo_flag bm_Mo_flag 1 (some .int) { frames := 0, cells := 0, slots := 0, locals := 0 } G b0 26 (zq_p G b0 T) [.int w] (zw_Qi G b0 26 (zq_p G b0 T) (zs_fl w)) := by
  refine zw_of (by decide) (Nat.le_of_ble_eq_true rfl) ?_
  intro p e s m below meth cx ls F hr hlk hE hP hS hl
  have hl : lv_has ls 1 [(0, .int w)] := hl
  refine lv_iload_n F.1 F.2.1 dd_Mo_flag_0 rfl (lv_at hl 0 rfl) ?_
  refine lv_if_eq F.1 F.2.1 dd_Mo_flag_1 (tgt := 8) rfl (fun h1 => ?_) (fun h1 => ?_)
  · refine lv_iconst (v := nI 0) F.1 F.2.1 dd_Mo_flag_8 (by decide) ?_
    exact zw_iret F hr hlk hP hS rfl (by rw [zs_fl, if_pos h1]) dd_Mo_flag_9
  · refine lv_iconst (v := nI 1) F.1 F.2.1 dd_Mo_flag_4 (by decide) ?_
    refine lv_goto F.1 F.2.1 dd_Mo_flag_5 (tgt := 9) rfl ?_
    exact zw_iret F hr hlk hP hS rfl (by rw [zs_fl, if_neg h1]) dd_Mo_flag_9
set_option maxHeartbeats 4000000 in
set_option maxRecDepth 100000 in
theorem zc_Mo_isEnd (lc : Launch) (G : zw_G) (b0 : Nat) (T : zs_T) (i : Nat) (c : Nat) (hi : i < 2) (hc : c < 3) : zw_M lc ym_Mo_isEnd bm_Mo_isEnd 2 (some .boolean) { frames := 1, cells := 0, slots := 0, locals := 22 } G b0 26 (zq_p G b0 T) [.int (nI i), .int (nI c)] (zw_Qi G b0 26 (zq_p G b0 T) (nI 1)) := by
  refine zw_of (by decide) (Nat.le_of_ble_eq_true rfl) ?_
  intro p e s m below meth cx ls F hr hlk hE hP hS hl
  have hl : lv_has ls 2 [(0, .int (nI i)), (1, .int (nI c))] := hl
  refine lv_iload_n F.1 F.2.1 dd_Mo_isEnd_0 rfl (lv_at hl 0 rfl) ?_
  refine lv_iconst (v := nI 0) F.1 F.2.1 dd_Mo_isEnd_1 (by decide) ?_
  refine lv_iconst (v := nI 1) F.1 F.2.1 dd_Mo_isEnd_2 (by decide) ?_
  refine zw_goi (zw_rS F hE hP (zc_Mo_outside lc G b0 T (nI i) (nI 0) (nI 1)) zk_Mo_outside za_Mo_outside wl_Mo_91 ⟨rfl, rfl, Nat.le_of_ble_eq_true rfl, Nat.le_of_ble_eq_true rfl⟩ hl.1 rfl (Nat.le_of_ble_eq_true rfl) ⟨Nat.zero_le _, Nat.zero_le _⟩ dd_Mo_isEnd_3) hS (fun _ h => h) (fun H locs hP _ _ hS => ?_)
  refine zn_bne F dd_Mo_isEnd_6 (tgt := 22) rfl (fun h6 => absurd h6 (zn_ins (by omega) (by omega) (by decide))) (fun h6 => ?_)
  refine lv_iload_n F.1 F.2.1 dd_Mo_isEnd_9 rfl (lv_at hl 1 rfl) ?_
  refine lv_iconst (v := nI 0) F.1 F.2.1 dd_Mo_isEnd_10 (by decide) ?_
  refine lv_iconst (v := nI 2) F.1 F.2.1 dd_Mo_isEnd_11 (by decide) ?_
  refine zw_goi (zw_rS F hE hP (zc_Mo_outside lc G b0 T (nI c) (nI 0) (nI 2)) zk_Mo_outside za_Mo_outside wl_Mo_91 ⟨rfl, rfl, Nat.le_of_ble_eq_true rfl, Nat.le_of_ble_eq_true rfl⟩ hl.1 rfl (Nat.le_of_ble_eq_true rfl) ⟨Nat.zero_le _, Nat.zero_le _⟩ dd_Mo_isEnd_12) hS (fun _ h => h) (fun H locs hP _ _ hS => ?_)
  refine zn_bne F dd_Mo_isEnd_15 (tgt := 22) rfl (fun h15 => absurd h15 (zn_ins (by omega) (by omega) (by decide))) (fun h15 => ?_)
  refine lv_iconst (v := nI 1) F.1 F.2.1 dd_Mo_isEnd_18 (by decide) ?_
  refine lv_goto F.1 F.2.1 dd_Mo_isEnd_19 (tgt := 23) rfl ?_
  exact zw_zret F hr hlk hP hS rfl (by decide) rfl dd_Mo_isEnd_23
set_option maxHeartbeats 4000000 in
set_option maxRecDepth 100000 in
theorem zc_Mo_isEnd_bad (lc : Launch) (G : zw_G) (b0 : Nat) (T : zs_T) (l : Int32) (d : Int32) (hb : ¬ (zs_v l 2 ∧ zs_v d 3)) : zw_M lc ym_Mo_isEnd bm_Mo_isEnd 2 (some .boolean) { frames := 1, cells := 0, slots := 0, locals := 22 } G b0 26 (zq_p G b0 T) [.int l, .int d] (zw_Qi G b0 26 (zq_p G b0 T) (nI 0)) := by
  refine zw_of (by decide) (Nat.le_of_ble_eq_true rfl) ?_
  intro p e s m below meth cx ls F hr hlk hE hP hS hl
  have hl : lv_has ls 2 [(0, .int l), (1, .int d)] := hl
  refine lv_iload_n F.1 F.2.1 dd_Mo_isEnd_0 rfl (lv_at hl 0 rfl) ?_
  refine lv_iconst (v := nI 0) F.1 F.2.1 dd_Mo_isEnd_1 (by decide) ?_
  refine lv_iconst (v := nI 1) F.1 F.2.1 dd_Mo_isEnd_2 (by decide) ?_
  refine zw_goi (zw_rS F hE hP (zc_Mo_outside lc G b0 T l (nI 0) (nI 1)) zk_Mo_outside za_Mo_outside wl_Mo_91 ⟨rfl, rfl, Nat.le_of_ble_eq_true rfl, Nat.le_of_ble_eq_true rfl⟩ hl.1 rfl (Nat.le_of_ble_eq_true rfl) ⟨Nat.zero_le _, Nat.zero_le _⟩ dd_Mo_isEnd_3) hS (fun _ h => h) (fun H locs hP _ _ hS => ?_)
  refine zn_bne F dd_Mo_isEnd_6 (tgt := 22) rfl (fun h6 => ?_) (fun h6 => ?_)
  · refine lv_iconst (v := nI 0) F.1 F.2.1 dd_Mo_isEnd_22 (by decide) ?_
    exact zw_zret F hr hlk hP hS rfl (by decide) rfl dd_Mo_isEnd_23
  · refine lv_iload_n F.1 F.2.1 dd_Mo_isEnd_9 rfl (lv_at hl 1 rfl) ?_
    refine lv_iconst (v := nI 0) F.1 F.2.1 dd_Mo_isEnd_10 (by decide) ?_
    refine lv_iconst (v := nI 2) F.1 F.2.1 dd_Mo_isEnd_11 (by decide) ?_
    refine zw_goi (zw_rS F hE hP (zc_Mo_outside lc G b0 T d (nI 0) (nI 2)) zk_Mo_outside za_Mo_outside wl_Mo_91 ⟨rfl, rfl, Nat.le_of_ble_eq_true rfl, Nat.le_of_ble_eq_true rfl⟩ hl.1 rfl (Nat.le_of_ble_eq_true rfl) ⟨Nat.zero_le _, Nat.zero_le _⟩ dd_Mo_isEnd_12) hS (fun _ h => h) (fun H locs hP _ _ hS => ?_)
    refine zn_bne F dd_Mo_isEnd_15 (tgt := 22) rfl (fun h15 => ?_) (fun h15 => absurd ⟨zs_vo (n := 1) (by decide) h6, zs_vo (n := 2) (by decide) h15⟩ hb)
    refine lv_iconst (v := nI 0) F.1 F.2.1 dd_Mo_isEnd_22 (by decide) ?_
    exact zw_zret F hr hlk hP hS rfl (by decide) rfl dd_Mo_isEnd_23
set_option maxHeartbeats 4000000 in
set_option maxRecDepth 100000 in
theorem zc_Mo_list (lc : Launch) (G : zw_G) (b0 : Nat) (T : zs_T) (i : Nat) (y : Int32) (v : Int32) (hi : i < 2) (hL : zs_LT T i 127) : zw_M lc ym_Mo_list bm_Mo_list 5 none { frames := 0, cells := 0, slots := 0, locals := 0 } G b0 26 (zq_p G b0 T) [.ref (b0 + 0), .int (nI i), .int y, .int v] (zw_Qv G b0 26 (zq_p G b0 (zs_li T i y v))) := by
  refine zw_of (by decide) (Nat.le_of_ble_eq_true rfl) ?_
  intro p e s m below meth cx ls F hr hlk hE hP hS hl
  have hl : lv_has ls 5 [(0, .ref (b0 + 0)), (1, .int (nI i)), (2, .int y), (3, .int v)] := hl
  have hL1 := hL.1.2
  have hL2 := hL.2.2
  refine lv_bipush (v := nI 8) F.1 F.2.1 dd_Mo_list_0 (by decide) ?_
  refine lv_iload_n F.1 F.2.1 dd_Mo_list_2 rfl (lv_at hl 1 rfl) ?_
  refine zn_imul F dd_Mo_list_3 ?_
  refine lv_aload_n F.1 F.2.1 dd_Mo_list_4 rfl (lv_at hl 0 rfl) ?_
  refine zm_gF F hE hP rfl rfl zi_Mo 1 (by decide) rfl wf_Mo_7 rfl dd_Mo_list_5 ?_
  refine lv_iload_n F.1 F.2.1 dd_Mo_list_8 rfl (lv_at hl 1 rfl) ?_
  refine zm_iald (x := 1) (k := i) (N := 2) F hE hP (by decide) (fun _ => rfl) (by omega) (by decide) dd_Mo_list_9 ?_
  refine zn_top (y := nI (zs_n (T 1 i))) (hL.1.1) ?_
  refine lv_bipush (v := nI 8) F.1 F.2.1 dd_Mo_list_10 (by decide) ?_
  refine zn_irem F dd_Mo_list_12 (by omega) (by decide) (by decide) ?_
  refine zn_iadd F dd_Mo_list_13 ?_
  refine lv_istore F.1 F.2.1 dd_Mo_list_14 hl (by decide) (lv' := [(4, .int (nI ((8 * i) + ((zs_n (T 1 i)) % 8)))), (0, .ref (b0 + 0)), (1, .int (nI i)), (2, .int y), (3, .int v)]) rfl (fun ls hl => ?_)
  refine lv_aload_n F.1 F.2.1 dd_Mo_list_16 rfl (lv_at hl 1 rfl) ?_
  refine zm_gF F hE hP rfl rfl zi_Mo 5 (by decide) rfl wf_Mo_23 rfl dd_Mo_list_17 ?_
  refine lv_sipush (v := nI 128) F.1 F.2.1 dd_Mo_list_20 (by decide) ?_
  refine lv_iload F.1 F.2.1 dd_Mo_list_23 (lv_at hl 0 rfl) ?_
  refine zn_imul F dd_Mo_list_25 ?_
  refine lv_aload_n F.1 F.2.1 dd_Mo_list_26 rfl (lv_at hl 1 rfl) ?_
  refine zm_gF F hE hP rfl rfl zi_Mo 4 (by decide) rfl wf_Mo_20 rfl dd_Mo_list_27 ?_
  refine lv_iload F.1 F.2.1 dd_Mo_list_30 (lv_at hl 0 rfl) ?_
  refine zm_iald (x := 4) (k := (8 * i) + ((zs_n (T 1 i)) % 8)) (N := 16) F hE hP (by decide) (fun _ => rfl) (by omega) (by decide) dd_Mo_list_32 ?_
  refine zn_top (y := nI (zs_n (T 4 (8 * i + zs_n (T 1 i) % 8)))) (hL.2.1) ?_
  refine zn_iadd F dd_Mo_list_33 ?_
  refine lv_iload_n F.1 F.2.1 dd_Mo_list_34 rfl (lv_at hl 3 rfl) ?_
  refine zm_iast (x := 5) (k := (128 * ((8 * i) + ((zs_n (T 1 i)) % 8))) + (zs_n (T 4 (8 * i + zs_n (T 1 i) % 8)))) (N := 2048) F hE hP hS (fun _ h => h) (by decide) (fun _ => rfl) (by omega) (by decide)  dd_Mo_list_35 (fun H locs hP hS => ?_)
  refine lv_aload_n F.1 F.2.1 dd_Mo_list_36 rfl (lv_at hl 1 rfl) ?_
  refine zm_gF F hE hP rfl rfl zi_Mo 6 (by decide) rfl wf_Mo_26 rfl dd_Mo_list_37 ?_
  refine lv_sipush (v := nI 128) F.1 F.2.1 dd_Mo_list_40 (by decide) ?_
  refine lv_iload F.1 F.2.1 dd_Mo_list_43 (lv_at hl 0 rfl) ?_
  refine zn_imul F dd_Mo_list_45 ?_
  refine lv_aload_n F.1 F.2.1 dd_Mo_list_46 rfl (lv_at hl 1 rfl) ?_
  refine zm_gF F hE hP rfl rfl zi_Mo 4 (by decide) rfl wf_Mo_20 rfl dd_Mo_list_47 ?_
  refine lv_iload F.1 F.2.1 dd_Mo_list_50 (lv_at hl 0 rfl) ?_
  refine zm_iald (x := 4) (k := (8 * i) + ((zs_n (T 1 i)) % 8)) (N := 16) F hE hP (by decide) (fun _ => rfl) (by omega) (by decide) dd_Mo_list_52 ?_
  refine zn_top (y := T 4 ((8 * i) + ((zs_n (T 1 i)) % 8))) (by rw [zs_wx (by decide)]) ?_
  refine zn_top (y := nI (zs_n (T 4 (8 * i + zs_n (T 1 i) % 8)))) (hL.2.1) ?_
  refine zn_iadd F dd_Mo_list_53 ?_
  refine lv_iload_n F.1 F.2.1 dd_Mo_list_54 rfl (lv_at hl 4 rfl) ?_
  refine zm_iast (x := 6) (k := (128 * ((8 * i) + ((zs_n (T 1 i)) % 8))) + (zs_n (T 4 (8 * i + zs_n (T 1 i) % 8)))) (N := 2048) F hE hP hS (fun _ h => h) (by decide) (fun _ => rfl) (by omega) (by decide)  dd_Mo_list_55 (fun H locs hP hS => ?_)
  refine lv_aload_n F.1 F.2.1 dd_Mo_list_56 rfl (lv_at hl 1 rfl) ?_
  refine zm_gF F hE hP rfl rfl zi_Mo 4 (by decide) rfl wf_Mo_20 rfl dd_Mo_list_57 ?_
  refine lv_iload F.1 F.2.1 dd_Mo_list_60 (lv_at hl 0 rfl) ?_
  refine lv_dup2_11 F.1 F.2.1 dd_Mo_list_62 rfl rfl ?_
  refine zm_iald (x := 4) (k := (8 * i) + ((zs_n (T 1 i)) % 8)) (N := 16) F hE hP (by decide) (fun _ => rfl) (by omega) (by decide) dd_Mo_list_63 ?_
  refine zn_top (y := T 4 ((8 * i) + ((zs_n (T 1 i)) % 8))) (by rw [zs_wx (by decide), zs_wx (by decide)]) ?_
  refine zn_top (y := nI (zs_n (T 4 (8 * i + zs_n (T 1 i) % 8)))) (hL.2.1) ?_
  refine lv_iconst (v := nI 1) F.1 F.2.1 dd_Mo_list_64 (by decide) ?_
  refine zn_iadd F dd_Mo_list_65 ?_
  refine zm_iast (x := 4) (k := (8 * i) + ((zs_n (T 1 i)) % 8)) (N := 16) F hE hP hS (fun _ h => h) (by decide) (fun _ => rfl) (by omega) (by decide)  dd_Mo_list_66 (fun H locs hP hS => ?_)
  exact zw_vret F hr hlk hP hS rfl dd_Mo_list_67
set_option maxHeartbeats 4000000 in
set_option maxRecDepth 100000 in
theorem zc_Mo_print (lc : Launch) (G : zw_G) (b0 : Nat) (T : zs_T) (q : Nat) (x : Int32) (hq : q < 78) : zw_M lc ym_Mo_print bm_Mo_print 3 (some .int) { frames := 1, cells := 0, slots := 0, locals := 22 } G b0 26 (zq_p G b0 T) [.ref (b0 + 0), .int (nI q), .int x] (zw_Qi G b0 26 (zq_p G b0 T) (zs_mp T q x)) := by
  refine zw_of (by decide) (Nat.le_of_ble_eq_true rfl) ?_
  intro p e s m below meth cx ls F hr hlk hE hP hS hl
  have hl : lv_has ls 3 [(0, .ref (b0 + 0)), (1, .int (nI q)), (2, .int x)] := hl
  refine lv_iconst (v := nI 3) F.1 F.2.1 dd_Mo_print_0 (by decide) ?_
  refine lv_aload_n F.1 F.2.1 dd_Mo_print_1 rfl (lv_at hl 0 rfl) ?_
  refine zm_gF F hE hP rfl rfl zi_Mo 12 (by decide) rfl wf_Mo_44 rfl dd_Mo_print_2 ?_
  refine lv_iload_n F.1 F.2.1 dd_Mo_print_5 rfl (lv_at hl 1 rfl) ?_
  refine zm_iald (x := 12) (k := q) (N := 78) F hE hP (by decide) (fun _ => rfl) (by omega) (by decide) dd_Mo_print_6 ?_
  refine zw_goi (zw_rS F hE hP (zc_Mo_mix lc G b0 T (nI 3) (T 12 q)) zk_Mo_mix za_Mo_mix wl_Mo_107 ⟨rfl, rfl, Nat.le_of_ble_eq_true rfl, Nat.le_of_ble_eq_true rfl⟩ hl.1 rfl (Nat.le_of_ble_eq_true rfl) ⟨Nat.zero_le _, Nat.zero_le _⟩ dd_Mo_print_7) hS (fun _ h => h) (fun H locs hP _ _ hS => ?_)
  refine lv_iload_n F.1 F.2.1 dd_Mo_print_10 rfl (lv_at hl 2 rfl) ?_
  refine zw_goi (zw_rS F hE hP (zc_Mo_mix lc G b0 T (zs_mix (nI 3) (T 12 q)) x) zk_Mo_mix za_Mo_mix wl_Mo_107 ⟨rfl, rfl, Nat.le_of_ble_eq_true rfl, Nat.le_of_ble_eq_true rfl⟩ hl.1 rfl (Nat.le_of_ble_eq_true rfl) ⟨Nat.zero_le _, Nat.zero_le _⟩ dd_Mo_print_11) hS (fun _ h => h) (fun H locs hP _ _ hS => ?_)
  refine lv_aload_n F.1 F.2.1 dd_Mo_print_14 rfl (lv_at hl 0 rfl) ?_
  refine zm_gF F hE hP rfl rfl zi_Mo 14 (by decide) rfl wf_Mo_50 rfl dd_Mo_print_15 ?_
  refine lv_iload_n F.1 F.2.1 dd_Mo_print_18 rfl (lv_at hl 1 rfl) ?_
  refine zm_iald (x := 14) (k := q) (N := 78) F hE hP (by decide) (fun _ => rfl) (by omega) (by decide) dd_Mo_print_19 ?_
  refine zw_goi (zw_rS F hE hP (zc_Mo_mix lc G b0 T (zs_mix (zs_mix (nI 3) (T 12 q)) x) (T 14 q)) zk_Mo_mix za_Mo_mix wl_Mo_107 ⟨rfl, rfl, Nat.le_of_ble_eq_true rfl, Nat.le_of_ble_eq_true rfl⟩ hl.1 rfl (Nat.le_of_ble_eq_true rfl) ⟨Nat.zero_le _, Nat.zero_le _⟩ dd_Mo_print_20) hS (fun _ h => h) (fun H locs hP _ _ hS => ?_)
  refine lv_aload_n F.1 F.2.1 dd_Mo_print_23 rfl (lv_at hl 0 rfl) ?_
  refine zm_gF F hE hP rfl rfl zi_Mo 15 (by decide) rfl wf_Mo_53 rfl dd_Mo_print_24 ?_
  refine lv_iload_n F.1 F.2.1 dd_Mo_print_27 rfl (lv_at hl 1 rfl) ?_
  refine zm_iald (x := 15) (k := q) (N := 78) F hE hP (by decide) (fun _ => rfl) (by omega) (by decide) dd_Mo_print_28 ?_
  refine zw_goi (zw_rS F hE hP (zc_Mo_mix lc G b0 T (zs_mix (zs_mix (zs_mix (nI 3) (T 12 q)) x) (T 14 q)) (T 15 q)) zk_Mo_mix za_Mo_mix wl_Mo_107 ⟨rfl, rfl, Nat.le_of_ble_eq_true rfl, Nat.le_of_ble_eq_true rfl⟩ hl.1 rfl (Nat.le_of_ble_eq_true rfl) ⟨Nat.zero_le _, Nat.zero_le _⟩ dd_Mo_print_29) hS (fun _ h => h) (fun H locs hP _ _ hS => ?_)
  refine lv_aload_n F.1 F.2.1 dd_Mo_print_32 rfl (lv_at hl 0 rfl) ?_
  refine zm_gF F hE hP rfl rfl zi_Mo 16 (by decide) rfl wf_Mo_56 rfl dd_Mo_print_33 ?_
  refine lv_iload_n F.1 F.2.1 dd_Mo_print_36 rfl (lv_at hl 1 rfl) ?_
  refine zm_iald (x := 16) (k := q) (N := 78) F hE hP (by decide) (fun _ => rfl) (by omega) (by decide) dd_Mo_print_37 ?_
  refine zw_goi (zw_rS F hE hP (zc_Mo_mix lc G b0 T (zs_mix (zs_mix (zs_mix (zs_mix (nI 3) (T 12 q)) x) (T 14 q)) (T 15 q)) (T 16 q)) zk_Mo_mix za_Mo_mix wl_Mo_107 ⟨rfl, rfl, Nat.le_of_ble_eq_true rfl, Nat.le_of_ble_eq_true rfl⟩ hl.1 rfl (Nat.le_of_ble_eq_true rfl) ⟨Nat.zero_le _, Nat.zero_le _⟩ dd_Mo_print_38) hS (fun _ h => h) (fun H locs hP _ _ hS => ?_)
  exact zw_iret F hr hlk hP hS rfl rfl dd_Mo_print_41
set_option maxHeartbeats 4000000 in
set_option maxRecDepth 100000 in
theorem zc_Mo_keeps (lc : Launch) (G : zw_G) (b0 : Nat) (T : zs_T) (i : Nat) (h : Int32) (hi : i < 2) : zw_M lc ym_Mo_keeps bm_Mo_keeps 3 (some .boolean) { frames := 0, cells := 0, slots := 0, locals := 0 } G b0 26 (zq_p G b0 T) [.ref (b0 + 0), .int (nI i), .int h] (zw_Qi G b0 26 (zq_p G b0 T) (zn_b (zs_mk T i h))) := by
  refine zw_of (by decide) (Nat.le_of_ble_eq_true rfl) ?_
  intro p e s m below meth cx ls F hr hlk hE hP hS hl
  have hl : lv_has ls 3 [(0, .ref (b0 + 0)), (1, .int (nI i)), (2, .int h)] := hl
  refine lv_iload_n F.1 F.2.1 dd_Mo_keeps_0 rfl (lv_at hl 2 rfl) ?_
  refine lv_iconst (v := nI 1) F.1 F.2.1 dd_Mo_keeps_1 (by decide) ?_
  refine lv_icmp_lt F.1 F.2.1 dd_Mo_keeps_2 (tgt := 32) rfl (fun h2 => ?_) (fun h2 => ?_)
  · refine lv_iconst (v := nI 0) F.1 F.2.1 dd_Mo_keeps_32 (by decide) ?_
    exact zw_zret F hr hlk hP hS rfl (by decide) ((zn_b0 (fun z => z.1 h2)).symm) dd_Mo_keeps_33
  · refine lv_iload_n F.1 F.2.1 dd_Mo_keeps_5 rfl (lv_at hl 2 rfl) ?_
    refine lv_aload_n F.1 F.2.1 dd_Mo_keeps_6 rfl (lv_at hl 0 rfl) ?_
    refine zm_gF F hE hP rfl rfl zi_Mo 1 (by decide) rfl wf_Mo_7 rfl dd_Mo_keeps_7 ?_
    refine lv_iload_n F.1 F.2.1 dd_Mo_keeps_10 rfl (lv_at hl 1 rfl) ?_
    refine zm_iald (x := 1) (k := i) (N := 2) F hE hP (by decide) (fun _ => rfl) (by omega) (by decide) dd_Mo_keeps_11 ?_
    refine lv_icmp_gt F.1 F.2.1 dd_Mo_keeps_12 (tgt := 32) rfl (fun h12 => ?_) (fun h12 => ?_)
    · refine lv_iconst (v := nI 0) F.1 F.2.1 dd_Mo_keeps_32 (by decide) ?_
      exact zw_zret F hr hlk hP hS rfl (by decide) ((zn_b0 (fun z => z.2.1 h12)).symm) dd_Mo_keeps_33
    · refine lv_iload_n F.1 F.2.1 dd_Mo_keeps_15 rfl (lv_at hl 2 rfl) ?_
      refine lv_aload_n F.1 F.2.1 dd_Mo_keeps_16 rfl (lv_at hl 0 rfl) ?_
      refine zm_gF F hE hP rfl rfl zi_Mo 1 (by decide) rfl wf_Mo_7 rfl dd_Mo_keeps_17 ?_
      refine lv_iload_n F.1 F.2.1 dd_Mo_keeps_20 rfl (lv_at hl 1 rfl) ?_
      refine zm_iald (x := 1) (k := i) (N := 2) F hE hP (by decide) (fun _ => rfl) (by omega) (by decide) dd_Mo_keeps_21 ?_
      refine lv_bipush (v := nI 8) F.1 F.2.1 dd_Mo_keeps_22 (by decide) ?_
      refine lv_isub F.1 F.2.1 dd_Mo_keeps_24 ?_
      refine lv_icmp_le F.1 F.2.1 dd_Mo_keeps_25 (tgt := 32) rfl (fun h25 => ?_) (fun h25 => ?_)
      · refine lv_iconst (v := nI 0) F.1 F.2.1 dd_Mo_keeps_32 (by decide) ?_
        exact zw_zret F hr hlk hP hS rfl (by decide) ((zn_b0 (fun z => z.2.2 h25)).symm) dd_Mo_keeps_33
      · refine lv_iconst (v := nI 1) F.1 F.2.1 dd_Mo_keeps_28 (by decide) ?_
        refine lv_goto F.1 F.2.1 dd_Mo_keeps_29 (tgt := 33) rfl ?_
        exact zw_zret F hr hlk hP hS rfl (by decide) ((zn_b1 ⟨h2, h12, h25⟩).symm) dd_Mo_keeps_33
