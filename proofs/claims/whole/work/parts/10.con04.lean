set_option maxHeartbeats 4000000 in
set_option maxRecDepth 100000 in
theorem zc_TL_root (lc : Launch) (G : zw_G) (b0 : Nat) (S : zs_S) (i : Nat) (h : Int32) (hi : i < 2) : zw_M lc ym_TL_root bm_TL_root 3 (some .int) { frames := 3, cells := 0, slots := 0, locals := 69 } G b0 176 (zp_p G b0 S) [.ref (b0 + zp_o 0 0 0), .int (nI i), .int h] (zw_Qi G b0 176 (zp_p G b0 (zs_rs S i h)) (zs_ra S i h)) := by
  refine zw_of (by decide) (Nat.le_of_ble_eq_true rfl) ?_
  intro p e s m below meth cx ls F hr hlk hE hP hS hl
  have hl : lv_has ls 3 [(0, .ref (b0 + zp_o 0 0 0)), (1, .int (nI i)), (2, .int h)] := hl
  refine lv_iload_n F.1 F.2.1 dd_TL_root_0 rfl (lv_at hl 1 rfl) ?_
  refine zw_goi (zw_rS F hE hP (zc_TL_isLedger lc G b0 S i (by first | omega | assumption)) zk_TL_isLedger za_TL_isLedger wl_TL_20 ⟨rfl, rfl, Nat.le_of_ble_eq_true rfl, Nat.le_of_ble_eq_true rfl⟩ hl.1 rfl (Nat.le_of_ble_eq_true rfl) ⟨Nat.zero_le _, Nat.zero_le _⟩ dd_TL_root_1) hS (fun _ h => h) (fun H locs hP _ _ hS => ?_)
  refine lv_if_eq F.1 F.2.1 dd_TL_root_4 (tgt := 20) rfl (fun h4 => absurd h4 (by decide)) (fun h4 => ?_)
  refine lv_aload_n F.1 F.2.1 dd_TL_root_7 rfl (lv_at hl 0 rfl) ?_
  refine zc_gF (t := 0) (i := 0) (j := 0) F hE hP ⟨by decide, (show 0 < 1 by omega), (show 0 < 1 by omega)⟩ rfl rfl zi_TL 1 (by decide) rfl wf_TL_11 rfl dd_TL_root_8 ?_
  refine lv_iload_n F.1 F.2.1 dd_TL_root_11 rfl (lv_at hl 1 rfl) ?_
  refine zc_aald (t := 1) (i := 0) (j := 0) (k := i) (N := 2) (z := 2) (a := (b0 + zp_o 2 i 0)) F hE hP ⟨by decide, (show 0 < 1 by omega), (show 0 < 1 by omega)⟩ rfl rfl rfl (by omega) (by decide) rfl dd_TL_root_12 ?_
  refine lv_iload_n F.1 F.2.1 dd_TL_root_13 rfl (lv_at hl 2 rfl) ?_
  refine zw_goi (zw_rV F hE hP (zc_Ledger_rootAt lc G b0 S i h (by first | omega | assumption)) zk_Ledger_rootAt za_Ledger_rootAt zb_Ledger_rootAt wl_TL_104 ⟨rfl, rfl, Nat.le_of_ble_eq_true rfl, Nat.le_of_ble_eq_true rfl⟩ (zc_recv (t := 2) (i := i) (j := 0) hE hP ⟨by decide, (show i < 2 by omega), (show 0 < 1 by omega)⟩ rfl rfl) hl.1 rfl (Nat.le_of_ble_eq_true rfl) ⟨Nat.zero_le _, Nat.zero_le _⟩ dd_TL_root_14) hS (fun _ h => h) (fun H locs hP _ _ hS => ?_)
  refine lv_goto F.1 F.2.1 dd_TL_root_17 (tgt := 21) rfl ?_
  exact zw_iret F hr hlk hP hS rfl rfl dd_TL_root_21
set_option maxHeartbeats 4000000 in
set_option maxRecDepth 100000 in
theorem zc_TL_root_bad (lc : Launch) (G : zw_G) (b0 : Nat) (S : zs_S) (l : Int32) (h : Int32) (hb : ¬ zs_v l 2) : zw_M lc ym_TL_root bm_TL_root 3 (some .int) { frames := 1, cells := 0, slots := 0, locals := 20 } G b0 176 (zp_p G b0 S) [.ref (b0 + zp_o 0 0 0), .int l, .int h] (zw_Qi G b0 176 (zp_p G b0 S) (nI 0)) := by
  refine zw_of (by decide) (Nat.le_of_ble_eq_true rfl) ?_
  intro p e s m below meth cx ls F hr hlk hE hP hS hl
  have hl : lv_has ls 3 [(0, .ref (b0 + zp_o 0 0 0)), (1, .int l), (2, .int h)] := hl
  refine lv_iload_n F.1 F.2.1 dd_TL_root_0 rfl (lv_at hl 1 rfl) ?_
  refine zw_goi (zw_rS F hE hP (zc_TL_isLedger_bad lc G b0 S l (by first | omega | assumption)) zk_TL_isLedger za_TL_isLedger wl_TL_20 ⟨rfl, rfl, Nat.le_of_ble_eq_true rfl, Nat.le_of_ble_eq_true rfl⟩ hl.1 rfl (Nat.le_of_ble_eq_true rfl) ⟨Nat.zero_le _, Nat.zero_le _⟩ dd_TL_root_1) hS (fun _ h => h) (fun H locs hP _ _ hS => ?_)
  refine lv_if_eq F.1 F.2.1 dd_TL_root_4 (tgt := 20) rfl (fun h4 => ?_) (fun h4 => absurd h4 (by decide))
  refine lv_iconst (v := nI 0) F.1 F.2.1 dd_TL_root_20 (by decide) ?_
  exact zw_iret F hr hlk hP hS rfl rfl dd_TL_root_21
set_option maxHeartbeats 4000000 in
set_option maxRecDepth 100000 in
theorem zc_TL_knows (lc : Launch) (G : zw_G) (b0 : Nat) (S : zs_S) (i : Nat) (h : Int32) (hi : i < 2) : zw_M lc ym_TL_knows bm_TL_knows 3 (some .boolean) { frames := 1, cells := 0, slots := 0, locals := 21 } G b0 176 (zp_p G b0 S) [.ref (b0 + zp_o 0 0 0), .int (nI i), .int h] (zw_Qi G b0 176 (zp_p G b0 S) (zn_b (zs_hd S i h))) := by
  refine zw_of (by decide) (Nat.le_of_ble_eq_true rfl) ?_
  intro p e s m below meth cx ls F hr hlk hE hP hS hl
  have hl : lv_has ls 3 [(0, .ref (b0 + zp_o 0 0 0)), (1, .int (nI i)), (2, .int h)] := hl
  refine lv_iload_n F.1 F.2.1 dd_TL_knows_0 rfl (lv_at hl 1 rfl) ?_
  refine zw_goi (zw_rS F hE hP (zc_TL_isLedger lc G b0 S i (by first | omega | assumption)) zk_TL_isLedger za_TL_isLedger wl_TL_20 ⟨rfl, rfl, Nat.le_of_ble_eq_true rfl, Nat.le_of_ble_eq_true rfl⟩ hl.1 rfl (Nat.le_of_ble_eq_true rfl) ⟨Nat.zero_le _, Nat.zero_le _⟩ dd_TL_knows_1) hS (fun _ h => h) (fun H locs hP _ _ hS => ?_)
  refine lv_if_eq F.1 F.2.1 dd_TL_knows_4 (tgt := 27) rfl (fun h4 => absurd h4 (by decide)) (fun h4 => ?_)
  refine lv_aload_n F.1 F.2.1 dd_TL_knows_7 rfl (lv_at hl 0 rfl) ?_
  refine zc_gF (t := 0) (i := 0) (j := 0) F hE hP ⟨by decide, (show 0 < 1 by omega), (show 0 < 1 by omega)⟩ rfl rfl zi_TL 1 (by decide) rfl wf_TL_11 rfl dd_TL_knows_8 ?_
  refine lv_iload_n F.1 F.2.1 dd_TL_knows_11 rfl (lv_at hl 1 rfl) ?_
  refine zc_aald (t := 1) (i := 0) (j := 0) (k := i) (N := 2) (z := 2) (a := (b0 + zp_o 2 i 0)) F hE hP ⟨by decide, (show 0 < 1 by omega), (show 0 < 1 by omega)⟩ rfl rfl rfl (by omega) (by decide) rfl dd_TL_knows_12 ?_
  refine zc_gN (t := 2) (i := i) (j := 0) F hE hP ⟨by decide, (show i < 2 by omega), (show 0 < 1 by omega)⟩ rfl rfl zi_Ledger 3 (by decide) rfl wf_TL_37 rfl dd_TL_knows_13 ?_
  refine lv_iload_n F.1 F.2.1 dd_TL_knows_16 rfl (lv_at hl 2 rfl) ?_
  refine zw_goi (zw_rV F hE hP (zc_Client_hasHeader lc G b0 S i h (by first | omega | assumption)) zk_Client_hasHeader za_Client_hasHeader zb_Client_hasHeader wl_TL_107 ⟨rfl, rfl, Nat.le_of_ble_eq_true rfl, Nat.le_of_ble_eq_true rfl⟩ (zc_recv (t := 8) (i := i) (j := 0) hE hP ⟨by decide, (show i < 2 by omega), (show 0 < 1 by omega)⟩ rfl rfl) hl.1 rfl (Nat.le_of_ble_eq_true rfl) ⟨Nat.zero_le _, Nat.zero_le _⟩ dd_TL_knows_17) hS (fun _ h => h) (fun H locs hP _ _ hS => ?_)
  refine zn_beq F dd_TL_knows_20 (tgt := 27) rfl (fun h20 => ?_) (fun h20 => ?_)
  · refine lv_iconst (v := nI 0) F.1 F.2.1 dd_TL_knows_27 (by decide) ?_
    exact zw_zret F hr hlk hP hS rfl (by decide) ((zn_b0 h20).symm) dd_TL_knows_28
  · refine lv_iconst (v := nI 1) F.1 F.2.1 dd_TL_knows_23 (by decide) ?_
    refine lv_goto F.1 F.2.1 dd_TL_knows_24 (tgt := 28) rfl ?_
    exact zw_zret F hr hlk hP hS rfl (by decide) ((zn_b1 h20).symm) dd_TL_knows_28
set_option maxHeartbeats 4000000 in
set_option maxRecDepth 100000 in
theorem zc_TL_knows_bad (lc : Launch) (G : zw_G) (b0 : Nat) (S : zs_S) (l : Int32) (h : Int32) (hb : ¬ zs_v l 2) : zw_M lc ym_TL_knows bm_TL_knows 3 (some .boolean) { frames := 1, cells := 0, slots := 0, locals := 20 } G b0 176 (zp_p G b0 S) [.ref (b0 + zp_o 0 0 0), .int l, .int h] (zw_Qi G b0 176 (zp_p G b0 S) (nI 0)) := by
  refine zw_of (by decide) (Nat.le_of_ble_eq_true rfl) ?_
  intro p e s m below meth cx ls F hr hlk hE hP hS hl
  have hl : lv_has ls 3 [(0, .ref (b0 + zp_o 0 0 0)), (1, .int l), (2, .int h)] := hl
  refine lv_iload_n F.1 F.2.1 dd_TL_knows_0 rfl (lv_at hl 1 rfl) ?_
  refine zw_goi (zw_rS F hE hP (zc_TL_isLedger_bad lc G b0 S l (by first | omega | assumption)) zk_TL_isLedger za_TL_isLedger wl_TL_20 ⟨rfl, rfl, Nat.le_of_ble_eq_true rfl, Nat.le_of_ble_eq_true rfl⟩ hl.1 rfl (Nat.le_of_ble_eq_true rfl) ⟨Nat.zero_le _, Nat.zero_le _⟩ dd_TL_knows_1) hS (fun _ h => h) (fun H locs hP _ _ hS => ?_)
  refine lv_if_eq F.1 F.2.1 dd_TL_knows_4 (tgt := 27) rfl (fun h4 => ?_) (fun h4 => absurd h4 (by decide))
  refine lv_iconst (v := nI 0) F.1 F.2.1 dd_TL_knows_27 (by decide) ?_
  exact zw_zret F hr hlk hP hS rfl (by decide) rfl dd_TL_knows_28
set_option maxHeartbeats 4000000 in
set_option maxRecDepth 100000 in
theorem zc_TL_init (lc : Launch) (G : zw_G) (b0 : Nat) (S : zs_S) (i : Nat) (c : Nat) (w : Int32) (hi : i < 2) (hc : c < 3) : zw_M lc ym_TL_init bm_TL_init 4 (some .int) { frames := 3, cells := 0, slots := 0, locals := 67 } G b0 176 (zp_p G b0 S) [.ref (b0 + zp_o 0 0 0), .int (nI i), .int (nI c), .int w] (zw_Qi G b0 176 (zp_p G b0 (zu_Ledger_startEnd S i c w)) (zr_Ledger_startEnd S i c w)) := by
  refine zw_of (by decide) (Nat.le_of_ble_eq_true rfl) ?_
  intro p e s m below meth cx ls F hr hlk hE hP hS hl
  have hl : lv_has ls 4 [(0, .ref (b0 + zp_o 0 0 0)), (1, .int (nI i)), (2, .int (nI c)), (3, .int w)] := hl
  refine lv_iload_n F.1 F.2.1 dd_TL_init_0 rfl (lv_at hl 1 rfl) ?_
  refine lv_iload_n F.1 F.2.1 dd_TL_init_1 rfl (lv_at hl 2 rfl) ?_
  refine zw_goi (zw_rS F hE hP (zc_TL_isEnd lc G b0 S i c (by first | omega | assumption) (by first | omega | assumption)) zk_TL_isEnd za_TL_isEnd wl_TL_47 ⟨rfl, rfl, Nat.le_of_ble_eq_true rfl, Nat.le_of_ble_eq_true rfl⟩ hl.1 rfl (Nat.le_of_ble_eq_true rfl) ⟨Nat.zero_le _, Nat.zero_le _⟩ dd_TL_init_2) hS (fun _ h => h) (fun H locs hP _ _ hS => ?_)
  refine lv_if_eq F.1 F.2.1 dd_TL_init_5 (tgt := 22) rfl (fun h5 => absurd h5 (by decide)) (fun h5 => ?_)
  refine lv_aload_n F.1 F.2.1 dd_TL_init_8 rfl (lv_at hl 0 rfl) ?_
  refine zc_gF (t := 0) (i := 0) (j := 0) F hE hP ⟨by decide, (show 0 < 1 by omega), (show 0 < 1 by omega)⟩ rfl rfl zi_TL 1 (by decide) rfl wf_TL_11 rfl dd_TL_init_9 ?_
  refine lv_iload_n F.1 F.2.1 dd_TL_init_12 rfl (lv_at hl 1 rfl) ?_
  refine zc_aald (t := 1) (i := 0) (j := 0) (k := i) (N := 2) (z := 2) (a := (b0 + zp_o 2 i 0)) F hE hP ⟨by decide, (show 0 < 1 by omega), (show 0 < 1 by omega)⟩ rfl rfl rfl (by omega) (by decide) rfl dd_TL_init_13 ?_
  refine lv_iload_n F.1 F.2.1 dd_TL_init_14 rfl (lv_at hl 2 rfl) ?_
  refine lv_iload_n F.1 F.2.1 dd_TL_init_15 rfl (lv_at hl 3 rfl) ?_
  refine zw_goi (zw_rV F hE hP (zc_Ledger_startEnd lc G b0 S i c w (by first | omega | assumption) (by first | omega | assumption)) zk_Ledger_startEnd za_Ledger_startEnd zb_Ledger_startEnd wl_TL_51 ⟨rfl, rfl, Nat.le_of_ble_eq_true rfl, Nat.le_of_ble_eq_true rfl⟩ (zc_recv (t := 2) (i := i) (j := 0) hE hP ⟨by decide, (show i < 2 by omega), (show 0 < 1 by omega)⟩ rfl rfl) hl.1 rfl (Nat.le_of_ble_eq_true rfl) ⟨Nat.zero_le _, Nat.zero_le _⟩ dd_TL_init_16) hS (fun _ h => h) (fun H locs hP _ _ hS => ?_)
  refine lv_goto F.1 F.2.1 dd_TL_init_19 (tgt := 23) rfl ?_
  exact zw_iret F hr hlk hP hS rfl rfl dd_TL_init_23
set_option maxHeartbeats 4000000 in
set_option maxRecDepth 100000 in
theorem zc_TL_init_bad (lc : Launch) (G : zw_G) (b0 : Nat) (S : zs_S) (l : Int32) (d : Int32) (w : Int32) (hb : ¬ (zs_v l 2 ∧ zs_v d 3)) : zw_M lc ym_TL_init bm_TL_init 4 (some .int) { frames := 2, cells := 0, slots := 0, locals := 41 } G b0 176 (zp_p G b0 S) [.ref (b0 + zp_o 0 0 0), .int l, .int d, .int w] (zw_Qi G b0 176 (zp_p G b0 S) (-1)) := by
  refine zw_of (by decide) (Nat.le_of_ble_eq_true rfl) ?_
  intro p e s m below meth cx ls F hr hlk hE hP hS hl
  have hl : lv_has ls 4 [(0, .ref (b0 + zp_o 0 0 0)), (1, .int l), (2, .int d), (3, .int w)] := hl
  refine lv_iload_n F.1 F.2.1 dd_TL_init_0 rfl (lv_at hl 1 rfl) ?_
  refine lv_iload_n F.1 F.2.1 dd_TL_init_1 rfl (lv_at hl 2 rfl) ?_
  refine zw_goi (zw_rS F hE hP (zc_TL_isEnd_bad lc G b0 S l d (by first | omega | assumption)) zk_TL_isEnd za_TL_isEnd wl_TL_47 ⟨rfl, rfl, Nat.le_of_ble_eq_true rfl, Nat.le_of_ble_eq_true rfl⟩ hl.1 rfl (Nat.le_of_ble_eq_true rfl) ⟨Nat.zero_le _, Nat.zero_le _⟩ dd_TL_init_2) hS (fun _ h => h) (fun H locs hP _ _ hS => ?_)
  refine lv_if_eq F.1 F.2.1 dd_TL_init_5 (tgt := 22) rfl (fun h5 => ?_) (fun h5 => absurd h5 (by decide))
  refine lv_iconst (v := (-1)) F.1 F.2.1 dd_TL_init_22 (by decide) ?_
  exact zw_iret F hr hlk hP hS rfl rfl dd_TL_init_23
set_option maxHeartbeats 4000000 in
set_option maxRecDepth 100000 in
theorem zc_TL_attempt (lc : Launch) (G : zw_G) (b0 : Nat) (S : zs_S) (i : Nat) (c : Nat) (w : Int32) (h : Int32) (hi : i < 2) (hc : c < 3) (hB : zs_B S) : zw_M lc ym_TL_attempt bm_TL_attempt 5 (some .int) { frames := 5, cells := 0, slots := 0, locals := 121 } G b0 176 (zp_p G b0 S) [.ref (b0 + zp_o 0 0 0), .int (nI i), .int (nI c), .int w, .int h] (zw_Qi G b0 176 (zp_p G b0 (zu_Ledger_tryEnd S i (1 - i) c w h)) (zr_Ledger_tryEnd S i (1 - i) c w h)) := by
  refine zw_of (by decide) (Nat.le_of_ble_eq_true rfl) ?_
  intro p e s m below meth cx ls F hr hlk hE hP hS hl
  have hl : lv_has ls 5 [(0, .ref (b0 + zp_o 0 0 0)), (1, .int (nI i)), (2, .int (nI c)), (3, .int w), (4, .int h)] := hl
  refine lv_iload_n F.1 F.2.1 dd_TL_attempt_0 rfl (lv_at hl 1 rfl) ?_
  refine lv_iload_n F.1 F.2.1 dd_TL_attempt_1 rfl (lv_at hl 2 rfl) ?_
  refine zw_goi (zw_rS F hE hP (zc_TL_isEnd lc G b0 S i c (by first | omega | assumption) (by first | omega | assumption)) zk_TL_isEnd za_TL_isEnd wl_TL_47 ⟨rfl, rfl, Nat.le_of_ble_eq_true rfl, Nat.le_of_ble_eq_true rfl⟩ hl.1 rfl (Nat.le_of_ble_eq_true rfl) ⟨Nat.zero_le _, Nat.zero_le _⟩ dd_TL_attempt_2) hS (fun _ h => h) (fun H locs hP _ _ hS => ?_)
  refine lv_if_eq F.1 F.2.1 dd_TL_attempt_5 (tgt := 32) rfl (fun h5 => absurd h5 (by decide)) (fun h5 => ?_)
  refine lv_aload_n F.1 F.2.1 dd_TL_attempt_8 rfl (lv_at hl 0 rfl) ?_
  refine zc_gF (t := 0) (i := 0) (j := 0) F hE hP ⟨by decide, (show 0 < 1 by omega), (show 0 < 1 by omega)⟩ rfl rfl zi_TL 1 (by decide) rfl wf_TL_11 rfl dd_TL_attempt_9 ?_
  refine lv_iload_n F.1 F.2.1 dd_TL_attempt_12 rfl (lv_at hl 1 rfl) ?_
  refine zc_aald (t := 1) (i := 0) (j := 0) (k := i) (N := 2) (z := 2) (a := (b0 + zp_o 2 i 0)) F hE hP ⟨by decide, (show 0 < 1 by omega), (show 0 < 1 by omega)⟩ rfl rfl rfl (by omega) (by decide) rfl dd_TL_attempt_13 ?_
  refine lv_aload_n F.1 F.2.1 dd_TL_attempt_14 rfl (lv_at hl 0 rfl) ?_
  refine zc_gF (t := 0) (i := 0) (j := 0) F hE hP ⟨by decide, (show 0 < 1 by omega), (show 0 < 1 by omega)⟩ rfl rfl zi_TL 1 (by decide) rfl wf_TL_11 rfl dd_TL_attempt_15 ?_
  refine lv_iconst (v := nI 1) F.1 F.2.1 dd_TL_attempt_18 (by decide) ?_
  refine lv_iload_n F.1 F.2.1 dd_TL_attempt_19 rfl (lv_at hl 1 rfl) ?_
  refine zn_isub F dd_TL_attempt_20 (by omega) ?_
  refine zc_aald (t := 1) (i := 0) (j := 0) (k := 1 - i) (N := 2) (z := 2) (a := (b0 + zp_o 2 (1 - i) 0)) F hE hP ⟨by decide, (show 0 < 1 by omega), (show 0 < 1 by omega)⟩ rfl rfl rfl (by omega) (by decide) rfl dd_TL_attempt_21 ?_
  refine lv_iload_n F.1 F.2.1 dd_TL_attempt_22 rfl (lv_at hl 2 rfl) ?_
  refine lv_iload_n F.1 F.2.1 dd_TL_attempt_23 rfl (lv_at hl 3 rfl) ?_
  refine lv_iload F.1 F.2.1 dd_TL_attempt_24 (lv_at hl 4 rfl) ?_
  refine zw_goi (zw_rV F hE hP (zc_Ledger_tryEnd lc G b0 S i (1 - i) c w h (by first | omega | assumption) (by first | omega | assumption) (by first | omega | assumption) (by assumption)) zk_Ledger_tryEnd za_Ledger_tryEnd zb_Ledger_tryEnd wl_TL_55 ⟨rfl, rfl, Nat.le_of_ble_eq_true rfl, Nat.le_of_ble_eq_true rfl⟩ (zc_recv (t := 2) (i := i) (j := 0) hE hP ⟨by decide, (show i < 2 by omega), (show 0 < 1 by omega)⟩ rfl rfl) hl.1 rfl (Nat.le_of_ble_eq_true rfl) ⟨Nat.zero_le _, Nat.zero_le _⟩ dd_TL_attempt_26) hS (fun _ h => h) (fun H locs hP _ _ hS => ?_)
  refine lv_goto F.1 F.2.1 dd_TL_attempt_29 (tgt := 33) rfl ?_
  exact zw_iret F hr hlk hP hS rfl rfl dd_TL_attempt_33
set_option maxHeartbeats 4000000 in
set_option maxRecDepth 100000 in
theorem zc_TL_attempt_bad (lc : Launch) (G : zw_G) (b0 : Nat) (S : zs_S) (l : Int32) (d : Int32) (w : Int32) (h : Int32) (hb : ¬ (zs_v l 2 ∧ zs_v d 3)) : zw_M lc ym_TL_attempt bm_TL_attempt 5 (some .int) { frames := 2, cells := 0, slots := 0, locals := 41 } G b0 176 (zp_p G b0 S) [.ref (b0 + zp_o 0 0 0), .int l, .int d, .int w, .int h] (zw_Qi G b0 176 (zp_p G b0 S) (-1)) := by
  refine zw_of (by decide) (Nat.le_of_ble_eq_true rfl) ?_
  intro p e s m below meth cx ls F hr hlk hE hP hS hl
  have hl : lv_has ls 5 [(0, .ref (b0 + zp_o 0 0 0)), (1, .int l), (2, .int d), (3, .int w), (4, .int h)] := hl
  refine lv_iload_n F.1 F.2.1 dd_TL_attempt_0 rfl (lv_at hl 1 rfl) ?_
  refine lv_iload_n F.1 F.2.1 dd_TL_attempt_1 rfl (lv_at hl 2 rfl) ?_
  refine zw_goi (zw_rS F hE hP (zc_TL_isEnd_bad lc G b0 S l d (by first | omega | assumption)) zk_TL_isEnd za_TL_isEnd wl_TL_47 ⟨rfl, rfl, Nat.le_of_ble_eq_true rfl, Nat.le_of_ble_eq_true rfl⟩ hl.1 rfl (Nat.le_of_ble_eq_true rfl) ⟨Nat.zero_le _, Nat.zero_le _⟩ dd_TL_attempt_2) hS (fun _ h => h) (fun H locs hP _ _ hS => ?_)
  refine lv_if_eq F.1 F.2.1 dd_TL_attempt_5 (tgt := 32) rfl (fun h5 => ?_) (fun h5 => absurd h5 (by decide))
  refine lv_iconst (v := (-1)) F.1 F.2.1 dd_TL_attempt_32 (by decide) ?_
  exact zw_iret F hr hlk hP hS rfl rfl dd_TL_attempt_33
def zr_TL_open (S : zs_S) (i : Nat) (c : Nat) (x : Int32) (h : Int32) : Int32 := if x = 0 then (zr_Ledger_followEnd S i (1 - i) c h (nI 1) (nI 2) (nI 3)) else (if x = 1 then (zr_Ledger_followEnd S i (1 - i) c h (nI 2) (nI 3) (nI 3)) else (if x = 2 then (zr_Ledger_followEnd S i (1 - i) c h (nI 3) (nI 4) (nI 4)) else ((-1))))
def zu_TL_open (S : zs_S) (i : Nat) (c : Nat) (x : Int32) (h : Int32) : zs_S := if x = 0 then ((zu_Ledger_followEnd S i (1 - i) c h (nI 1) (nI 2) (nI 3))) else (if x = 1 then ((zu_Ledger_followEnd S i (1 - i) c h (nI 2) (nI 3) (nI 3))) else (if x = 2 then ((zu_Ledger_followEnd S i (1 - i) c h (nI 3) (nI 4) (nI 4))) else (S)))
set_option maxHeartbeats 4000000 in
set_option maxRecDepth 100000 in
theorem zc_TL_open (lc : Launch) (G : zw_G) (b0 : Nat) (S : zs_S) (i : Nat) (c : Nat) (x : Int32) (h : Int32) (hi : i < 2) (hc : c < 3) (hB : zs_B S) : zw_M lc ym_TL_open bm_TL_open 7 (some .int) { frames := 5, cells := 0, slots := 0, locals := 121 } G b0 176 (zp_p G b0 S) [.ref (b0 + zp_o 0 0 0), .int (nI i), .int (nI c), .int x, .int h] (zw_Qi G b0 176 (zp_p G b0 (zu_TL_open S i c x h)) (zr_TL_open S i c x h)) := by
  refine zw_of (by decide) (Nat.le_of_ble_eq_true rfl) ?_
  intro p e s m below meth cx ls F hr hlk hE hP hS hl
  have hl : lv_has ls 7 [(0, .ref (b0 + zp_o 0 0 0)), (1, .int (nI i)), (2, .int (nI c)), (3, .int x), (4, .int h)] := hl
  refine lv_iload_n F.1 F.2.1 dd_TL_open_0 rfl (lv_at hl 1 rfl) ?_
  refine lv_iload_n F.1 F.2.1 dd_TL_open_1 rfl (lv_at hl 2 rfl) ?_
  refine zw_goi (zw_rS F hE hP (zc_TL_isEnd lc G b0 S i c (by first | omega | assumption) (by first | omega | assumption)) zk_TL_isEnd za_TL_isEnd wl_TL_47 ⟨rfl, rfl, Nat.le_of_ble_eq_true rfl, Nat.le_of_ble_eq_true rfl⟩ hl.1 rfl (Nat.le_of_ble_eq_true rfl) ⟨Nat.zero_le _, Nat.zero_le _⟩ dd_TL_open_2) hS (fun _ h => h) (fun H locs hP _ _ hS => ?_)
  refine lv_if_ne F.1 F.2.1 dd_TL_open_5 (tgt := 10) rfl (fun h5 => ?_) (fun h5 => absurd h5 (by decide))
  refine lv_aload_n F.1 F.2.1 dd_TL_open_10 rfl (lv_at hl 0 rfl) ?_
  refine zc_gF (t := 0) (i := 0) (j := 0) F hE hP ⟨by decide, (show 0 < 1 by omega), (show 0 < 1 by omega)⟩ rfl rfl zi_TL 1 (by decide) rfl wf_TL_11 rfl dd_TL_open_11 ?_
  refine lv_iload_n F.1 F.2.1 dd_TL_open_14 rfl (lv_at hl 1 rfl) ?_
  refine zc_aald (t := 1) (i := 0) (j := 0) (k := i) (N := 2) (z := 2) (a := (b0 + zp_o 2 i 0)) F hE hP ⟨by decide, (show 0 < 1 by omega), (show 0 < 1 by omega)⟩ rfl rfl rfl (by omega) (by decide) rfl dd_TL_open_15 ?_
  refine lv_astore F.1 F.2.1 dd_TL_open_16 hl (by decide) (lv' := [(5, .ref (b0 + zp_o 2 i 0)), (0, .ref (b0 + zp_o 0 0 0)), (1, .int (nI i)), (2, .int (nI c)), (3, .int x), (4, .int h)]) rfl (fun ls hl => ?_)
  refine lv_aload_n F.1 F.2.1 dd_TL_open_18 rfl (lv_at hl 1 rfl) ?_
  refine zc_gF (t := 0) (i := 0) (j := 0) F hE hP ⟨by decide, (show 0 < 1 by omega), (show 0 < 1 by omega)⟩ rfl rfl zi_TL 1 (by decide) rfl wf_TL_11 rfl dd_TL_open_19 ?_
  refine lv_iconst (v := nI 1) F.1 F.2.1 dd_TL_open_22 (by decide) ?_
  refine lv_iload_n F.1 F.2.1 dd_TL_open_23 rfl (lv_at hl 2 rfl) ?_
  refine zn_isub F dd_TL_open_24 (by omega) ?_
  refine zc_aald (t := 1) (i := 0) (j := 0) (k := 1 - i) (N := 2) (z := 2) (a := (b0 + zp_o 2 (1 - i) 0)) F hE hP ⟨by decide, (show 0 < 1 by omega), (show 0 < 1 by omega)⟩ rfl rfl rfl (by omega) (by decide) rfl dd_TL_open_25 ?_
  refine lv_astore F.1 F.2.1 dd_TL_open_26 hl (by decide) (lv' := [(6, .ref (b0 + zp_o 2 (1 - i) 0)), (5, .ref (b0 + zp_o 2 i 0)), (0, .ref (b0 + zp_o 0 0 0)), (1, .int (nI i)), (2, .int (nI c)), (3, .int x), (4, .int h)]) rfl (fun ls hl => ?_)
  refine lv_iload_n F.1 F.2.1 dd_TL_open_28 rfl (lv_at hl 5 rfl) ?_
  by_cases q29_0 : x = 0
  · refine zn_top (y := 0) q29_0 ?_
    refine lv_tableIn (off := 27) F.1 F.2.1 dd_TL_open_29 (by decide) (by decide) (by decide) (tgt := 56) rfl ?_
    refine lv_aload F.1 F.2.1 dd_TL_open_56 (lv_at hl 1 rfl) ?_
    refine lv_aload F.1 F.2.1 dd_TL_open_58 (lv_at hl 0 rfl) ?_
    refine lv_iload_n F.1 F.2.1 dd_TL_open_60 rfl (lv_at hl 4 rfl) ?_
    refine lv_iload F.1 F.2.1 dd_TL_open_61 (lv_at hl 6 rfl) ?_
    refine lv_iconst (v := nI 1) F.1 F.2.1 dd_TL_open_63 (by decide) ?_
    refine lv_iconst (v := nI 2) F.1 F.2.1 dd_TL_open_64 (by decide) ?_
    refine lv_iconst (v := nI 3) F.1 F.2.1 dd_TL_open_65 (by decide) ?_
    refine zw_goi (zw_rV F hE hP (zc_Ledger_followEnd lc G b0 S i (1 - i) c h (nI 1) (nI 2) (nI 3) (by first | omega | assumption) (by first | omega | assumption) (by first | omega | assumption) (by assumption)) zk_Ledger_followEnd za_Ledger_followEnd zb_Ledger_followEnd wl_TL_59 ⟨rfl, rfl, Nat.le_of_ble_eq_true rfl, Nat.le_of_ble_eq_true rfl⟩ (zc_recv (t := 2) (i := i) (j := 0) hE hP ⟨by decide, (show i < 2 by omega), (show 0 < 1 by omega)⟩ rfl rfl) hl.1 rfl (Nat.le_of_ble_eq_true rfl) ⟨Nat.zero_le _, Nat.zero_le _⟩ dd_TL_open_66) hS (fun _ h => h) (fun H locs hP _ _ hS => ?_)
    exact zw_iret F hr hlk hP hS (congrArg (zp_p G b0) (by rw [zu_TL_open, if_pos q29_0])) (by rw [zr_TL_open, if_pos q29_0]) dd_TL_open_69
  · by_cases q29_1 : x = 1
    · refine zn_top (y := 1) q29_1 ?_
      refine lv_tableIn (off := 41) F.1 F.2.1 dd_TL_open_29 (by decide) (by decide) (by decide) (tgt := 70) rfl ?_
      refine lv_aload F.1 F.2.1 dd_TL_open_70 (lv_at hl 1 rfl) ?_
      refine lv_aload F.1 F.2.1 dd_TL_open_72 (lv_at hl 0 rfl) ?_
      refine lv_iload_n F.1 F.2.1 dd_TL_open_74 rfl (lv_at hl 4 rfl) ?_
      refine lv_iload F.1 F.2.1 dd_TL_open_75 (lv_at hl 6 rfl) ?_
      refine lv_iconst (v := nI 2) F.1 F.2.1 dd_TL_open_77 (by decide) ?_
      refine lv_iconst (v := nI 3) F.1 F.2.1 dd_TL_open_78 (by decide) ?_
      refine lv_iconst (v := nI 3) F.1 F.2.1 dd_TL_open_79 (by decide) ?_
      refine zw_goi (zw_rV F hE hP (zc_Ledger_followEnd lc G b0 S i (1 - i) c h (nI 2) (nI 3) (nI 3) (by first | omega | assumption) (by first | omega | assumption) (by first | omega | assumption) (by assumption)) zk_Ledger_followEnd za_Ledger_followEnd zb_Ledger_followEnd wl_TL_59 ⟨rfl, rfl, Nat.le_of_ble_eq_true rfl, Nat.le_of_ble_eq_true rfl⟩ (zc_recv (t := 2) (i := i) (j := 0) hE hP ⟨by decide, (show i < 2 by omega), (show 0 < 1 by omega)⟩ rfl rfl) hl.1 rfl (Nat.le_of_ble_eq_true rfl) ⟨Nat.zero_le _, Nat.zero_le _⟩ dd_TL_open_80) hS (fun _ h => h) (fun H locs hP _ _ hS => ?_)
      exact zw_iret F hr hlk hP hS (congrArg (zp_p G b0) (by rw [zu_TL_open, if_neg q29_0, if_pos q29_1])) (by rw [zr_TL_open, if_neg q29_0, if_pos q29_1]) dd_TL_open_83
    · by_cases q29_2 : x = 2
      · refine zn_top (y := 2) q29_2 ?_
        refine lv_tableIn (off := 55) F.1 F.2.1 dd_TL_open_29 (by decide) (by decide) (by decide) (tgt := 84) rfl ?_
        refine lv_aload F.1 F.2.1 dd_TL_open_84 (lv_at hl 1 rfl) ?_
        refine lv_aload F.1 F.2.1 dd_TL_open_86 (lv_at hl 0 rfl) ?_
        refine lv_iload_n F.1 F.2.1 dd_TL_open_88 rfl (lv_at hl 4 rfl) ?_
        refine lv_iload F.1 F.2.1 dd_TL_open_89 (lv_at hl 6 rfl) ?_
        refine lv_iconst (v := nI 3) F.1 F.2.1 dd_TL_open_91 (by decide) ?_
        refine lv_iconst (v := nI 4) F.1 F.2.1 dd_TL_open_92 (by decide) ?_
        refine lv_iconst (v := nI 4) F.1 F.2.1 dd_TL_open_93 (by decide) ?_
        refine zw_goi (zw_rV F hE hP (zc_Ledger_followEnd lc G b0 S i (1 - i) c h (nI 3) (nI 4) (nI 4) (by first | omega | assumption) (by first | omega | assumption) (by first | omega | assumption) (by assumption)) zk_Ledger_followEnd za_Ledger_followEnd zb_Ledger_followEnd wl_TL_59 ⟨rfl, rfl, Nat.le_of_ble_eq_true rfl, Nat.le_of_ble_eq_true rfl⟩ (zc_recv (t := 2) (i := i) (j := 0) hE hP ⟨by decide, (show i < 2 by omega), (show 0 < 1 by omega)⟩ rfl rfl) hl.1 rfl (Nat.le_of_ble_eq_true rfl) ⟨Nat.zero_le _, Nat.zero_le _⟩ dd_TL_open_94) hS (fun _ h => h) (fun H locs hP _ _ hS => ?_)
        exact zw_iret F hr hlk hP hS (congrArg (zp_p G b0) (by rw [zu_TL_open, if_neg q29_0, if_neg q29_1, if_pos q29_2])) (by rw [zr_TL_open, if_neg q29_0, if_neg q29_1, if_pos q29_2]) dd_TL_open_97
      · refine lv_tableOut F.1 F.2.1 dd_TL_open_29 (by have := lv_neT q29_0 (show (0 : Int32).toInt = 0 by decide); have := lv_neT q29_1 (show (1 : Int32).toInt = 1 by decide); have := lv_neT q29_2 (show (2 : Int32).toInt = 2 by decide); omega) (tgt := 98) rfl ?_
        refine lv_iconst (v := (-1)) F.1 F.2.1 dd_TL_open_98 (by decide) ?_
        exact zw_iret F hr hlk hP hS (congrArg (zp_p G b0) (by rw [zu_TL_open, if_neg q29_0, if_neg q29_1, if_neg q29_2])) (by rw [zr_TL_open, if_neg q29_0, if_neg q29_1, if_neg q29_2]) dd_TL_open_99
set_option maxHeartbeats 4000000 in
set_option maxRecDepth 100000 in
theorem zc_TL_open_bad (lc : Launch) (G : zw_G) (b0 : Nat) (S : zs_S) (l : Int32) (d : Int32) (x : Int32) (h : Int32) (hb : ¬ (zs_v l 2 ∧ zs_v d 3)) : zw_M lc ym_TL_open bm_TL_open 7 (some .int) { frames := 2, cells := 0, slots := 0, locals := 41 } G b0 176 (zp_p G b0 S) [.ref (b0 + zp_o 0 0 0), .int l, .int d, .int x, .int h] (zw_Qi G b0 176 (zp_p G b0 S) (-1)) := by
  refine zw_of (by decide) (Nat.le_of_ble_eq_true rfl) ?_
  intro p e s m below meth cx ls F hr hlk hE hP hS hl
  have hl : lv_has ls 7 [(0, .ref (b0 + zp_o 0 0 0)), (1, .int l), (2, .int d), (3, .int x), (4, .int h)] := hl
  refine lv_iload_n F.1 F.2.1 dd_TL_open_0 rfl (lv_at hl 1 rfl) ?_
  refine lv_iload_n F.1 F.2.1 dd_TL_open_1 rfl (lv_at hl 2 rfl) ?_
  refine zw_goi (zw_rS F hE hP (zc_TL_isEnd_bad lc G b0 S l d (by first | omega | assumption)) zk_TL_isEnd za_TL_isEnd wl_TL_47 ⟨rfl, rfl, Nat.le_of_ble_eq_true rfl, Nat.le_of_ble_eq_true rfl⟩ hl.1 rfl (Nat.le_of_ble_eq_true rfl) ⟨Nat.zero_le _, Nat.zero_le _⟩ dd_TL_open_2) hS (fun _ h => h) (fun H locs hP _ _ hS => ?_)
  refine lv_if_ne F.1 F.2.1 dd_TL_open_5 (tgt := 10) rfl (fun h5 => absurd h5 (by decide)) (fun h5 => ?_)
  refine lv_iconst (v := (-1)) F.1 F.2.1 dd_TL_open_8 (by decide) ?_
  exact zw_iret F hr hlk hP hS rfl rfl dd_TL_open_9
set_option maxHeartbeats 4000000 in
set_option maxRecDepth 100000 in
theorem zc_TL_close (lc : Launch) (G : zw_G) (b0 : Nat) (S : zs_S) (i : Nat) (c : Nat) (hi : i < 2) (hc : c < 3) : zw_M lc ym_TL_close bm_TL_close 3 (some .int) { frames := 4, cells := 0, slots := 0, locals := 85 } G b0 176 (zp_p G b0 S) [.ref (b0 + zp_o 0 0 0), .int (nI i), .int (nI c)] (zw_Qi G b0 176 (zp_p G b0 (zu_Ledger_closeEnd S i c)) (zr_Ledger_closeEnd S i c)) := by
  refine zw_of (by decide) (Nat.le_of_ble_eq_true rfl) ?_
  intro p e s m below meth cx ls F hr hlk hE hP hS hl
  have hl : lv_has ls 3 [(0, .ref (b0 + zp_o 0 0 0)), (1, .int (nI i)), (2, .int (nI c))] := hl
  refine lv_iload_n F.1 F.2.1 dd_TL_close_0 rfl (lv_at hl 1 rfl) ?_
  refine lv_iload_n F.1 F.2.1 dd_TL_close_1 rfl (lv_at hl 2 rfl) ?_
  refine zw_goi (zw_rS F hE hP (zc_TL_isEnd lc G b0 S i c (by first | omega | assumption) (by first | omega | assumption)) zk_TL_isEnd za_TL_isEnd wl_TL_47 ⟨rfl, rfl, Nat.le_of_ble_eq_true rfl, Nat.le_of_ble_eq_true rfl⟩ hl.1 rfl (Nat.le_of_ble_eq_true rfl) ⟨Nat.zero_le _, Nat.zero_le _⟩ dd_TL_close_2) hS (fun _ h => h) (fun H locs hP _ _ hS => ?_)
  refine lv_if_eq F.1 F.2.1 dd_TL_close_5 (tgt := 21) rfl (fun h5 => absurd h5 (by decide)) (fun h5 => ?_)
  refine lv_aload_n F.1 F.2.1 dd_TL_close_8 rfl (lv_at hl 0 rfl) ?_
  refine zc_gF (t := 0) (i := 0) (j := 0) F hE hP ⟨by decide, (show 0 < 1 by omega), (show 0 < 1 by omega)⟩ rfl rfl zi_TL 1 (by decide) rfl wf_TL_11 rfl dd_TL_close_9 ?_
  refine lv_iload_n F.1 F.2.1 dd_TL_close_12 rfl (lv_at hl 1 rfl) ?_
  refine zc_aald (t := 1) (i := 0) (j := 0) (k := i) (N := 2) (z := 2) (a := (b0 + zp_o 2 i 0)) F hE hP ⟨by decide, (show 0 < 1 by omega), (show 0 < 1 by omega)⟩ rfl rfl rfl (by omega) (by decide) rfl dd_TL_close_13 ?_
  refine lv_iload_n F.1 F.2.1 dd_TL_close_14 rfl (lv_at hl 2 rfl) ?_
  refine zw_goi (zw_rV F hE hP (zc_Ledger_closeEnd lc G b0 S i c (by first | omega | assumption) (by first | omega | assumption)) zk_Ledger_closeEnd za_Ledger_closeEnd zb_Ledger_closeEnd wl_TL_63 ⟨rfl, rfl, Nat.le_of_ble_eq_true rfl, Nat.le_of_ble_eq_true rfl⟩ (zc_recv (t := 2) (i := i) (j := 0) hE hP ⟨by decide, (show i < 2 by omega), (show 0 < 1 by omega)⟩ rfl rfl) hl.1 rfl (Nat.le_of_ble_eq_true rfl) ⟨Nat.zero_le _, Nat.zero_le _⟩ dd_TL_close_15) hS (fun _ h => h) (fun H locs hP _ _ hS => ?_)
  refine lv_goto F.1 F.2.1 dd_TL_close_18 (tgt := 22) rfl ?_
  exact zw_iret F hr hlk hP hS rfl rfl dd_TL_close_22
set_option maxHeartbeats 4000000 in
set_option maxRecDepth 100000 in
theorem zc_TL_close_bad (lc : Launch) (G : zw_G) (b0 : Nat) (S : zs_S) (l : Int32) (d : Int32) (hb : ¬ (zs_v l 2 ∧ zs_v d 3)) : zw_M lc ym_TL_close bm_TL_close 3 (some .int) { frames := 2, cells := 0, slots := 0, locals := 41 } G b0 176 (zp_p G b0 S) [.ref (b0 + zp_o 0 0 0), .int l, .int d] (zw_Qi G b0 176 (zp_p G b0 S) (-1)) := by
  refine zw_of (by decide) (Nat.le_of_ble_eq_true rfl) ?_
  intro p e s m below meth cx ls F hr hlk hE hP hS hl
  have hl : lv_has ls 3 [(0, .ref (b0 + zp_o 0 0 0)), (1, .int l), (2, .int d)] := hl
  refine lv_iload_n F.1 F.2.1 dd_TL_close_0 rfl (lv_at hl 1 rfl) ?_
  refine lv_iload_n F.1 F.2.1 dd_TL_close_1 rfl (lv_at hl 2 rfl) ?_
  refine zw_goi (zw_rS F hE hP (zc_TL_isEnd_bad lc G b0 S l d (by first | omega | assumption)) zk_TL_isEnd za_TL_isEnd wl_TL_47 ⟨rfl, rfl, Nat.le_of_ble_eq_true rfl, Nat.le_of_ble_eq_true rfl⟩ hl.1 rfl (Nat.le_of_ble_eq_true rfl) ⟨Nat.zero_le _, Nat.zero_le _⟩ dd_TL_close_2) hS (fun _ h => h) (fun H locs hP _ _ hS => ?_)
  refine lv_if_eq F.1 F.2.1 dd_TL_close_5 (tgt := 21) rfl (fun h5 => ?_) (fun h5 => absurd h5 (by decide))
  refine lv_iconst (v := (-1)) F.1 F.2.1 dd_TL_close_21 (by decide) ?_
  exact zw_iret F hr hlk hP hS rfl rfl dd_TL_close_22
def zr_TL_end (S : zs_S) (i : Nat) (c : Nat) (x : Int32) : Int32 := if x = 0 then (zs_st (S 4 i 0 c)) else (if x = 1 then (zs_or (S 4 i 0 c)) else (if x = 2 then (S 18 i c 0) else (if x = 3 then (zs_nx (S 4 i 0 (3 + c))) else (if x = 4 then (S 18 i c 1) else ((-1))))))
set_option maxHeartbeats 4000000 in
set_option maxRecDepth 100000 in
theorem zc_TL_end (lc : Launch) (G : zw_G) (b0 : Nat) (S : zs_S) (i : Nat) (c : Nat) (x : Int32) (hi : i < 2) (hc : c < 3) : zw_M lc ym_TL_end bm_TL_end 5 (some .int) { frames := 2, cells := 0, slots := 0, locals := 42 } G b0 176 (zp_p G b0 S) [.ref (b0 + zp_o 0 0 0), .int (nI i), .int (nI c), .int x] (zw_Qi G b0 176 (zp_p G b0 S) (zr_TL_end S i c x)) := by
  refine zw_of (by decide) (Nat.le_of_ble_eq_true rfl) ?_
  intro p e s m below meth cx ls F hr hlk hE hP hS hl
  have hl : lv_has ls 5 [(0, .ref (b0 + zp_o 0 0 0)), (1, .int (nI i)), (2, .int (nI c)), (3, .int x)] := hl
  refine lv_iload_n F.1 F.2.1 dd_TL_end_0 rfl (lv_at hl 1 rfl) ?_
  refine lv_iload_n F.1 F.2.1 dd_TL_end_1 rfl (lv_at hl 2 rfl) ?_
  refine zw_goi (zw_rS F hE hP (zc_TL_isEnd lc G b0 S i c (by first | omega | assumption) (by first | omega | assumption)) zk_TL_isEnd za_TL_isEnd wl_TL_47 ⟨rfl, rfl, Nat.le_of_ble_eq_true rfl, Nat.le_of_ble_eq_true rfl⟩ hl.1 rfl (Nat.le_of_ble_eq_true rfl) ⟨Nat.zero_le _, Nat.zero_le _⟩ dd_TL_end_2) hS (fun _ h => h) (fun H locs hP _ _ hS => ?_)
  refine lv_if_ne F.1 F.2.1 dd_TL_end_5 (tgt := 10) rfl (fun h5 => ?_) (fun h5 => absurd h5 (by decide))
  refine lv_aload_n F.1 F.2.1 dd_TL_end_10 rfl (lv_at hl 0 rfl) ?_
  refine zc_gF (t := 0) (i := 0) (j := 0) F hE hP ⟨by decide, (show 0 < 1 by omega), (show 0 < 1 by omega)⟩ rfl rfl zi_TL 1 (by decide) rfl wf_TL_11 rfl dd_TL_end_11 ?_
  refine lv_iload_n F.1 F.2.1 dd_TL_end_14 rfl (lv_at hl 1 rfl) ?_
  refine zc_aald (t := 1) (i := 0) (j := 0) (k := i) (N := 2) (z := 2) (a := (b0 + zp_o 2 i 0)) F hE hP ⟨by decide, (show 0 < 1 by omega), (show 0 < 1 by omega)⟩ rfl rfl rfl (by omega) (by decide) rfl dd_TL_end_15 ?_
  refine lv_astore F.1 F.2.1 dd_TL_end_16 hl (by decide) (lv' := [(4, .ref (b0 + zp_o 2 i 0)), (0, .ref (b0 + zp_o 0 0 0)), (1, .int (nI i)), (2, .int (nI c)), (3, .int x)]) rfl (fun ls hl => ?_)
  refine lv_iload_n F.1 F.2.1 dd_TL_end_18 rfl (lv_at hl 4 rfl) ?_
  by_cases q19_0 : x = 0
  · refine zn_top (y := 0) q19_0 ?_
    refine lv_tableIn (off := 33) F.1 F.2.1 dd_TL_end_19 (by decide) (by decide) (by decide) (tgt := 52) rfl ?_
    refine lv_aload F.1 F.2.1 dd_TL_end_52 (lv_at hl 0 rfl) ?_
    refine lv_iload_n F.1 F.2.1 dd_TL_end_54 rfl (lv_at hl 3 rfl) ?_
    refine zw_goi (zw_rV F hE hP (zc_Ledger_stateOf lc G b0 S i c (by first | omega | assumption) (by first | omega | assumption)) zk_Ledger_stateOf za_Ledger_stateOf zb_Ledger_stateOf wl_TL_110 ⟨rfl, rfl, Nat.le_of_ble_eq_true rfl, Nat.le_of_ble_eq_true rfl⟩ (zc_recv (t := 2) (i := i) (j := 0) hE hP ⟨by decide, (show i < 2 by omega), (show 0 < 1 by omega)⟩ rfl rfl) hl.1 rfl (Nat.le_of_ble_eq_true rfl) ⟨Nat.zero_le _, Nat.zero_le _⟩ dd_TL_end_55) hS (fun _ h => h) (fun H locs hP _ _ hS => ?_)
    exact zw_iret F hr hlk hP hS rfl (by rw [zr_TL_end, if_pos q19_0]) dd_TL_end_58
  · by_cases q19_1 : x = 1
    · refine zn_top (y := 1) q19_1 ?_
      refine lv_tableIn (off := 40) F.1 F.2.1 dd_TL_end_19 (by decide) (by decide) (by decide) (tgt := 59) rfl ?_
      refine lv_aload F.1 F.2.1 dd_TL_end_59 (lv_at hl 0 rfl) ?_
      refine lv_iload_n F.1 F.2.1 dd_TL_end_61 rfl (lv_at hl 3 rfl) ?_
      refine zw_goi (zw_rV F hE hP (zc_Ledger_orderOf lc G b0 S i c (by first | omega | assumption) (by first | omega | assumption)) zk_Ledger_orderOf za_Ledger_orderOf zb_Ledger_orderOf wl_TL_113 ⟨rfl, rfl, Nat.le_of_ble_eq_true rfl, Nat.le_of_ble_eq_true rfl⟩ (zc_recv (t := 2) (i := i) (j := 0) hE hP ⟨by decide, (show i < 2 by omega), (show 0 < 1 by omega)⟩ rfl rfl) hl.1 rfl (Nat.le_of_ble_eq_true rfl) ⟨Nat.zero_le _, Nat.zero_le _⟩ dd_TL_end_62) hS (fun _ h => h) (fun H locs hP _ _ hS => ?_)
      exact zw_iret F hr hlk hP hS rfl (by rw [zr_TL_end, if_neg q19_0, if_pos q19_1]) dd_TL_end_65
    · by_cases q19_2 : x = 2
      · refine zn_top (y := 2) q19_2 ?_
        refine lv_tableIn (off := 47) F.1 F.2.1 dd_TL_end_19 (by decide) (by decide) (by decide) (tgt := 66) rfl ?_
        refine lv_aload F.1 F.2.1 dd_TL_end_66 (lv_at hl 0 rfl) ?_
        refine zc_gN (t := 2) (i := i) (j := 0) F hE hP ⟨by decide, (show i < 2 by omega), (show 0 < 1 by omega)⟩ rfl rfl zi_Ledger 5 (by decide) rfl wf_TL_116 rfl dd_TL_end_68 ?_
        refine lv_iload_n F.1 F.2.1 dd_TL_end_71 rfl (lv_at hl 3 rfl) ?_
        refine zc_aald (t := 17) (i := i) (j := 0) (k := c) (N := 3) (z := 4) (a := (b0 + zp_o 18 i c)) F hE hP ⟨by decide, (show i < 2 by omega), (show 0 < 1 by omega)⟩ rfl rfl rfl (by omega) (by decide) rfl dd_TL_end_72 ?_
        refine zc_gN (t := 18) (i := i) (j := c) F hE hP ⟨by decide, (show i < 2 by omega), (show c < 3 by omega)⟩ rfl rfl zi_End 1 (by decide) rfl wf_TL_120 rfl dd_TL_end_73 ?_
        exact zw_iret F hr hlk hP hS rfl (by rw [zr_TL_end, if_neg q19_0, if_neg q19_1, if_pos q19_2]) dd_TL_end_76
      · by_cases q19_3 : x = 3
        · refine zn_top (y := 3) q19_3 ?_
          refine lv_tableIn (off := 58) F.1 F.2.1 dd_TL_end_19 (by decide) (by decide) (by decide) (tgt := 77) rfl ?_
          refine lv_aload F.1 F.2.1 dd_TL_end_77 (lv_at hl 0 rfl) ?_
          refine lv_iload_n F.1 F.2.1 dd_TL_end_79 rfl (lv_at hl 3 rfl) ?_
          refine zw_goi (zw_rV F hE hP (zc_Ledger_nextToReceive lc G b0 S i c (by first | omega | assumption) (by first | omega | assumption)) zk_Ledger_nextToReceive za_Ledger_nextToReceive zb_Ledger_nextToReceive wl_TL_125 ⟨rfl, rfl, Nat.le_of_ble_eq_true rfl, Nat.le_of_ble_eq_true rfl⟩ (zc_recv (t := 2) (i := i) (j := 0) hE hP ⟨by decide, (show i < 2 by omega), (show 0 < 1 by omega)⟩ rfl rfl) hl.1 rfl (Nat.le_of_ble_eq_true rfl) ⟨Nat.zero_le _, Nat.zero_le _⟩ dd_TL_end_80) hS (fun _ h => h) (fun H locs hP _ _ hS => ?_)
          exact zw_iret F hr hlk hP hS rfl (by rw [zr_TL_end, if_neg q19_0, if_neg q19_1, if_neg q19_2, if_pos q19_3]) dd_TL_end_83
        · by_cases q19_4 : x = 4
          · refine zn_top (y := 4) q19_4 ?_
            refine lv_tableIn (off := 65) F.1 F.2.1 dd_TL_end_19 (by decide) (by decide) (by decide) (tgt := 84) rfl ?_
            refine lv_aload F.1 F.2.1 dd_TL_end_84 (lv_at hl 0 rfl) ?_
            refine zc_gN (t := 2) (i := i) (j := 0) F hE hP ⟨by decide, (show i < 2 by omega), (show 0 < 1 by omega)⟩ rfl rfl zi_Ledger 5 (by decide) rfl wf_TL_116 rfl dd_TL_end_86 ?_
            refine lv_iload_n F.1 F.2.1 dd_TL_end_89 rfl (lv_at hl 3 rfl) ?_
            refine zc_aald (t := 17) (i := i) (j := 0) (k := c) (N := 3) (z := 4) (a := (b0 + zp_o 18 i c)) F hE hP ⟨by decide, (show i < 2 by omega), (show 0 < 1 by omega)⟩ rfl rfl rfl (by omega) (by decide) rfl dd_TL_end_90 ?_
            refine zc_gN (t := 18) (i := i) (j := c) F hE hP ⟨by decide, (show i < 2 by omega), (show c < 3 by omega)⟩ rfl rfl zi_End 2 (by decide) rfl wf_TL_128 rfl dd_TL_end_91 ?_
            exact zw_iret F hr hlk hP hS rfl (by rw [zr_TL_end, if_neg q19_0, if_neg q19_1, if_neg q19_2, if_neg q19_3, if_pos q19_4]) dd_TL_end_94
          · refine lv_tableOut F.1 F.2.1 dd_TL_end_19 (by have := lv_neT q19_0 (show (0 : Int32).toInt = 0 by decide); have := lv_neT q19_1 (show (1 : Int32).toInt = 1 by decide); have := lv_neT q19_2 (show (2 : Int32).toInt = 2 by decide); have := lv_neT q19_3 (show (3 : Int32).toInt = 3 by decide); have := lv_neT q19_4 (show (4 : Int32).toInt = 4 by decide); omega) (tgt := 95) rfl ?_
            refine lv_iconst (v := (-1)) F.1 F.2.1 dd_TL_end_95 (by decide) ?_
            exact zw_iret F hr hlk hP hS rfl (by rw [zr_TL_end, if_neg q19_0, if_neg q19_1, if_neg q19_2, if_neg q19_3, if_neg q19_4]) dd_TL_end_96
set_option maxHeartbeats 4000000 in
set_option maxRecDepth 100000 in
theorem zc_TL_end_bad (lc : Launch) (G : zw_G) (b0 : Nat) (S : zs_S) (l : Int32) (d : Int32) (x : Int32) (hb : ¬ (zs_v l 2 ∧ zs_v d 3)) : zw_M lc ym_TL_end bm_TL_end 5 (some .int) { frames := 2, cells := 0, slots := 0, locals := 41 } G b0 176 (zp_p G b0 S) [.ref (b0 + zp_o 0 0 0), .int l, .int d, .int x] (zw_Qi G b0 176 (zp_p G b0 S) (-1)) := by
  refine zw_of (by decide) (Nat.le_of_ble_eq_true rfl) ?_
  intro p e s m below meth cx ls F hr hlk hE hP hS hl
  have hl : lv_has ls 5 [(0, .ref (b0 + zp_o 0 0 0)), (1, .int l), (2, .int d), (3, .int x)] := hl
  refine lv_iload_n F.1 F.2.1 dd_TL_end_0 rfl (lv_at hl 1 rfl) ?_
  refine lv_iload_n F.1 F.2.1 dd_TL_end_1 rfl (lv_at hl 2 rfl) ?_
  refine zw_goi (zw_rS F hE hP (zc_TL_isEnd_bad lc G b0 S l d (by first | omega | assumption)) zk_TL_isEnd za_TL_isEnd wl_TL_47 ⟨rfl, rfl, Nat.le_of_ble_eq_true rfl, Nat.le_of_ble_eq_true rfl⟩ hl.1 rfl (Nat.le_of_ble_eq_true rfl) ⟨Nat.zero_le _, Nat.zero_le _⟩ dd_TL_end_2) hS (fun _ h => h) (fun H locs hP _ _ hS => ?_)
  refine lv_if_ne F.1 F.2.1 dd_TL_end_5 (tgt := 10) rfl (fun h5 => absurd h5 (by decide)) (fun h5 => ?_)
  refine lv_iconst (v := (-1)) F.1 F.2.1 dd_TL_end_8 (by decide) ?_
  exact zw_iret F hr hlk hP hS rfl rfl dd_TL_end_9
set_option maxHeartbeats 4000000 in
set_option maxRecDepth 100000 in
theorem zc_TL_send (lc : Launch) (G : zw_G) (b0 : Nat) (S : zs_S) (i : Nat) (c : Nat) (w : Nat) (k : Nat) (a : Int32) (hi : i < 2) (hc : c < 3) (hw : w < 16) (hk : k < 6) (ha : ¬ a < nI 1) (ha2 : a ≤ nI 1000) (hkv : ¬ S 10 i 0 0 < nI k) (hn : S 18 i c 0 = nI (zs_n (S 18 i c 0))) (hn2 : zs_n (S 18 i c 0) ≤ 12) : zw_M lc ym_TL_send bm_TL_send 6 (some .int) { frames := 3, cells := 0, slots := 0, locals := 72 } G b0 176 (zp_p G b0 S) [.ref (b0 + zp_o 0 0 0), .int (nI i), .int (nI c), .int (nI w), .int (nI k), .int a] (zw_Qi G b0 176 (zp_p G b0 (zu_Ledger_sendPacket S i c w k a (S 0 0 0 0))) (zr_Ledger_sendPacket S i c w k a (S 0 0 0 0))) := by
  refine zw_of (by decide) (Nat.le_of_ble_eq_true rfl) ?_
  intro p e s m below meth cx ls F hr hlk hE hP hS hl
  have hl : lv_has ls 6 [(0, .ref (b0 + zp_o 0 0 0)), (1, .int (nI i)), (2, .int (nI c)), (3, .int (nI w)), (4, .int (nI k)), (5, .int a)] := hl
  refine lv_iload_n F.1 F.2.1 dd_TL_send_0 rfl (lv_at hl 1 rfl) ?_
  refine lv_iload_n F.1 F.2.1 dd_TL_send_1 rfl (lv_at hl 2 rfl) ?_
  refine zw_goi (zw_rS F hE hP (zc_TL_isEnd lc G b0 S i c (by first | omega | assumption) (by first | omega | assumption)) zk_TL_isEnd za_TL_isEnd wl_TL_47 ⟨rfl, rfl, Nat.le_of_ble_eq_true rfl, Nat.le_of_ble_eq_true rfl⟩ hl.1 rfl (Nat.le_of_ble_eq_true rfl) ⟨Nat.zero_le _, Nat.zero_le _⟩ dd_TL_send_2) hS (fun _ h => h) (fun H locs hP _ _ hS => ?_)
  refine lv_if_eq F.1 F.2.1 dd_TL_send_5 (tgt := 32) rfl (fun h5 => absurd h5 (by decide)) (fun h5 => ?_)
  refine lv_iload_n F.1 F.2.1 dd_TL_send_8 rfl (lv_at hl 3 rfl) ?_
  refine lv_if_lt F.1 F.2.1 dd_TL_send_9 (tgt := 32) rfl (fun h9 => absurd h9 (nI_pos (by omega))) (fun h9 => ?_)
  refine lv_iload_n F.1 F.2.1 dd_TL_send_12 rfl (lv_at hl 3 rfl) ?_
  refine lv_bipush (v := nI 16) F.1 F.2.1 dd_TL_send_13 (by decide) ?_
  refine zn_cge F dd_TL_send_15 (tgt := 32) rfl (by omega) (by omega) (fun h15 => absurd h15 (by omega)) (fun h15 => ?_)
  refine lv_iload F.1 F.2.1 dd_TL_send_18 (lv_at hl 5 rfl) ?_
  refine lv_iconst (v := nI 1) F.1 F.2.1 dd_TL_send_20 (by decide) ?_
  refine lv_icmp_lt F.1 F.2.1 dd_TL_send_21 (tgt := 32) rfl (fun h21 => absurd h21 ha) (fun h21 => ?_)
  refine lv_iload F.1 F.2.1 dd_TL_send_24 (lv_at hl 5 rfl) ?_
  refine lv_sipush (v := nI 1000) F.1 F.2.1 dd_TL_send_26 (by decide) ?_
  refine lv_icmp_le F.1 F.2.1 dd_TL_send_29 (tgt := 34) rfl (fun h29 => ?_) (fun h29 => absurd ha2 h29)
  refine lv_aload_n F.1 F.2.1 dd_TL_send_34 rfl (lv_at hl 0 rfl) ?_
  refine zc_gF (t := 0) (i := 0) (j := 0) F hE hP ⟨by decide, (show 0 < 1 by omega), (show 0 < 1 by omega)⟩ rfl rfl zi_TL 1 (by decide) rfl wf_TL_11 rfl dd_TL_send_35 ?_
  refine lv_iload_n F.1 F.2.1 dd_TL_send_38 rfl (lv_at hl 1 rfl) ?_
  refine zc_aald (t := 1) (i := 0) (j := 0) (k := i) (N := 2) (z := 2) (a := (b0 + zp_o 2 i 0)) F hE hP ⟨by decide, (show 0 < 1 by omega), (show 0 < 1 by omega)⟩ rfl rfl rfl (by omega) (by decide) rfl dd_TL_send_39 ?_
  refine zc_gN (t := 2) (i := i) (j := 0) F hE hP ⟨by decide, (show i < 2 by omega), (show 0 < 1 by omega)⟩ rfl rfl zi_Ledger 4 (by decide) rfl wf_TL_66 rfl dd_TL_send_40 ?_
  refine lv_iload F.1 F.2.1 dd_TL_send_43 (lv_at hl 4 rfl) ?_
  refine zw_goi (zw_rV F hE hP (zc_Bank_isKind lc G b0 S i (nI k) (by first | omega | assumption)) zk_Bank_isKind za_Bank_isKind zb_Bank_isKind wl_TL_70 ⟨rfl, rfl, Nat.le_of_ble_eq_true rfl, Nat.le_of_ble_eq_true rfl⟩ (zc_recv (t := 10) (i := i) (j := 0) hE hP ⟨by decide, (show i < 2 by omega), (show 0 < 1 by omega)⟩ rfl rfl) hl.1 rfl (Nat.le_of_ble_eq_true rfl) ⟨Nat.zero_le _, Nat.zero_le _⟩ dd_TL_send_45) hS (fun _ h => h) (fun H locs hP _ _ hS => ?_)
  refine zn_bne F dd_TL_send_48 (tgt := 53) rfl (fun h48 => ?_) (fun h48 => absurd ⟨nI_pos (by omega), hkv⟩ h48)
  refine lv_aload_n F.1 F.2.1 dd_TL_send_53 rfl (lv_at hl 0 rfl) ?_
  refine zc_gF (t := 0) (i := 0) (j := 0) F hE hP ⟨by decide, (show 0 < 1 by omega), (show 0 < 1 by omega)⟩ rfl rfl zi_TL 1 (by decide) rfl wf_TL_11 rfl dd_TL_send_54 ?_
  refine lv_iload_n F.1 F.2.1 dd_TL_send_57 rfl (lv_at hl 1 rfl) ?_
  refine zc_aald (t := 1) (i := 0) (j := 0) (k := i) (N := 2) (z := 2) (a := (b0 + zp_o 2 i 0)) F hE hP ⟨by decide, (show 0 < 1 by omega), (show 0 < 1 by omega)⟩ rfl rfl rfl (by omega) (by decide) rfl dd_TL_send_58 ?_
  refine lv_iload_n F.1 F.2.1 dd_TL_send_59 rfl (lv_at hl 2 rfl) ?_
  refine lv_iload_n F.1 F.2.1 dd_TL_send_60 rfl (lv_at hl 3 rfl) ?_
  refine lv_iload F.1 F.2.1 dd_TL_send_61 (lv_at hl 4 rfl) ?_
  refine lv_iload F.1 F.2.1 dd_TL_send_63 (lv_at hl 5 rfl) ?_
  refine lv_aload_n F.1 F.2.1 dd_TL_send_65 rfl (lv_at hl 0 rfl) ?_
  refine zc_gF (t := 0) (i := 0) (j := 0) F hE hP ⟨by decide, (show 0 < 1 by omega), (show 0 < 1 by omega)⟩ rfl rfl zi_TL 0 (by decide) rfl wf_TL_15 rfl dd_TL_send_66 ?_
  refine zw_goi (zw_rV F hE hP (zc_Ledger_sendPacket lc G b0 S i c w k a (S 0 0 0 0) (by first | omega | assumption) (by first | omega | assumption) (by first | omega | assumption) (by first | omega | assumption) (by assumption) (by assumption)) zk_Ledger_sendPacket za_Ledger_sendPacket zb_Ledger_sendPacket wl_TL_75 ⟨rfl, rfl, Nat.le_of_ble_eq_true rfl, Nat.le_of_ble_eq_true rfl⟩ (zc_recv (t := 2) (i := i) (j := 0) hE hP ⟨by decide, (show i < 2 by omega), (show 0 < 1 by omega)⟩ rfl rfl) hl.1 rfl (Nat.le_of_ble_eq_true rfl) ⟨Nat.zero_le _, Nat.zero_le _⟩ dd_TL_send_69) hS (fun _ h => h) (fun H locs hP _ _ hS => ?_)
  exact zw_iret F hr hlk hP hS rfl rfl dd_TL_send_72
set_option maxHeartbeats 4000000 in
set_option maxRecDepth 100000 in
theorem zc_TL_send_bad (lc : Launch) (G : zw_G) (b0 : Nat) (S : zs_S) (l : Int32) (d : Int32) (w : Int32) (k : Int32) (a : Int32) (hb : ¬ (zs_v l 2 ∧ zs_v d 3)) : zw_M lc ym_TL_send bm_TL_send 6 (some .int) { frames := 2, cells := 0, slots := 0, locals := 41 } G b0 176 (zp_p G b0 S) [.ref (b0 + zp_o 0 0 0), .int l, .int d, .int w, .int k, .int a] (zw_Qi G b0 176 (zp_p G b0 S) (-1)) := by
  refine zw_of (by decide) (Nat.le_of_ble_eq_true rfl) ?_
  intro p e s m below meth cx ls F hr hlk hE hP hS hl
  have hl : lv_has ls 6 [(0, .ref (b0 + zp_o 0 0 0)), (1, .int l), (2, .int d), (3, .int w), (4, .int k), (5, .int a)] := hl
  refine lv_iload_n F.1 F.2.1 dd_TL_send_0 rfl (lv_at hl 1 rfl) ?_
  refine lv_iload_n F.1 F.2.1 dd_TL_send_1 rfl (lv_at hl 2 rfl) ?_
  refine zw_goi (zw_rS F hE hP (zc_TL_isEnd_bad lc G b0 S l d (by first | omega | assumption)) zk_TL_isEnd za_TL_isEnd wl_TL_47 ⟨rfl, rfl, Nat.le_of_ble_eq_true rfl, Nat.le_of_ble_eq_true rfl⟩ hl.1 rfl (Nat.le_of_ble_eq_true rfl) ⟨Nat.zero_le _, Nat.zero_le _⟩ dd_TL_send_2) hS (fun _ h => h) (fun H locs hP _ _ hS => ?_)
  refine lv_if_eq F.1 F.2.1 dd_TL_send_5 (tgt := 32) rfl (fun h5 => ?_) (fun h5 => absurd h5 (by decide))
  refine lv_iconst (v := (-1)) F.1 F.2.1 dd_TL_send_32 (by decide) ?_
  exact zw_iret F hr hlk hP hS rfl rfl dd_TL_send_33
set_option maxHeartbeats 4000000 in
set_option maxRecDepth 100000 in
theorem zc_TL_send_bad2 (lc : Launch) (G : zw_G) (b0 : Nat) (S : zs_S) (i : Nat) (c : Nat) (w : Int32) (k : Int32) (a : Int32) (hi : i < 2) (hc : c < 3) (hb : w < 0 ∨ nI 16 ≤ w ∨ a < nI 1 ∨ ¬ a ≤ nI 1000 ∨ k < 0 ∨ S 10 i 0 0 < k) : zw_M lc ym_TL_send bm_TL_send 6 (some .int) { frames := 2, cells := 0, slots := 0, locals := 41 } G b0 176 (zp_p G b0 S) [.ref (b0 + zp_o 0 0 0), .int (nI i), .int (nI c), .int w, .int k, .int a] (zw_Qi G b0 176 (zp_p G b0 S) (-1)) := by
  refine zw_of (by decide) (Nat.le_of_ble_eq_true rfl) ?_
  intro p e s m below meth cx ls F hr hlk hE hP hS hl
  have hl : lv_has ls 6 [(0, .ref (b0 + zp_o 0 0 0)), (1, .int (nI i)), (2, .int (nI c)), (3, .int w), (4, .int k), (5, .int a)] := hl
  refine lv_iload_n F.1 F.2.1 dd_TL_send_0 rfl (lv_at hl 1 rfl) ?_
  refine lv_iload_n F.1 F.2.1 dd_TL_send_1 rfl (lv_at hl 2 rfl) ?_
  refine zw_goi (zw_rS F hE hP (zc_TL_isEnd lc G b0 S i c (by first | omega | assumption) (by first | omega | assumption)) zk_TL_isEnd za_TL_isEnd wl_TL_47 ⟨rfl, rfl, Nat.le_of_ble_eq_true rfl, Nat.le_of_ble_eq_true rfl⟩ hl.1 rfl (Nat.le_of_ble_eq_true rfl) ⟨Nat.zero_le _, Nat.zero_le _⟩ dd_TL_send_2) hS (fun _ h => h) (fun H locs hP _ _ hS => ?_)
  refine lv_if_eq F.1 F.2.1 dd_TL_send_5 (tgt := 32) rfl (fun h5 => absurd h5 (by decide)) (fun h5 => ?_)
  refine lv_iload_n F.1 F.2.1 dd_TL_send_8 rfl (lv_at hl 3 rfl) ?_
  refine lv_if_lt F.1 F.2.1 dd_TL_send_9 (tgt := 32) rfl (fun h9 => ?_) (fun h9 => ?_)
  · refine lv_iconst (v := (-1)) F.1 F.2.1 dd_TL_send_32 (by decide) ?_
    exact zw_iret F hr hlk hP hS rfl rfl dd_TL_send_33
  · refine lv_iload_n F.1 F.2.1 dd_TL_send_12 rfl (lv_at hl 3 rfl) ?_
    refine lv_bipush (v := nI 16) F.1 F.2.1 dd_TL_send_13 (by decide) ?_
    refine lv_icmp_ge F.1 F.2.1 dd_TL_send_15 (tgt := 32) rfl (fun h15 => ?_) (fun h15 => ?_)
    · refine lv_iconst (v := (-1)) F.1 F.2.1 dd_TL_send_32 (by decide) ?_
      exact zw_iret F hr hlk hP hS rfl rfl dd_TL_send_33
    · refine lv_iload F.1 F.2.1 dd_TL_send_18 (lv_at hl 5 rfl) ?_
      refine lv_iconst (v := nI 1) F.1 F.2.1 dd_TL_send_20 (by decide) ?_
      refine lv_icmp_lt F.1 F.2.1 dd_TL_send_21 (tgt := 32) rfl (fun h21 => ?_) (fun h21 => ?_)
      · refine lv_iconst (v := (-1)) F.1 F.2.1 dd_TL_send_32 (by decide) ?_
        exact zw_iret F hr hlk hP hS rfl rfl dd_TL_send_33
      · refine lv_iload F.1 F.2.1 dd_TL_send_24 (lv_at hl 5 rfl) ?_
        refine lv_sipush (v := nI 1000) F.1 F.2.1 dd_TL_send_26 (by decide) ?_
        refine lv_icmp_le F.1 F.2.1 dd_TL_send_29 (tgt := 34) rfl (fun h29 => ?_) (fun h29 => ?_)
        · refine lv_aload_n F.1 F.2.1 dd_TL_send_34 rfl (lv_at hl 0 rfl) ?_
          refine zc_gF (t := 0) (i := 0) (j := 0) F hE hP ⟨by decide, (show 0 < 1 by omega), (show 0 < 1 by omega)⟩ rfl rfl zi_TL 1 (by decide) rfl wf_TL_11 rfl dd_TL_send_35 ?_
          refine lv_iload_n F.1 F.2.1 dd_TL_send_38 rfl (lv_at hl 1 rfl) ?_
          refine zc_aald (t := 1) (i := 0) (j := 0) (k := i) (N := 2) (z := 2) (a := (b0 + zp_o 2 i 0)) F hE hP ⟨by decide, (show 0 < 1 by omega), (show 0 < 1 by omega)⟩ rfl rfl rfl (by omega) (by decide) rfl dd_TL_send_39 ?_
          refine zc_gN (t := 2) (i := i) (j := 0) F hE hP ⟨by decide, (show i < 2 by omega), (show 0 < 1 by omega)⟩ rfl rfl zi_Ledger 4 (by decide) rfl wf_TL_66 rfl dd_TL_send_40 ?_
          refine lv_iload F.1 F.2.1 dd_TL_send_43 (lv_at hl 4 rfl) ?_
          refine zw_goi (zw_rV F hE hP (zc_Bank_isKind lc G b0 S i k (by first | omega | assumption)) zk_Bank_isKind za_Bank_isKind zb_Bank_isKind wl_TL_70 ⟨rfl, rfl, Nat.le_of_ble_eq_true rfl, Nat.le_of_ble_eq_true rfl⟩ (zc_recv (t := 10) (i := i) (j := 0) hE hP ⟨by decide, (show i < 2 by omega), (show 0 < 1 by omega)⟩ rfl rfl) hl.1 rfl (Nat.le_of_ble_eq_true rfl) ⟨Nat.zero_le _, Nat.zero_le _⟩ dd_TL_send_45) hS (fun _ h => h) (fun H locs hP _ _ hS => ?_)
          refine zn_bne F dd_TL_send_48 (tgt := 53) rfl (fun h48 => Or.elim hb (fun z => absurd z h9) (fun y => Or.elim y (fun z => absurd z h15) (fun y => Or.elim y (fun z => absurd z h21) (fun y => Or.elim y (fun z => absurd h29 z) (fun y => Or.elim y (fun z => absurd z h48.1) (fun z => absurd z h48.2)))))) (fun h48 => ?_)
          refine lv_iconst (v := (-1)) F.1 F.2.1 dd_TL_send_51 (by decide) ?_
          exact zw_iret F hr hlk hP hS rfl rfl dd_TL_send_52
        · refine lv_iconst (v := (-1)) F.1 F.2.1 dd_TL_send_32 (by decide) ?_
          exact zw_iret F hr hlk hP hS rfl rfl dd_TL_send_33
set_option maxHeartbeats 4000000 in
set_option maxRecDepth 100000 in
theorem zc_TL_isPacket (lc : Launch) (G : zw_G) (b0 : Nat) (S : zs_S) (i : Nat) (c : Nat) (j : Nat) (hi : i < 2) (hc : c < 3) (hn : S 18 i c 0 = nI (zs_n (S 18 i c 0))) (hn2 : zs_n (S 18 i c 0) ≤ 12) (hjn : j + 1 ≤ zs_n (S 18 i c 0)) : zw_M lc ym_TL_isPacket bm_TL_isPacket 4 (some .boolean) { frames := 2, cells := 0, slots := 0, locals := 41 } G b0 176 (zp_p G b0 S) [.ref (b0 + zp_o 0 0 0), .int (nI i), .int (nI c), .int (nI (j + 1))] (zw_Qi G b0 176 (zp_p G b0 S) (nI 1)) := by
  refine zw_of (by decide) (Nat.le_of_ble_eq_true rfl) ?_
  intro p e s m below meth cx ls F hr hlk hE hP hS hl
  have hl : lv_has ls 4 [(0, .ref (b0 + zp_o 0 0 0)), (1, .int (nI i)), (2, .int (nI c)), (3, .int (nI (j + 1)))] := hl
  refine lv_iload_n F.1 F.2.1 dd_TL_isPacket_0 rfl (lv_at hl 1 rfl) ?_
  refine lv_iload_n F.1 F.2.1 dd_TL_isPacket_1 rfl (lv_at hl 2 rfl) ?_
  refine zw_goi (zw_rS F hE hP (zc_TL_isEnd lc G b0 S i c (by first | omega | assumption) (by first | omega | assumption)) zk_TL_isEnd za_TL_isEnd wl_TL_47 ⟨rfl, rfl, Nat.le_of_ble_eq_true rfl, Nat.le_of_ble_eq_true rfl⟩ hl.1 rfl (Nat.le_of_ble_eq_true rfl) ⟨Nat.zero_le _, Nat.zero_le _⟩ dd_TL_isPacket_2) hS (fun _ h => h) (fun H locs hP _ _ hS => ?_)
  refine lv_if_eq F.1 F.2.1 dd_TL_isPacket_5 (tgt := 35) rfl (fun h5 => absurd h5 (by decide)) (fun h5 => ?_)
  refine lv_iload_n F.1 F.2.1 dd_TL_isPacket_8 rfl (lv_at hl 3 rfl) ?_
  refine lv_iconst (v := nI 1) F.1 F.2.1 dd_TL_isPacket_9 (by decide) ?_
  refine zn_clt F dd_TL_isPacket_10 (tgt := 35) rfl (by omega) (by omega) (fun h10 => absurd h10 (by omega)) (fun h10 => ?_)
  refine lv_iload_n F.1 F.2.1 dd_TL_isPacket_13 rfl (lv_at hl 3 rfl) ?_
  refine lv_aload_n F.1 F.2.1 dd_TL_isPacket_14 rfl (lv_at hl 0 rfl) ?_
  refine zc_gF (t := 0) (i := 0) (j := 0) F hE hP ⟨by decide, (show 0 < 1 by omega), (show 0 < 1 by omega)⟩ rfl rfl zi_TL 1 (by decide) rfl wf_TL_11 rfl dd_TL_isPacket_15 ?_
  refine lv_iload_n F.1 F.2.1 dd_TL_isPacket_18 rfl (lv_at hl 1 rfl) ?_
  refine zc_aald (t := 1) (i := 0) (j := 0) (k := i) (N := 2) (z := 2) (a := (b0 + zp_o 2 i 0)) F hE hP ⟨by decide, (show 0 < 1 by omega), (show 0 < 1 by omega)⟩ rfl rfl rfl (by omega) (by decide) rfl dd_TL_isPacket_19 ?_
  refine zc_gN (t := 2) (i := i) (j := 0) F hE hP ⟨by decide, (show i < 2 by omega), (show 0 < 1 by omega)⟩ rfl rfl zi_Ledger 5 (by decide) rfl wf_TL_116 rfl dd_TL_isPacket_20 ?_
  refine lv_iload_n F.1 F.2.1 dd_TL_isPacket_23 rfl (lv_at hl 2 rfl) ?_
  refine zc_aald (t := 17) (i := i) (j := 0) (k := c) (N := 3) (z := 4) (a := (b0 + zp_o 18 i c)) F hE hP ⟨by decide, (show i < 2 by omega), (show 0 < 1 by omega)⟩ rfl rfl rfl (by omega) (by decide) rfl dd_TL_isPacket_24 ?_
  refine zc_gN (t := 18) (i := i) (j := c) F hE hP ⟨by decide, (show i < 2 by omega), (show c < 3 by omega)⟩ rfl rfl zi_End 1 (by decide) rfl wf_TL_120 rfl dd_TL_isPacket_25 ?_
  refine zn_top (y := nI (zs_n (S 18 i c 0))) (hn) ?_
  refine zn_cgt F dd_TL_isPacket_28 (tgt := 35) rfl (by omega) (by omega) (fun h28 => absurd h28 (by omega)) (fun h28 => ?_)
  refine lv_iconst (v := nI 1) F.1 F.2.1 dd_TL_isPacket_31 (by decide) ?_
  refine lv_goto F.1 F.2.1 dd_TL_isPacket_32 (tgt := 36) rfl ?_
  exact zw_zret F hr hlk hP hS rfl (by decide) rfl dd_TL_isPacket_36
set_option maxHeartbeats 4000000 in
set_option maxRecDepth 100000 in
theorem zc_TL_isPacket_bad (lc : Launch) (G : zw_G) (b0 : Nat) (S : zs_S) (l : Int32) (d : Int32) (x : Int32) (hb : ¬ (zs_v l 2 ∧ zs_v d 3)) : zw_M lc ym_TL_isPacket bm_TL_isPacket 4 (some .boolean) { frames := 2, cells := 0, slots := 0, locals := 41 } G b0 176 (zp_p G b0 S) [.ref (b0 + zp_o 0 0 0), .int l, .int d, .int x] (zw_Qi G b0 176 (zp_p G b0 S) (nI 0)) := by
  refine zw_of (by decide) (Nat.le_of_ble_eq_true rfl) ?_
  intro p e s m below meth cx ls F hr hlk hE hP hS hl
  have hl : lv_has ls 4 [(0, .ref (b0 + zp_o 0 0 0)), (1, .int l), (2, .int d), (3, .int x)] := hl
  refine lv_iload_n F.1 F.2.1 dd_TL_isPacket_0 rfl (lv_at hl 1 rfl) ?_
  refine lv_iload_n F.1 F.2.1 dd_TL_isPacket_1 rfl (lv_at hl 2 rfl) ?_
  refine zw_goi (zw_rS F hE hP (zc_TL_isEnd_bad lc G b0 S l d (by first | omega | assumption)) zk_TL_isEnd za_TL_isEnd wl_TL_47 ⟨rfl, rfl, Nat.le_of_ble_eq_true rfl, Nat.le_of_ble_eq_true rfl⟩ hl.1 rfl (Nat.le_of_ble_eq_true rfl) ⟨Nat.zero_le _, Nat.zero_le _⟩ dd_TL_isPacket_2) hS (fun _ h => h) (fun H locs hP _ _ hS => ?_)
  refine lv_if_eq F.1 F.2.1 dd_TL_isPacket_5 (tgt := 35) rfl (fun h5 => ?_) (fun h5 => absurd h5 (by decide))
  refine lv_iconst (v := nI 0) F.1 F.2.1 dd_TL_isPacket_35 (by decide) ?_
  exact zw_zret F hr hlk hP hS rfl (by decide) rfl dd_TL_isPacket_36
set_option maxHeartbeats 4000000 in
set_option maxRecDepth 100000 in
theorem zc_TL_isPacket_bad2 (lc : Launch) (G : zw_G) (b0 : Nat) (S : zs_S) (i : Nat) (c : Nat) (x : Int32) (hi : i < 2) (hc : c < 3) (hb : x < nI 1 ∨ S 18 i c 0 < x) : zw_M lc ym_TL_isPacket bm_TL_isPacket 4 (some .boolean) { frames := 2, cells := 0, slots := 0, locals := 41 } G b0 176 (zp_p G b0 S) [.ref (b0 + zp_o 0 0 0), .int (nI i), .int (nI c), .int x] (zw_Qi G b0 176 (zp_p G b0 S) (nI 0)) := by
  refine zw_of (by decide) (Nat.le_of_ble_eq_true rfl) ?_
  intro p e s m below meth cx ls F hr hlk hE hP hS hl
  have hl : lv_has ls 4 [(0, .ref (b0 + zp_o 0 0 0)), (1, .int (nI i)), (2, .int (nI c)), (3, .int x)] := hl
  refine lv_iload_n F.1 F.2.1 dd_TL_isPacket_0 rfl (lv_at hl 1 rfl) ?_
  refine lv_iload_n F.1 F.2.1 dd_TL_isPacket_1 rfl (lv_at hl 2 rfl) ?_
  refine zw_goi (zw_rS F hE hP (zc_TL_isEnd lc G b0 S i c (by first | omega | assumption) (by first | omega | assumption)) zk_TL_isEnd za_TL_isEnd wl_TL_47 ⟨rfl, rfl, Nat.le_of_ble_eq_true rfl, Nat.le_of_ble_eq_true rfl⟩ hl.1 rfl (Nat.le_of_ble_eq_true rfl) ⟨Nat.zero_le _, Nat.zero_le _⟩ dd_TL_isPacket_2) hS (fun _ h => h) (fun H locs hP _ _ hS => ?_)
  refine lv_if_eq F.1 F.2.1 dd_TL_isPacket_5 (tgt := 35) rfl (fun h5 => absurd h5 (by decide)) (fun h5 => ?_)
  refine lv_iload_n F.1 F.2.1 dd_TL_isPacket_8 rfl (lv_at hl 3 rfl) ?_
  refine lv_iconst (v := nI 1) F.1 F.2.1 dd_TL_isPacket_9 (by decide) ?_
  refine lv_icmp_lt F.1 F.2.1 dd_TL_isPacket_10 (tgt := 35) rfl (fun h10 => ?_) (fun h10 => ?_)
  · refine lv_iconst (v := nI 0) F.1 F.2.1 dd_TL_isPacket_35 (by decide) ?_
    exact zw_zret F hr hlk hP hS rfl (by decide) rfl dd_TL_isPacket_36
  · refine lv_iload_n F.1 F.2.1 dd_TL_isPacket_13 rfl (lv_at hl 3 rfl) ?_
    refine lv_aload_n F.1 F.2.1 dd_TL_isPacket_14 rfl (lv_at hl 0 rfl) ?_
    refine zc_gF (t := 0) (i := 0) (j := 0) F hE hP ⟨by decide, (show 0 < 1 by omega), (show 0 < 1 by omega)⟩ rfl rfl zi_TL 1 (by decide) rfl wf_TL_11 rfl dd_TL_isPacket_15 ?_
    refine lv_iload_n F.1 F.2.1 dd_TL_isPacket_18 rfl (lv_at hl 1 rfl) ?_
    refine zc_aald (t := 1) (i := 0) (j := 0) (k := i) (N := 2) (z := 2) (a := (b0 + zp_o 2 i 0)) F hE hP ⟨by decide, (show 0 < 1 by omega), (show 0 < 1 by omega)⟩ rfl rfl rfl (by omega) (by decide) rfl dd_TL_isPacket_19 ?_
    refine zc_gN (t := 2) (i := i) (j := 0) F hE hP ⟨by decide, (show i < 2 by omega), (show 0 < 1 by omega)⟩ rfl rfl zi_Ledger 5 (by decide) rfl wf_TL_116 rfl dd_TL_isPacket_20 ?_
    refine lv_iload_n F.1 F.2.1 dd_TL_isPacket_23 rfl (lv_at hl 2 rfl) ?_
    refine zc_aald (t := 17) (i := i) (j := 0) (k := c) (N := 3) (z := 4) (a := (b0 + zp_o 18 i c)) F hE hP ⟨by decide, (show i < 2 by omega), (show 0 < 1 by omega)⟩ rfl rfl rfl (by omega) (by decide) rfl dd_TL_isPacket_24 ?_
    refine zc_gN (t := 18) (i := i) (j := c) F hE hP ⟨by decide, (show i < 2 by omega), (show c < 3 by omega)⟩ rfl rfl zi_End 1 (by decide) rfl wf_TL_120 rfl dd_TL_isPacket_25 ?_
    refine lv_icmp_gt F.1 F.2.1 dd_TL_isPacket_28 (tgt := 35) rfl (fun h28 => ?_) (fun h28 => Or.elim hb (fun z => absurd z h10) (fun z => absurd z h28))
    refine lv_iconst (v := nI 0) F.1 F.2.1 dd_TL_isPacket_35 (by decide) ?_
    exact zw_zret F hr hlk hP hS rfl (by decide) rfl dd_TL_isPacket_36
set_option maxHeartbeats 4000000 in
set_option maxRecDepth 100000 in
theorem zc_TL_acknowledge (lc : Launch) (G : zw_G) (b0 : Nat) (S : zs_S) (i : Nat) (c : Nat) (j : Nat) (h : Int32) (hi : i < 2) (hc : c < 3) (hn : S 18 i c 0 = nI (zs_n (S 18 i c 0))) (hn2 : zs_n (S 18 i c 0) ≤ 12) (hjn : j + 1 ≤ zs_n (S 18 i c 0)) (hB : zs_B S) (hpk : zs_PK S i (12 * c + j)) : zw_M lc ym_TL_acknowledge bm_TL_acknowledge 5 (some .int) { frames := 4, cells := 0, slots := 0, locals := 98 } G b0 176 (zp_p G b0 S) [.ref (b0 + zp_o 0 0 0), .int (nI i), .int (nI c), .int (nI (j + 1)), .int h] (zw_Qi G b0 176 (zp_p G b0 (zu_Ledger_settleAnswered S i (1 - i) c j h)) (zr_Ledger_settleAnswered S i (1 - i) c j h)) := by
  refine zw_of (by decide) (Nat.le_of_ble_eq_true rfl) ?_
  intro p e s m below meth cx ls F hr hlk hE hP hS hl
  have hl : lv_has ls 5 [(0, .ref (b0 + zp_o 0 0 0)), (1, .int (nI i)), (2, .int (nI c)), (3, .int (nI (j + 1))), (4, .int h)] := hl
  refine lv_aload_n F.1 F.2.1 dd_TL_acknowledge_0 rfl (lv_at hl 0 rfl) ?_
  refine lv_iload_n F.1 F.2.1 dd_TL_acknowledge_1 rfl (lv_at hl 1 rfl) ?_
  refine lv_iload_n F.1 F.2.1 dd_TL_acknowledge_2 rfl (lv_at hl 2 rfl) ?_
  refine lv_iload_n F.1 F.2.1 dd_TL_acknowledge_3 rfl (lv_at hl 3 rfl) ?_
  refine zw_goi (zw_rV F hE hP (zc_TL_isPacket lc G b0 S i c j (by first | omega | assumption) (by first | omega | assumption) (by assumption) (by assumption) (by assumption)) zk_TL_isPacket za_TL_isPacket zb_TL_isPacket wl_TL_79 ⟨rfl, rfl, Nat.le_of_ble_eq_true rfl, Nat.le_of_ble_eq_true rfl⟩ (zc_recv (t := 0) (i := 0) (j := 0) hE hP ⟨by decide, (show 0 < 1 by omega), (show 0 < 1 by omega)⟩ rfl rfl) hl.1 rfl (Nat.le_of_ble_eq_true rfl) ⟨Nat.zero_le _, Nat.zero_le _⟩ dd_TL_acknowledge_4) hS (fun _ h => h) (fun H locs hP _ _ hS => ?_)
  refine lv_if_eq F.1 F.2.1 dd_TL_acknowledge_7 (tgt := 34) rfl (fun h7 => absurd h7 (by decide)) (fun h7 => ?_)
  refine lv_aload_n F.1 F.2.1 dd_TL_acknowledge_10 rfl (lv_at hl 0 rfl) ?_
  refine zc_gF (t := 0) (i := 0) (j := 0) F hE hP ⟨by decide, (show 0 < 1 by omega), (show 0 < 1 by omega)⟩ rfl rfl zi_TL 1 (by decide) rfl wf_TL_11 rfl dd_TL_acknowledge_11 ?_
  refine lv_iload_n F.1 F.2.1 dd_TL_acknowledge_14 rfl (lv_at hl 1 rfl) ?_
  refine zc_aald (t := 1) (i := 0) (j := 0) (k := i) (N := 2) (z := 2) (a := (b0 + zp_o 2 i 0)) F hE hP ⟨by decide, (show 0 < 1 by omega), (show 0 < 1 by omega)⟩ rfl rfl rfl (by omega) (by decide) rfl dd_TL_acknowledge_15 ?_
  refine lv_aload_n F.1 F.2.1 dd_TL_acknowledge_16 rfl (lv_at hl 0 rfl) ?_
  refine zc_gF (t := 0) (i := 0) (j := 0) F hE hP ⟨by decide, (show 0 < 1 by omega), (show 0 < 1 by omega)⟩ rfl rfl zi_TL 1 (by decide) rfl wf_TL_11 rfl dd_TL_acknowledge_17 ?_
  refine lv_iconst (v := nI 1) F.1 F.2.1 dd_TL_acknowledge_20 (by decide) ?_
  refine lv_iload_n F.1 F.2.1 dd_TL_acknowledge_21 rfl (lv_at hl 1 rfl) ?_
  refine zn_isub F dd_TL_acknowledge_22 (by omega) ?_
  refine zc_aald (t := 1) (i := 0) (j := 0) (k := 1 - i) (N := 2) (z := 2) (a := (b0 + zp_o 2 (1 - i) 0)) F hE hP ⟨by decide, (show 0 < 1 by omega), (show 0 < 1 by omega)⟩ rfl rfl rfl (by omega) (by decide) rfl dd_TL_acknowledge_23 ?_
  refine lv_iload_n F.1 F.2.1 dd_TL_acknowledge_24 rfl (lv_at hl 2 rfl) ?_
  refine lv_iload_n F.1 F.2.1 dd_TL_acknowledge_25 rfl (lv_at hl 3 rfl) ?_
  refine lv_iload F.1 F.2.1 dd_TL_acknowledge_26 (lv_at hl 4 rfl) ?_
  refine zw_goi (zw_rV F hE hP (zc_Ledger_settleAnswered lc G b0 S i (1 - i) c j h (by first | omega | assumption) (by first | omega | assumption) (by first | omega | assumption) (by first | omega | assumption) (by assumption) (by assumption)) zk_Ledger_settleAnswered za_Ledger_settleAnswered zb_Ledger_settleAnswered wl_TL_87 ⟨rfl, rfl, Nat.le_of_ble_eq_true rfl, Nat.le_of_ble_eq_true rfl⟩ (zc_recv (t := 2) (i := i) (j := 0) hE hP ⟨by decide, (show i < 2 by omega), (show 0 < 1 by omega)⟩ rfl rfl) hl.1 rfl (Nat.le_of_ble_eq_true rfl) ⟨Nat.zero_le _, Nat.zero_le _⟩ dd_TL_acknowledge_28) hS (fun _ h => h) (fun H locs hP _ _ hS => ?_)
  refine lv_goto F.1 F.2.1 dd_TL_acknowledge_31 (tgt := 35) rfl ?_
  exact zw_iret F hr hlk hP hS rfl rfl dd_TL_acknowledge_35
set_option maxHeartbeats 4000000 in
set_option maxRecDepth 100000 in
theorem zc_TL_acknowledge_bad (lc : Launch) (G : zw_G) (b0 : Nat) (S : zs_S) (l : Int32) (d : Int32) (x : Int32) (h : Int32) (hb : ¬ (zs_v l 2 ∧ zs_v d 3)) : zw_M lc ym_TL_acknowledge bm_TL_acknowledge 5 (some .int) { frames := 3, cells := 0, slots := 0, locals := 64 } G b0 176 (zp_p G b0 S) [.ref (b0 + zp_o 0 0 0), .int l, .int d, .int x, .int h] (zw_Qi G b0 176 (zp_p G b0 S) (-1)) := by
  refine zw_of (by decide) (Nat.le_of_ble_eq_true rfl) ?_
  intro p e s m below meth cx ls F hr hlk hE hP hS hl
  have hl : lv_has ls 5 [(0, .ref (b0 + zp_o 0 0 0)), (1, .int l), (2, .int d), (3, .int x), (4, .int h)] := hl
  refine lv_aload_n F.1 F.2.1 dd_TL_acknowledge_0 rfl (lv_at hl 0 rfl) ?_
  refine lv_iload_n F.1 F.2.1 dd_TL_acknowledge_1 rfl (lv_at hl 1 rfl) ?_
  refine lv_iload_n F.1 F.2.1 dd_TL_acknowledge_2 rfl (lv_at hl 2 rfl) ?_
  refine lv_iload_n F.1 F.2.1 dd_TL_acknowledge_3 rfl (lv_at hl 3 rfl) ?_
  refine zw_goi (zw_rV F hE hP (zc_TL_isPacket_bad lc G b0 S l d x (by first | omega | assumption)) zk_TL_isPacket za_TL_isPacket zb_TL_isPacket wl_TL_79 ⟨rfl, rfl, Nat.le_of_ble_eq_true rfl, Nat.le_of_ble_eq_true rfl⟩ (zc_recv (t := 0) (i := 0) (j := 0) hE hP ⟨by decide, (show 0 < 1 by omega), (show 0 < 1 by omega)⟩ rfl rfl) hl.1 rfl (Nat.le_of_ble_eq_true rfl) ⟨Nat.zero_le _, Nat.zero_le _⟩ dd_TL_acknowledge_4) hS (fun _ h => h) (fun H locs hP _ _ hS => ?_)
  refine lv_if_eq F.1 F.2.1 dd_TL_acknowledge_7 (tgt := 34) rfl (fun h7 => ?_) (fun h7 => absurd h7 (by decide))
  refine lv_iconst (v := (-1)) F.1 F.2.1 dd_TL_acknowledge_34 (by decide) ?_
  exact zw_iret F hr hlk hP hS rfl rfl dd_TL_acknowledge_35
set_option maxHeartbeats 4000000 in
set_option maxRecDepth 100000 in
theorem zc_TL_acknowledge_bad2 (lc : Launch) (G : zw_G) (b0 : Nat) (S : zs_S) (i : Nat) (c : Nat) (x : Int32) (h : Int32) (hi : i < 2) (hc : c < 3) (hb : x < nI 1 ∨ S 18 i c 0 < x) : zw_M lc ym_TL_acknowledge bm_TL_acknowledge 5 (some .int) { frames := 3, cells := 0, slots := 0, locals := 64 } G b0 176 (zp_p G b0 S) [.ref (b0 + zp_o 0 0 0), .int (nI i), .int (nI c), .int x, .int h] (zw_Qi G b0 176 (zp_p G b0 S) (-1)) := by
  refine zw_of (by decide) (Nat.le_of_ble_eq_true rfl) ?_
  intro p e s m below meth cx ls F hr hlk hE hP hS hl
  have hl : lv_has ls 5 [(0, .ref (b0 + zp_o 0 0 0)), (1, .int (nI i)), (2, .int (nI c)), (3, .int x), (4, .int h)] := hl
  refine lv_aload_n F.1 F.2.1 dd_TL_acknowledge_0 rfl (lv_at hl 0 rfl) ?_
  refine lv_iload_n F.1 F.2.1 dd_TL_acknowledge_1 rfl (lv_at hl 1 rfl) ?_
  refine lv_iload_n F.1 F.2.1 dd_TL_acknowledge_2 rfl (lv_at hl 2 rfl) ?_
  refine lv_iload_n F.1 F.2.1 dd_TL_acknowledge_3 rfl (lv_at hl 3 rfl) ?_
  refine zw_goi (zw_rV F hE hP (zc_TL_isPacket_bad2 lc G b0 S i c x (by first | omega | assumption) (by first | omega | assumption) (by assumption)) zk_TL_isPacket za_TL_isPacket zb_TL_isPacket wl_TL_79 ⟨rfl, rfl, Nat.le_of_ble_eq_true rfl, Nat.le_of_ble_eq_true rfl⟩ (zc_recv (t := 0) (i := 0) (j := 0) hE hP ⟨by decide, (show 0 < 1 by omega), (show 0 < 1 by omega)⟩ rfl rfl) hl.1 rfl (Nat.le_of_ble_eq_true rfl) ⟨Nat.zero_le _, Nat.zero_le _⟩ dd_TL_acknowledge_4) hS (fun _ h => h) (fun H locs hP _ _ hS => ?_)
  refine lv_if_eq F.1 F.2.1 dd_TL_acknowledge_7 (tgt := 34) rfl (fun h7 => ?_) (fun h7 => absurd h7 (by decide))
  refine lv_iconst (v := (-1)) F.1 F.2.1 dd_TL_acknowledge_34 (by decide) ?_
  exact zw_iret F hr hlk hP hS rfl rfl dd_TL_acknowledge_35
set_option maxHeartbeats 4000000 in
set_option maxRecDepth 100000 in
theorem zc_TL_timeout (lc : Launch) (G : zw_G) (b0 : Nat) (S : zs_S) (i : Nat) (c : Nat) (j : Nat) (h : Int32) (w : Int32) (hi : i < 2) (hc : c < 3) (hn : S 18 i c 0 = nI (zs_n (S 18 i c 0))) (hn2 : zs_n (S 18 i c 0) ≤ 12) (hjn : j + 1 ≤ zs_n (S 18 i c 0)) (hB : zs_B S) (hpk : zs_PK S i (12 * c + j)) : zw_M lc ym_TL_timeout bm_TL_timeout 6 (some .int) { frames := 5, cells := 0, slots := 0, locals := 121 } G b0 176 (zp_p G b0 S) [.ref (b0 + zp_o 0 0 0), .int (nI i), .int (nI c), .int (nI (j + 1)), .int h, .int w] (zw_Qi G b0 176 (zp_p G b0 (zu_Ledger_settleTimedOut S i (1 - i) c j h w)) (zr_Ledger_settleTimedOut S i (1 - i) c j h w)) := by
  refine zw_of (by decide) (Nat.le_of_ble_eq_true rfl) ?_
  intro p e s m below meth cx ls F hr hlk hE hP hS hl
  have hl : lv_has ls 6 [(0, .ref (b0 + zp_o 0 0 0)), (1, .int (nI i)), (2, .int (nI c)), (3, .int (nI (j + 1))), (4, .int h), (5, .int w)] := hl
  refine lv_aload_n F.1 F.2.1 dd_TL_timeout_0 rfl (lv_at hl 0 rfl) ?_
  refine lv_iload_n F.1 F.2.1 dd_TL_timeout_1 rfl (lv_at hl 1 rfl) ?_
  refine lv_iload_n F.1 F.2.1 dd_TL_timeout_2 rfl (lv_at hl 2 rfl) ?_
  refine lv_iload_n F.1 F.2.1 dd_TL_timeout_3 rfl (lv_at hl 3 rfl) ?_
  refine zw_goi (zw_rV F hE hP (zc_TL_isPacket lc G b0 S i c j (by first | omega | assumption) (by first | omega | assumption) (by assumption) (by assumption) (by assumption)) zk_TL_isPacket za_TL_isPacket zb_TL_isPacket wl_TL_79 ⟨rfl, rfl, Nat.le_of_ble_eq_true rfl, Nat.le_of_ble_eq_true rfl⟩ (zc_recv (t := 0) (i := 0) (j := 0) hE hP ⟨by decide, (show 0 < 1 by omega), (show 0 < 1 by omega)⟩ rfl rfl) hl.1 rfl (Nat.le_of_ble_eq_true rfl) ⟨Nat.zero_le _, Nat.zero_le _⟩ dd_TL_timeout_4) hS (fun _ h => h) (fun H locs hP _ _ hS => ?_)
  refine lv_if_ne F.1 F.2.1 dd_TL_timeout_7 (tgt := 12) rfl (fun h7 => ?_) (fun h7 => absurd h7 (by decide))
  refine lv_aload_n F.1 F.2.1 dd_TL_timeout_12 rfl (lv_at hl 0 rfl) ?_
  refine zc_gF (t := 0) (i := 0) (j := 0) F hE hP ⟨by decide, (show 0 < 1 by omega), (show 0 < 1 by omega)⟩ rfl rfl zi_TL 1 (by decide) rfl wf_TL_11 rfl dd_TL_timeout_13 ?_
  refine lv_iload_n F.1 F.2.1 dd_TL_timeout_16 rfl (lv_at hl 1 rfl) ?_
  refine zc_aald (t := 1) (i := 0) (j := 0) (k := i) (N := 2) (z := 2) (a := (b0 + zp_o 2 i 0)) F hE hP ⟨by decide, (show 0 < 1 by omega), (show 0 < 1 by omega)⟩ rfl rfl rfl (by omega) (by decide) rfl dd_TL_timeout_17 ?_
  refine lv_aload_n F.1 F.2.1 dd_TL_timeout_18 rfl (lv_at hl 0 rfl) ?_
  refine zc_gF (t := 0) (i := 0) (j := 0) F hE hP ⟨by decide, (show 0 < 1 by omega), (show 0 < 1 by omega)⟩ rfl rfl zi_TL 1 (by decide) rfl wf_TL_11 rfl dd_TL_timeout_19 ?_
  refine lv_iconst (v := nI 1) F.1 F.2.1 dd_TL_timeout_22 (by decide) ?_
  refine lv_iload_n F.1 F.2.1 dd_TL_timeout_23 rfl (lv_at hl 1 rfl) ?_
  refine zn_isub F dd_TL_timeout_24 (by omega) ?_
  refine zc_aald (t := 1) (i := 0) (j := 0) (k := 1 - i) (N := 2) (z := 2) (a := (b0 + zp_o 2 (1 - i) 0)) F hE hP ⟨by decide, (show 0 < 1 by omega), (show 0 < 1 by omega)⟩ rfl rfl rfl (by omega) (by decide) rfl dd_TL_timeout_25 ?_
  refine lv_iload_n F.1 F.2.1 dd_TL_timeout_26 rfl (lv_at hl 2 rfl) ?_
  refine lv_iload_n F.1 F.2.1 dd_TL_timeout_27 rfl (lv_at hl 3 rfl) ?_
  refine lv_iload F.1 F.2.1 dd_TL_timeout_28 (lv_at hl 4 rfl) ?_
  refine lv_iload F.1 F.2.1 dd_TL_timeout_30 (lv_at hl 5 rfl) ?_
  refine zw_goi (zw_rV F hE hP (zc_Ledger_settleTimedOut lc G b0 S i (1 - i) c j h w (by first | omega | assumption) (by first | omega | assumption) (by first | omega | assumption) (by first | omega | assumption) (by assumption) (by assumption)) zk_Ledger_settleTimedOut za_Ledger_settleTimedOut zb_Ledger_settleTimedOut wl_TL_91 ⟨rfl, rfl, Nat.le_of_ble_eq_true rfl, Nat.le_of_ble_eq_true rfl⟩ (zc_recv (t := 2) (i := i) (j := 0) hE hP ⟨by decide, (show i < 2 by omega), (show 0 < 1 by omega)⟩ rfl rfl) hl.1 rfl (Nat.le_of_ble_eq_true rfl) ⟨Nat.zero_le _, Nat.zero_le _⟩ dd_TL_timeout_32) hS (fun _ h => h) (fun H locs hP _ _ hS => ?_)
  exact zw_iret F hr hlk hP hS rfl rfl dd_TL_timeout_35
set_option maxHeartbeats 4000000 in
set_option maxRecDepth 100000 in
theorem zc_TL_timeout_bad (lc : Launch) (G : zw_G) (b0 : Nat) (S : zs_S) (l : Int32) (d : Int32) (x : Int32) (h : Int32) (w : Int32) (hb : ¬ (zs_v l 2 ∧ zs_v d 3)) : zw_M lc ym_TL_timeout bm_TL_timeout 6 (some .int) { frames := 3, cells := 0, slots := 0, locals := 64 } G b0 176 (zp_p G b0 S) [.ref (b0 + zp_o 0 0 0), .int l, .int d, .int x, .int h, .int w] (zw_Qi G b0 176 (zp_p G b0 S) (-1)) := by
  refine zw_of (by decide) (Nat.le_of_ble_eq_true rfl) ?_
  intro p e s m below meth cx ls F hr hlk hE hP hS hl
  have hl : lv_has ls 6 [(0, .ref (b0 + zp_o 0 0 0)), (1, .int l), (2, .int d), (3, .int x), (4, .int h), (5, .int w)] := hl
  refine lv_aload_n F.1 F.2.1 dd_TL_timeout_0 rfl (lv_at hl 0 rfl) ?_
  refine lv_iload_n F.1 F.2.1 dd_TL_timeout_1 rfl (lv_at hl 1 rfl) ?_
  refine lv_iload_n F.1 F.2.1 dd_TL_timeout_2 rfl (lv_at hl 2 rfl) ?_
  refine lv_iload_n F.1 F.2.1 dd_TL_timeout_3 rfl (lv_at hl 3 rfl) ?_
  refine zw_goi (zw_rV F hE hP (zc_TL_isPacket_bad lc G b0 S l d x (by first | omega | assumption)) zk_TL_isPacket za_TL_isPacket zb_TL_isPacket wl_TL_79 ⟨rfl, rfl, Nat.le_of_ble_eq_true rfl, Nat.le_of_ble_eq_true rfl⟩ (zc_recv (t := 0) (i := 0) (j := 0) hE hP ⟨by decide, (show 0 < 1 by omega), (show 0 < 1 by omega)⟩ rfl rfl) hl.1 rfl (Nat.le_of_ble_eq_true rfl) ⟨Nat.zero_le _, Nat.zero_le _⟩ dd_TL_timeout_4) hS (fun _ h => h) (fun H locs hP _ _ hS => ?_)
  refine lv_if_ne F.1 F.2.1 dd_TL_timeout_7 (tgt := 12) rfl (fun h7 => absurd h7 (by decide)) (fun h7 => ?_)
  refine lv_iconst (v := (-1)) F.1 F.2.1 dd_TL_timeout_10 (by decide) ?_
  exact zw_iret F hr hlk hP hS rfl rfl dd_TL_timeout_11
set_option maxHeartbeats 4000000 in
set_option maxRecDepth 100000 in
theorem zc_TL_timeout_bad2 (lc : Launch) (G : zw_G) (b0 : Nat) (S : zs_S) (i : Nat) (c : Nat) (x : Int32) (h : Int32) (w : Int32) (hi : i < 2) (hc : c < 3) (hb : x < nI 1 ∨ S 18 i c 0 < x) : zw_M lc ym_TL_timeout bm_TL_timeout 6 (some .int) { frames := 3, cells := 0, slots := 0, locals := 64 } G b0 176 (zp_p G b0 S) [.ref (b0 + zp_o 0 0 0), .int (nI i), .int (nI c), .int x, .int h, .int w] (zw_Qi G b0 176 (zp_p G b0 S) (-1)) := by
  refine zw_of (by decide) (Nat.le_of_ble_eq_true rfl) ?_
  intro p e s m below meth cx ls F hr hlk hE hP hS hl
  have hl : lv_has ls 6 [(0, .ref (b0 + zp_o 0 0 0)), (1, .int (nI i)), (2, .int (nI c)), (3, .int x), (4, .int h), (5, .int w)] := hl
  refine lv_aload_n F.1 F.2.1 dd_TL_timeout_0 rfl (lv_at hl 0 rfl) ?_
  refine lv_iload_n F.1 F.2.1 dd_TL_timeout_1 rfl (lv_at hl 1 rfl) ?_
  refine lv_iload_n F.1 F.2.1 dd_TL_timeout_2 rfl (lv_at hl 2 rfl) ?_
  refine lv_iload_n F.1 F.2.1 dd_TL_timeout_3 rfl (lv_at hl 3 rfl) ?_
  refine zw_goi (zw_rV F hE hP (zc_TL_isPacket_bad2 lc G b0 S i c x (by first | omega | assumption) (by first | omega | assumption) (by assumption)) zk_TL_isPacket za_TL_isPacket zb_TL_isPacket wl_TL_79 ⟨rfl, rfl, Nat.le_of_ble_eq_true rfl, Nat.le_of_ble_eq_true rfl⟩ (zc_recv (t := 0) (i := 0) (j := 0) hE hP ⟨by decide, (show 0 < 1 by omega), (show 0 < 1 by omega)⟩ rfl rfl) hl.1 rfl (Nat.le_of_ble_eq_true rfl) ⟨Nat.zero_le _, Nat.zero_le _⟩ dd_TL_timeout_4) hS (fun _ h => h) (fun H locs hP _ _ hS => ?_)
  refine lv_if_ne F.1 F.2.1 dd_TL_timeout_7 (tgt := 12) rfl (fun h7 => absurd h7 (by decide)) (fun h7 => ?_)
  refine lv_iconst (v := (-1)) F.1 F.2.1 dd_TL_timeout_10 (by decide) ?_
  exact zw_iret F hr hlk hP hS rfl rfl dd_TL_timeout_11
set_option maxHeartbeats 4000000 in
set_option maxRecDepth 100000 in
theorem zc_TL_packet (lc : Launch) (G : zw_G) (b0 : Nat) (S : zs_S) (i : Nat) (c : Nat) (j : Nat) (hi : i < 2) (hc : c < 3) (hn : S 18 i c 0 = nI (zs_n (S 18 i c 0))) (hn2 : zs_n (S 18 i c 0) ≤ 12) (hjn : j + 1 ≤ zs_n (S 18 i c 0)) : zw_M lc ym_TL_packet bm_TL_packet 4 (some .int) { frames := 3, cells := 0, slots := 0, locals := 64 } G b0 176 (zp_p G b0 S) [.ref (b0 + zp_o 0 0 0), .int (nI i), .int (nI c), .int (nI (j + 1))] (zw_Qi G b0 176 (zp_p G b0 S) (S 20 i (12 * c + j) 6)) := by
  refine zw_of (by decide) (Nat.le_of_ble_eq_true rfl) ?_
  intro p e s m below meth cx ls F hr hlk hE hP hS hl
  have hl : lv_has ls 4 [(0, .ref (b0 + zp_o 0 0 0)), (1, .int (nI i)), (2, .int (nI c)), (3, .int (nI (j + 1)))] := hl
  refine lv_aload_n F.1 F.2.1 dd_TL_packet_0 rfl (lv_at hl 0 rfl) ?_
  refine lv_iload_n F.1 F.2.1 dd_TL_packet_1 rfl (lv_at hl 1 rfl) ?_
  refine lv_iload_n F.1 F.2.1 dd_TL_packet_2 rfl (lv_at hl 2 rfl) ?_
  refine lv_iload_n F.1 F.2.1 dd_TL_packet_3 rfl (lv_at hl 3 rfl) ?_
  refine zw_goi (zw_rV F hE hP (zc_TL_isPacket lc G b0 S i c j (by first | omega | assumption) (by first | omega | assumption) (by assumption) (by assumption) (by assumption)) zk_TL_isPacket za_TL_isPacket zb_TL_isPacket wl_TL_79 ⟨rfl, rfl, Nat.le_of_ble_eq_true rfl, Nat.le_of_ble_eq_true rfl⟩ (zc_recv (t := 0) (i := 0) (j := 0) hE hP ⟨by decide, (show 0 < 1 by omega), (show 0 < 1 by omega)⟩ rfl rfl) hl.1 rfl (Nat.le_of_ble_eq_true rfl) ⟨Nat.zero_le _, Nat.zero_le _⟩ dd_TL_packet_4) hS (fun _ h => h) (fun H locs hP _ _ hS => ?_)
  refine lv_if_eq F.1 F.2.1 dd_TL_packet_7 (tgt := 34) rfl (fun h7 => absurd h7 (by decide)) (fun h7 => ?_)
  refine lv_aload_n F.1 F.2.1 dd_TL_packet_10 rfl (lv_at hl 0 rfl) ?_
  refine zc_gF (t := 0) (i := 0) (j := 0) F hE hP ⟨by decide, (show 0 < 1 by omega), (show 0 < 1 by omega)⟩ rfl rfl zi_TL 1 (by decide) rfl wf_TL_11 rfl dd_TL_packet_11 ?_
  refine lv_iload_n F.1 F.2.1 dd_TL_packet_14 rfl (lv_at hl 1 rfl) ?_
  refine zc_aald (t := 1) (i := 0) (j := 0) (k := i) (N := 2) (z := 2) (a := (b0 + zp_o 2 i 0)) F hE hP ⟨by decide, (show 0 < 1 by omega), (show 0 < 1 by omega)⟩ rfl rfl rfl (by omega) (by decide) rfl dd_TL_packet_15 ?_
  refine zc_gN (t := 2) (i := i) (j := 0) F hE hP ⟨by decide, (show i < 2 by omega), (show 0 < 1 by omega)⟩ rfl rfl zi_Ledger 5 (by decide) rfl wf_TL_116 rfl dd_TL_packet_16 ?_
  refine lv_iload_n F.1 F.2.1 dd_TL_packet_19 rfl (lv_at hl 2 rfl) ?_
  refine zc_aald (t := 17) (i := i) (j := 0) (k := c) (N := 3) (z := 4) (a := (b0 + zp_o 18 i c)) F hE hP ⟨by decide, (show i < 2 by omega), (show 0 < 1 by omega)⟩ rfl rfl rfl (by omega) (by decide) rfl dd_TL_packet_20 ?_
  refine zc_gN (t := 18) (i := i) (j := c) F hE hP ⟨by decide, (show i < 2 by omega), (show c < 3 by omega)⟩ rfl rfl zi_End 0 (by decide) rfl wf_TL_131 rfl dd_TL_packet_21 ?_
  refine lv_iload_n F.1 F.2.1 dd_TL_packet_24 rfl (lv_at hl 3 rfl) ?_
  refine lv_iconst (v := nI 1) F.1 F.2.1 dd_TL_packet_25 (by decide) ?_
  refine zn_isub F dd_TL_packet_26 (by omega) ?_
  refine zn_top (y := nI j) (congrArg nI (by omega)) ?_
  refine zc_aald (t := 19) (i := i) (j := c) (k := j) (N := 12) (z := 5) (a := (b0 + zp_o 20 i (12 * c + j))) F hE hP ⟨by decide, (show i < 2 by omega), (show c < 3 by omega)⟩ rfl rfl rfl (by omega) (by decide) rfl dd_TL_packet_27 ?_
  refine zc_gN (t := 20) (i := i) (j := 12 * c + j) F hE hP ⟨by decide, (show i < 2 by omega), (show 12 * c + j < 36 by omega)⟩ rfl rfl zi_Packet 6 (by decide) rfl wf_TL_135 rfl dd_TL_packet_28 ?_
  refine lv_goto F.1 F.2.1 dd_TL_packet_31 (tgt := 35) rfl ?_
  exact zw_iret F hr hlk hP hS rfl rfl dd_TL_packet_35
