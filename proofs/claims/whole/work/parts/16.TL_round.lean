def zr_TL_round (S : zs_S)  : Int32 := nI ((((((0 + (zs_RPM 0 1 (zs_ln (zs_ln (zs_mb (zs_mb S 0) 1) 0 (zs_n ((zs_mb (zs_mb S 0) 1) 2 1 0 0))) 1 (zs_n ((zs_ln (zs_mb (zs_mb S 0) 1) 0 (zs_n ((zs_mb (zs_mb S 0) 1) 2 1 0 0))) 2 0 0 0))))) + (zs_RAM 0 1 (zs_RPS 0 1 (zs_ln (zs_ln (zs_mb (zs_mb S 0) 1) 0 (zs_n ((zs_mb (zs_mb S 0) 1) 2 1 0 0))) 1 (zs_n ((zs_ln (zs_mb (zs_mb S 0) 1) 0 (zs_n ((zs_mb (zs_mb S 0) 1) 2 1 0 0))) 2 0 0 0)))))) + (zs_RTM 0 1 (zs_RAS 0 1 (zs_RPS 0 1 (zs_ln (zs_ln (zs_mb (zs_mb S 0) 1) 0 (zs_n ((zs_mb (zs_mb S 0) 1) 2 1 0 0))) 1 (zs_n ((zs_ln (zs_mb (zs_mb S 0) 1) 0 (zs_n ((zs_mb (zs_mb S 0) 1) 2 1 0 0))) 2 0 0 0))))))) + (zs_RPM 1 0 (zs_RTS 0 1 (zs_RAS 0 1 (zs_RPS 0 1 (zs_ln (zs_ln (zs_mb (zs_mb S 0) 1) 0 (zs_n ((zs_mb (zs_mb S 0) 1) 2 1 0 0))) 1 (zs_n ((zs_ln (zs_mb (zs_mb S 0) 1) 0 (zs_n ((zs_mb (zs_mb S 0) 1) 2 1 0 0))) 2 0 0 0)))))))) + (zs_RAM 1 0 (zs_RPS 1 0 (zs_RTS 0 1 (zs_RAS 0 1 (zs_RPS 0 1 (zs_ln (zs_ln (zs_mb (zs_mb S 0) 1) 0 (zs_n ((zs_mb (zs_mb S 0) 1) 2 1 0 0))) 1 (zs_n ((zs_ln (zs_mb (zs_mb S 0) 1) 0 (zs_n ((zs_mb (zs_mb S 0) 1) 2 1 0 0))) 2 0 0 0))))))))) + (zs_RTM 1 0 (zs_RAS 1 0 (zs_RPS 1 0 (zs_RTS 0 1 (zs_RAS 0 1 (zs_RPS 0 1 (zs_ln (zs_ln (zs_mb (zs_mb S 0) 1) 0 (zs_n ((zs_mb (zs_mb S 0) 1) 2 1 0 0))) 1 (zs_n ((zs_ln (zs_mb (zs_mb S 0) 1) 0 (zs_n ((zs_mb (zs_mb S 0) 1) 2 1 0 0))) 2 0 0 0))))))))))
def zu_TL_round (S : zs_S)  : zs_S := (zs_RTS 1 0 (zs_RAS 1 0 (zs_RPS 1 0 (zs_RTS 0 1 (zs_RAS 0 1 (zs_RPS 0 1 (zs_ln (zs_ln (zs_mb (zs_mb S 0) 1) 0 (zs_n ((zs_mb (zs_mb S 0) 1) 2 1 0 0))) 1 (zs_n ((zs_ln (zs_mb (zs_mb S 0) 1) 0 (zs_n ((zs_mb (zs_mb S 0) 1) 2 1 0 0))) 2 0 0 0)))))))))
set_option maxHeartbeats 4000000 in
set_option maxRecDepth 100000 in
theorem zc_TL_round (lc : Launch) (G : zw_G) (b0 : Nat) (S : zs_S)  (hI : zs_I S) (h0 : zs_n (S 2 0 0 0) < 512) (h1 : zs_n (S 2 1 0 0) < 512) : zw_M lc ym_TL_round bm_TL_round 3 (some .int) { frames := 7, cells := 0, slots := 0, locals := 175 } G b0 176 (zp_p G b0 S) [.ref (b0 + zp_o 0 0 0)] (zw_Qi G b0 176 (zp_p G b0 (zu_TL_round S )) (zr_TL_round S )) := by
  refine zw_of (by decide) (Nat.le_of_ble_eq_true rfl) ?_
  intro p e s m below meth cx ls F hr hlk hE hP hS hl
  have hl : lv_has ls 3 [(0, .ref (b0 + zp_o 0 0 0))] := hl
  have hI0 := hI
  refine lv_iconst (v := nI 0) F.1 F.2.1 dd_TL_round_0 (by decide) ?_
  refine lv_istore_n F.1 F.2.1 dd_TL_round_1 rfl hl (by decide) (lv' := [(1, .int (nI 0)), (0, .ref (b0 + zp_o 0 0 0))]) rfl (fun ls hl => ?_)
  refine lv_iload_n F.1 F.2.1 dd_TL_round_2 rfl (lv_at hl 0 rfl) ?_
  refine lv_iconst (v := nI 2) F.1 F.2.1 dd_TL_round_3 (by decide) ?_
  refine zn_cge F dd_TL_round_4 (tgt := 23) rfl (by omega) (by omega) (fun h4 => absurd h4 (by decide)) (fun h4 => ?_)
  refine lv_aload_n F.1 F.2.1 dd_TL_round_7 rfl (lv_at hl 1 rfl) ?_
  refine zc_gF (t := 0) (i := 0) (j := 0) F hE hP ⟨by decide, (show 0 < 1 by omega), (show 0 < 1 by omega)⟩ rfl rfl zi_TL 1 (by decide) rfl wf_TL_11 rfl dd_TL_round_8 ?_
  refine lv_iload_n F.1 F.2.1 dd_TL_round_11 rfl (lv_at hl 0 rfl) ?_
  refine zc_aald (t := 1) (i := 0) (j := 0) (k := 0) (N := 2) (z := 2) (a := (b0 + zp_o 2 0 0)) F hE hP ⟨by decide, (show 0 < 1 by omega), (show 0 < 1 by omega)⟩ rfl rfl rfl (by omega) (by decide) rfl dd_TL_round_12 ?_
  refine zw_goi (zw_rV F hE hP (zc_Ledger_makeBlock lc G b0 S 0 (by first | omega | assumption) (zs_IH hI0 (by decide)).1 h0 (zs_IB hI0)) zk_Ledger_makeBlock za_Ledger_makeBlock zb_Ledger_makeBlock wl_TL_24 ⟨rfl, rfl, Nat.le_of_ble_eq_true rfl, Nat.le_of_ble_eq_true rfl⟩ (zc_recv (t := 2) (i := 0) (j := 0) hE hP ⟨by decide, (show 0 < 2 by omega), (show 0 < 1 by omega)⟩ rfl rfl) hl.1 rfl (Nat.le_of_ble_eq_true rfl) ⟨Nat.zero_le _, Nat.zero_le _⟩ dd_TL_round_13) hS (fun _ h => h) (fun H locs hP _ _ hS => ?_)
  have hI1 : zs_I (zs_mb S 0) := zs_Imb (i := 0) hI0 h0
  refine lv_pop F.1 F.2.1 dd_TL_round_16 rfl ?_
  refine lv_iinc F.1 F.2.1 dd_TL_round_17 hl (k := 0) rfl (v := nI 1) (by decide) (by decide) (lv' := [(1, .int (nI 1)), (0, .ref (b0 + zp_o 0 0 0))]) rfl (fun ls hl => ?_)
  refine lv_goto F.1 F.2.1 dd_TL_round_20 (tgt := 2) rfl ?_
  refine lv_iload_n F.1 F.2.1 dd_TL_round_2 rfl (lv_at hl 0 rfl) ?_
  refine lv_iconst (v := nI 2) F.1 F.2.1 dd_TL_round_3 (by decide) ?_
  refine zn_cge F dd_TL_round_4 (tgt := 23) rfl (by omega) (by omega) (fun h4 => absurd h4 (by decide)) (fun h4 => ?_)
  refine lv_aload_n F.1 F.2.1 dd_TL_round_7 rfl (lv_at hl 1 rfl) ?_
  refine zc_gF (t := 0) (i := 0) (j := 0) F hE hP ⟨by decide, (show 0 < 1 by omega), (show 0 < 1 by omega)⟩ rfl rfl zi_TL 1 (by decide) rfl wf_TL_11 rfl dd_TL_round_8 ?_
  refine lv_iload_n F.1 F.2.1 dd_TL_round_11 rfl (lv_at hl 0 rfl) ?_
  refine zc_aald (t := 1) (i := 0) (j := 0) (k := 1) (N := 2) (z := 2) (a := (b0 + zp_o 2 1 0)) F hE hP ⟨by decide, (show 0 < 1 by omega), (show 0 < 1 by omega)⟩ rfl rfl rfl (by omega) (by decide) rfl dd_TL_round_12 ?_
  refine zw_goi (zw_rV F hE hP (zc_Ledger_makeBlock lc G b0 (zs_mb S 0) 1 (by first | omega | assumption) (zs_IH hI1 (by decide)).1 (by rw [zs_mb2, if_neg (by decide)]; exact h1) (zs_IB hI1)) zk_Ledger_makeBlock za_Ledger_makeBlock zb_Ledger_makeBlock wl_TL_24 ⟨rfl, rfl, Nat.le_of_ble_eq_true rfl, Nat.le_of_ble_eq_true rfl⟩ (zc_recv (t := 2) (i := 1) (j := 0) hE hP ⟨by decide, (show 1 < 2 by omega), (show 0 < 1 by omega)⟩ rfl rfl) hl.1 rfl (Nat.le_of_ble_eq_true rfl) ⟨Nat.zero_le _, Nat.zero_le _⟩ dd_TL_round_13) hS (fun _ h => h) (fun H locs hP _ _ hS => ?_)
  have hI2 : zs_I (zs_mb (zs_mb S 0) 1) := zs_Imb (i := 1) hI1 (by rw [zs_mb2, if_neg (by decide)]; exact h1)
  refine lv_pop F.1 F.2.1 dd_TL_round_16 rfl ?_
  refine lv_iinc F.1 F.2.1 dd_TL_round_17 hl (k := 0) rfl (v := nI 2) (by decide) (by decide) (lv' := [(1, .int (nI 2)), (0, .ref (b0 + zp_o 0 0 0))]) rfl (fun ls hl => ?_)
  refine lv_goto F.1 F.2.1 dd_TL_round_20 (tgt := 2) rfl ?_
  refine lv_iload_n F.1 F.2.1 dd_TL_round_2 rfl (lv_at hl 0 rfl) ?_
  refine lv_iconst (v := nI 2) F.1 F.2.1 dd_TL_round_3 (by decide) ?_
  refine zn_cge F dd_TL_round_4 (tgt := 23) rfl (by omega) (by omega) (fun h4 => ?_) (fun h4 => absurd h4 (by decide))
  refine lv_iconst (v := nI 0) F.1 F.2.1 dd_TL_round_23 (by decide) ?_
  refine lv_istore_n F.1 F.2.1 dd_TL_round_24 rfl hl (by decide) (lv' := [(1, .int (nI 0)), (0, .ref (b0 + zp_o 0 0 0))]) rfl (fun ls hl => ?_)
  refine lv_iload_n F.1 F.2.1 dd_TL_round_25 rfl (lv_at hl 0 rfl) ?_
  refine lv_iconst (v := nI 2) F.1 F.2.1 dd_TL_round_26 (by decide) ?_
  refine zn_cge F dd_TL_round_27 (tgt := 59) rfl (by omega) (by omega) (fun h27 => absurd h27 (by decide)) (fun h27 => ?_)
  refine lv_aload_n F.1 F.2.1 dd_TL_round_30 rfl (lv_at hl 1 rfl) ?_
  refine zc_gF (t := 0) (i := 0) (j := 0) F hE hP ⟨by decide, (show 0 < 1 by omega), (show 0 < 1 by omega)⟩ rfl rfl zi_TL 1 (by decide) rfl wf_TL_11 rfl dd_TL_round_31 ?_
  refine lv_iload_n F.1 F.2.1 dd_TL_round_34 rfl (lv_at hl 0 rfl) ?_
  refine zc_aald (t := 1) (i := 0) (j := 0) (k := 0) (N := 2) (z := 2) (a := (b0 + zp_o 2 0 0)) F hE hP ⟨by decide, (show 0 < 1 by omega), (show 0 < 1 by omega)⟩ rfl rfl rfl (by omega) (by decide) rfl dd_TL_round_35 ?_
  refine zc_gN (t := 2) (i := 0) (j := 0) F hE hP ⟨by decide, (show 0 < 2 by omega), (show 0 < 1 by omega)⟩ rfl rfl zi_Ledger 3 (by decide) rfl wf_TL_37 rfl dd_TL_round_36 ?_
  refine lv_aload_n F.1 F.2.1 dd_TL_round_39 rfl (lv_at hl 1 rfl) ?_
  refine zc_gF (t := 0) (i := 0) (j := 0) F hE hP ⟨by decide, (show 0 < 1 by omega), (show 0 < 1 by omega)⟩ rfl rfl zi_TL 1 (by decide) rfl wf_TL_11 rfl dd_TL_round_40 ?_
  refine lv_iconst (v := nI 1) F.1 F.2.1 dd_TL_round_43 (by decide) ?_
  refine lv_iload_n F.1 F.2.1 dd_TL_round_44 rfl (lv_at hl 0 rfl) ?_
  refine zn_isub F dd_TL_round_45 (by omega) ?_
  refine zn_top (y := nI 1) rfl ?_
  refine zc_aald (t := 1) (i := 0) (j := 0) (k := 1) (N := 2) (z := 2) (a := (b0 + zp_o 2 1 0)) F hE hP ⟨by decide, (show 0 < 1 by omega), (show 0 < 1 by omega)⟩ rfl rfl rfl (by omega) (by decide) rfl dd_TL_round_46 ?_
  refine zc_gN (t := 2) (i := 1) (j := 0) F hE hP ⟨by decide, (show 1 < 2 by omega), (show 0 < 1 by omega)⟩ rfl rfl zi_Ledger 6 (by decide) rfl wf_TL_28 rfl dd_TL_round_47 ?_
  refine zn_top (y := nI (zs_n ((zs_mb (zs_mb S 0) 1) 2 1 0 0))) ((zs_IH hI2 (by decide)).1) ?_
  refine zw_gov (zw_rV F hE hP (zc_Client_learn lc G b0 (zs_mb (zs_mb S 0) 1) 0 (zs_n ((zs_mb (zs_mb S 0) 1) 2 1 0 0)) (by first | omega | assumption) (zs_mq1 h1) (zs_IH hI2 (by decide)).2) zk_Client_learn za_Client_learn zb_Client_learn wl_TL_41 ⟨rfl, rfl, Nat.le_of_ble_eq_true rfl, Nat.le_of_ble_eq_true rfl⟩ (zc_recv (t := 8) (i := 0) (j := 0) hE hP ⟨by decide, (show 0 < 2 by omega), (show 0 < 1 by omega)⟩ rfl rfl) hl.1 rfl (Nat.le_of_ble_eq_true rfl) ⟨Nat.zero_le _, Nat.zero_le _⟩ dd_TL_round_50) hS (fun _ h => h) (fun H locs hP _ _ hS => ?_)
  have hI3 : zs_I (zs_ln (zs_mb (zs_mb S 0) 1) 0 (zs_n ((zs_mb (zs_mb S 0) 1) 2 1 0 0))) := zs_Iln (i := 0) hI2
  refine lv_iinc F.1 F.2.1 dd_TL_round_53 hl (k := 0) rfl (v := nI 1) (by decide) (by decide) (lv' := [(1, .int (nI 1)), (0, .ref (b0 + zp_o 0 0 0))]) rfl (fun ls hl => ?_)
  refine lv_goto F.1 F.2.1 dd_TL_round_56 (tgt := 25) rfl ?_
  refine lv_iload_n F.1 F.2.1 dd_TL_round_25 rfl (lv_at hl 0 rfl) ?_
  refine lv_iconst (v := nI 2) F.1 F.2.1 dd_TL_round_26 (by decide) ?_
  refine zn_cge F dd_TL_round_27 (tgt := 59) rfl (by omega) (by omega) (fun h27 => absurd h27 (by decide)) (fun h27 => ?_)
  refine lv_aload_n F.1 F.2.1 dd_TL_round_30 rfl (lv_at hl 1 rfl) ?_
  refine zc_gF (t := 0) (i := 0) (j := 0) F hE hP ⟨by decide, (show 0 < 1 by omega), (show 0 < 1 by omega)⟩ rfl rfl zi_TL 1 (by decide) rfl wf_TL_11 rfl dd_TL_round_31 ?_
  refine lv_iload_n F.1 F.2.1 dd_TL_round_34 rfl (lv_at hl 0 rfl) ?_
  refine zc_aald (t := 1) (i := 0) (j := 0) (k := 1) (N := 2) (z := 2) (a := (b0 + zp_o 2 1 0)) F hE hP ⟨by decide, (show 0 < 1 by omega), (show 0 < 1 by omega)⟩ rfl rfl rfl (by omega) (by decide) rfl dd_TL_round_35 ?_
  refine zc_gN (t := 2) (i := 1) (j := 0) F hE hP ⟨by decide, (show 1 < 2 by omega), (show 0 < 1 by omega)⟩ rfl rfl zi_Ledger 3 (by decide) rfl wf_TL_37 rfl dd_TL_round_36 ?_
  refine lv_aload_n F.1 F.2.1 dd_TL_round_39 rfl (lv_at hl 1 rfl) ?_
  refine zc_gF (t := 0) (i := 0) (j := 0) F hE hP ⟨by decide, (show 0 < 1 by omega), (show 0 < 1 by omega)⟩ rfl rfl zi_TL 1 (by decide) rfl wf_TL_11 rfl dd_TL_round_40 ?_
  refine lv_iconst (v := nI 1) F.1 F.2.1 dd_TL_round_43 (by decide) ?_
  refine lv_iload_n F.1 F.2.1 dd_TL_round_44 rfl (lv_at hl 0 rfl) ?_
  refine zn_isub F dd_TL_round_45 (by omega) ?_
  refine zn_top (y := nI 0) rfl ?_
  refine zc_aald (t := 1) (i := 0) (j := 0) (k := 0) (N := 2) (z := 2) (a := (b0 + zp_o 2 0 0)) F hE hP ⟨by decide, (show 0 < 1 by omega), (show 0 < 1 by omega)⟩ rfl rfl rfl (by omega) (by decide) rfl dd_TL_round_46 ?_
  refine zc_gN (t := 2) (i := 0) (j := 0) F hE hP ⟨by decide, (show 0 < 2 by omega), (show 0 < 1 by omega)⟩ rfl rfl zi_Ledger 6 (by decide) rfl wf_TL_28 rfl dd_TL_round_47 ?_
  refine zn_top (y := nI (zs_n ((zs_ln (zs_mb (zs_mb S 0) 1) 0 (zs_n ((zs_mb (zs_mb S 0) 1) 2 1 0 0))) 2 0 0 0))) ((zs_IH hI3 (by decide)).1) ?_
  refine zw_gov (zw_rV F hE hP (zc_Client_learn lc G b0 (zs_ln (zs_mb (zs_mb S 0) 1) 0 (zs_n ((zs_mb (zs_mb S 0) 1) 2 1 0 0))) 1 (zs_n ((zs_ln (zs_mb (zs_mb S 0) 1) 0 (zs_n ((zs_mb (zs_mb S 0) 1) 2 1 0 0))) 2 0 0 0)) (by first | omega | assumption) (zs_mq0 h0) (zs_IH hI3 (by decide)).2) zk_Client_learn za_Client_learn zb_Client_learn wl_TL_41 ⟨rfl, rfl, Nat.le_of_ble_eq_true rfl, Nat.le_of_ble_eq_true rfl⟩ (zc_recv (t := 8) (i := 1) (j := 0) hE hP ⟨by decide, (show 1 < 2 by omega), (show 0 < 1 by omega)⟩ rfl rfl) hl.1 rfl (Nat.le_of_ble_eq_true rfl) ⟨Nat.zero_le _, Nat.zero_le _⟩ dd_TL_round_50) hS (fun _ h => h) (fun H locs hP _ _ hS => ?_)
  have hI4 : zs_I (zs_ln (zs_ln (zs_mb (zs_mb S 0) 1) 0 (zs_n ((zs_mb (zs_mb S 0) 1) 2 1 0 0))) 1 (zs_n ((zs_ln (zs_mb (zs_mb S 0) 1) 0 (zs_n ((zs_mb (zs_mb S 0) 1) 2 1 0 0))) 2 0 0 0))) := zs_Iln (i := 1) hI3
  refine lv_iinc F.1 F.2.1 dd_TL_round_53 hl (k := 0) rfl (v := nI 2) (by decide) (by decide) (lv' := [(1, .int (nI 2)), (0, .ref (b0 + zp_o 0 0 0))]) rfl (fun ls hl => ?_)
  refine lv_goto F.1 F.2.1 dd_TL_round_56 (tgt := 25) rfl ?_
  refine lv_iload_n F.1 F.2.1 dd_TL_round_25 rfl (lv_at hl 0 rfl) ?_
  refine lv_iconst (v := nI 2) F.1 F.2.1 dd_TL_round_26 (by decide) ?_
  refine zn_cge F dd_TL_round_27 (tgt := 59) rfl (by omega) (by omega) (fun h27 => ?_) (fun h27 => absurd h27 (by decide))
  refine lv_iconst (v := nI 0) F.1 F.2.1 dd_TL_round_59 (by decide) ?_
  refine lv_istore_n F.1 F.2.1 dd_TL_round_60 rfl hl (by decide) (lv' := [(1, .int (nI 0)), (0, .ref (b0 + zp_o 0 0 0))]) rfl (fun ls hl => ?_)
  refine lv_iconst (v := nI 0) F.1 F.2.1 dd_TL_round_61 (by decide) ?_
  refine lv_istore_n F.1 F.2.1 dd_TL_round_62 rfl hl (by decide) (lv' := [(2, .int (nI 0)), (1, .int (nI 0)), (0, .ref (b0 + zp_o 0 0 0))]) rfl (fun ls hl => ?_)
  refine lv_iload_n F.1 F.2.1 dd_TL_round_63 rfl (lv_at hl 0 rfl) ?_
  refine lv_iconst (v := nI 2) F.1 F.2.1 dd_TL_round_64 (by decide) ?_
  refine zn_cge F dd_TL_round_65 (tgt := 134) rfl (by omega) (by omega) (fun h65 => absurd h65 (by decide)) (fun h65 => ?_)
  refine lv_iload_n F.1 F.2.1 dd_TL_round_68 rfl (lv_at hl 1 rfl) ?_
  refine lv_aload_n F.1 F.2.1 dd_TL_round_69 rfl (lv_at hl 2 rfl) ?_
  refine zc_gF (t := 0) (i := 0) (j := 0) F hE hP ⟨by decide, (show 0 < 1 by omega), (show 0 < 1 by omega)⟩ rfl rfl zi_TL 1 (by decide) rfl wf_TL_11 rfl dd_TL_round_70 ?_
  refine lv_iload_n F.1 F.2.1 dd_TL_round_73 rfl (lv_at hl 0 rfl) ?_
  refine zc_aald (t := 1) (i := 0) (j := 0) (k := 0) (N := 2) (z := 2) (a := (b0 + zp_o 2 0 0)) F hE hP ⟨by decide, (show 0 < 1 by omega), (show 0 < 1 by omega)⟩ rfl rfl rfl (by omega) (by decide) rfl dd_TL_round_74 ?_
  refine lv_aload_n F.1 F.2.1 dd_TL_round_75 rfl (lv_at hl 2 rfl) ?_
  refine zc_gF (t := 0) (i := 0) (j := 0) F hE hP ⟨by decide, (show 0 < 1 by omega), (show 0 < 1 by omega)⟩ rfl rfl zi_TL 1 (by decide) rfl wf_TL_11 rfl dd_TL_round_76 ?_
  refine lv_iconst (v := nI 1) F.1 F.2.1 dd_TL_round_79 (by decide) ?_
  refine lv_iload_n F.1 F.2.1 dd_TL_round_80 rfl (lv_at hl 0 rfl) ?_
  refine zn_isub F dd_TL_round_81 (by omega) ?_
  refine zn_top (y := nI 1) rfl ?_
  refine zc_aald (t := 1) (i := 0) (j := 0) (k := 1) (N := 2) (z := 2) (a := (b0 + zp_o 2 1 0)) F hE hP ⟨by decide, (show 0 < 1 by omega), (show 0 < 1 by omega)⟩ rfl rfl rfl (by omega) (by decide) rfl dd_TL_round_82 ?_
  refine zw_goi (zw_rS F hE hP (zc_TL_relayPackets lc G b0 (zs_ln (zs_ln (zs_mb (zs_mb S 0) 1) 0 (zs_n ((zs_mb (zs_mb S 0) 1) 2 1 0 0))) 1 (zs_n ((zs_ln (zs_mb (zs_mb S 0) 1) 0 (zs_n ((zs_mb (zs_mb S 0) 1) 2 1 0 0))) 2 0 0 0))) 0 1 (by first | omega | assumption) (by first | omega | assumption) hI4) zk_TL_relayPackets za_TL_relayPackets wl_TL_94 ⟨rfl, rfl, Nat.le_of_ble_eq_true rfl, Nat.le_of_ble_eq_true rfl⟩ hl.1 rfl (Nat.le_of_ble_eq_true rfl) ⟨Nat.zero_le _, Nat.zero_le _⟩ dd_TL_round_83) hS (fun _ h => h) (fun H locs hP _ _ hS => ?_)
  have hI5 : zs_I (zs_RPS 0 1 (zs_ln (zs_ln (zs_mb (zs_mb S 0) 1) 0 (zs_n ((zs_mb (zs_mb S 0) 1) 2 1 0 0))) 1 (zs_n ((zs_ln (zs_mb (zs_mb S 0) 1) 0 (zs_n ((zs_mb (zs_mb S 0) 1) 2 1 0 0))) 2 0 0 0)))) := zs_RPI (i := 0) (o := 1) (by decide) (by decide) hI4
  refine zn_iadd F dd_TL_round_86 ?_
  refine lv_istore_n F.1 F.2.1 dd_TL_round_87 rfl hl (by decide) (lv' := [(1, .int (nI (0 + (zs_RPM 0 1 (zs_ln (zs_ln (zs_mb (zs_mb S 0) 1) 0 (zs_n ((zs_mb (zs_mb S 0) 1) 2 1 0 0))) 1 (zs_n ((zs_ln (zs_mb (zs_mb S 0) 1) 0 (zs_n ((zs_mb (zs_mb S 0) 1) 2 1 0 0))) 2 0 0 0))))))), (2, .int (nI 0)), (0, .ref (b0 + zp_o 0 0 0))]) rfl (fun ls hl => ?_)
  refine lv_iload_n F.1 F.2.1 dd_TL_round_88 rfl (lv_at hl 0 rfl) ?_
  refine lv_aload_n F.1 F.2.1 dd_TL_round_89 rfl (lv_at hl 2 rfl) ?_
  refine zc_gF (t := 0) (i := 0) (j := 0) F hE hP ⟨by decide, (show 0 < 1 by omega), (show 0 < 1 by omega)⟩ rfl rfl zi_TL 1 (by decide) rfl wf_TL_11 rfl dd_TL_round_90 ?_
  refine lv_iload_n F.1 F.2.1 dd_TL_round_93 rfl (lv_at hl 1 rfl) ?_
  refine zc_aald (t := 1) (i := 0) (j := 0) (k := 0) (N := 2) (z := 2) (a := (b0 + zp_o 2 0 0)) F hE hP ⟨by decide, (show 0 < 1 by omega), (show 0 < 1 by omega)⟩ rfl rfl rfl (by omega) (by decide) rfl dd_TL_round_94 ?_
  refine lv_aload_n F.1 F.2.1 dd_TL_round_95 rfl (lv_at hl 2 rfl) ?_
  refine zc_gF (t := 0) (i := 0) (j := 0) F hE hP ⟨by decide, (show 0 < 1 by omega), (show 0 < 1 by omega)⟩ rfl rfl zi_TL 1 (by decide) rfl wf_TL_11 rfl dd_TL_round_96 ?_
  refine lv_iconst (v := nI 1) F.1 F.2.1 dd_TL_round_99 (by decide) ?_
  refine lv_iload_n F.1 F.2.1 dd_TL_round_100 rfl (lv_at hl 1 rfl) ?_
  refine zn_isub F dd_TL_round_101 (by omega) ?_
  refine zn_top (y := nI 1) rfl ?_
  refine zc_aald (t := 1) (i := 0) (j := 0) (k := 1) (N := 2) (z := 2) (a := (b0 + zp_o 2 1 0)) F hE hP ⟨by decide, (show 0 < 1 by omega), (show 0 < 1 by omega)⟩ rfl rfl rfl (by omega) (by decide) rfl dd_TL_round_102 ?_
  refine zw_goi (zw_rS F hE hP (zc_TL_relayAnswers lc G b0 (zs_RPS 0 1 (zs_ln (zs_ln (zs_mb (zs_mb S 0) 1) 0 (zs_n ((zs_mb (zs_mb S 0) 1) 2 1 0 0))) 1 (zs_n ((zs_ln (zs_mb (zs_mb S 0) 1) 0 (zs_n ((zs_mb (zs_mb S 0) 1) 2 1 0 0))) 2 0 0 0)))) 0 1 (by first | omega | assumption) (by first | omega | assumption) hI5) zk_TL_relayAnswers za_TL_relayAnswers wl_TL_98 ⟨rfl, rfl, Nat.le_of_ble_eq_true rfl, Nat.le_of_ble_eq_true rfl⟩ hl.1 rfl (Nat.le_of_ble_eq_true rfl) ⟨Nat.zero_le _, Nat.zero_le _⟩ dd_TL_round_103) hS (fun _ h => h) (fun H locs hP _ _ hS => ?_)
  have hI6 : zs_I (zs_RAS 0 1 (zs_RPS 0 1 (zs_ln (zs_ln (zs_mb (zs_mb S 0) 1) 0 (zs_n ((zs_mb (zs_mb S 0) 1) 2 1 0 0))) 1 (zs_n ((zs_ln (zs_mb (zs_mb S 0) 1) 0 (zs_n ((zs_mb (zs_mb S 0) 1) 2 1 0 0))) 2 0 0 0))))) := zs_RAI (i := 0) (o := 1) (by decide) (by decide) hI5
  refine zn_iadd F dd_TL_round_106 ?_
  refine lv_istore_n F.1 F.2.1 dd_TL_round_107 rfl hl (by decide) (lv' := [(1, .int (nI ((0 + (zs_RPM 0 1 (zs_ln (zs_ln (zs_mb (zs_mb S 0) 1) 0 (zs_n ((zs_mb (zs_mb S 0) 1) 2 1 0 0))) 1 (zs_n ((zs_ln (zs_mb (zs_mb S 0) 1) 0 (zs_n ((zs_mb (zs_mb S 0) 1) 2 1 0 0))) 2 0 0 0))))) + (zs_RAM 0 1 (zs_RPS 0 1 (zs_ln (zs_ln (zs_mb (zs_mb S 0) 1) 0 (zs_n ((zs_mb (zs_mb S 0) 1) 2 1 0 0))) 1 (zs_n ((zs_ln (zs_mb (zs_mb S 0) 1) 0 (zs_n ((zs_mb (zs_mb S 0) 1) 2 1 0 0))) 2 0 0 0)))))))), (2, .int (nI 0)), (0, .ref (b0 + zp_o 0 0 0))]) rfl (fun ls hl => ?_)
  refine lv_iload_n F.1 F.2.1 dd_TL_round_108 rfl (lv_at hl 0 rfl) ?_
  refine lv_aload_n F.1 F.2.1 dd_TL_round_109 rfl (lv_at hl 2 rfl) ?_
  refine zc_gF (t := 0) (i := 0) (j := 0) F hE hP ⟨by decide, (show 0 < 1 by omega), (show 0 < 1 by omega)⟩ rfl rfl zi_TL 1 (by decide) rfl wf_TL_11 rfl dd_TL_round_110 ?_
  refine lv_iload_n F.1 F.2.1 dd_TL_round_113 rfl (lv_at hl 1 rfl) ?_
  refine zc_aald (t := 1) (i := 0) (j := 0) (k := 0) (N := 2) (z := 2) (a := (b0 + zp_o 2 0 0)) F hE hP ⟨by decide, (show 0 < 1 by omega), (show 0 < 1 by omega)⟩ rfl rfl rfl (by omega) (by decide) rfl dd_TL_round_114 ?_
  refine lv_aload_n F.1 F.2.1 dd_TL_round_115 rfl (lv_at hl 2 rfl) ?_
  refine zc_gF (t := 0) (i := 0) (j := 0) F hE hP ⟨by decide, (show 0 < 1 by omega), (show 0 < 1 by omega)⟩ rfl rfl zi_TL 1 (by decide) rfl wf_TL_11 rfl dd_TL_round_116 ?_
  refine lv_iconst (v := nI 1) F.1 F.2.1 dd_TL_round_119 (by decide) ?_
  refine lv_iload_n F.1 F.2.1 dd_TL_round_120 rfl (lv_at hl 1 rfl) ?_
  refine zn_isub F dd_TL_round_121 (by omega) ?_
  refine zn_top (y := nI 1) rfl ?_
  refine zc_aald (t := 1) (i := 0) (j := 0) (k := 1) (N := 2) (z := 2) (a := (b0 + zp_o 2 1 0)) F hE hP ⟨by decide, (show 0 < 1 by omega), (show 0 < 1 by omega)⟩ rfl rfl rfl (by omega) (by decide) rfl dd_TL_round_122 ?_
  refine zw_goi (zw_rS F hE hP (zc_TL_relayTimeouts lc G b0 (zs_RAS 0 1 (zs_RPS 0 1 (zs_ln (zs_ln (zs_mb (zs_mb S 0) 1) 0 (zs_n ((zs_mb (zs_mb S 0) 1) 2 1 0 0))) 1 (zs_n ((zs_ln (zs_mb (zs_mb S 0) 1) 0 (zs_n ((zs_mb (zs_mb S 0) 1) 2 1 0 0))) 2 0 0 0))))) 0 1 (by first | omega | assumption) (by first | omega | assumption) hI6) zk_TL_relayTimeouts za_TL_relayTimeouts wl_TL_101 ⟨rfl, rfl, Nat.le_of_ble_eq_true rfl, Nat.le_of_ble_eq_true rfl⟩ hl.1 rfl (Nat.le_of_ble_eq_true rfl) ⟨Nat.zero_le _, Nat.zero_le _⟩ dd_TL_round_123) hS (fun _ h => h) (fun H locs hP _ _ hS => ?_)
  have hI7 : zs_I (zs_RTS 0 1 (zs_RAS 0 1 (zs_RPS 0 1 (zs_ln (zs_ln (zs_mb (zs_mb S 0) 1) 0 (zs_n ((zs_mb (zs_mb S 0) 1) 2 1 0 0))) 1 (zs_n ((zs_ln (zs_mb (zs_mb S 0) 1) 0 (zs_n ((zs_mb (zs_mb S 0) 1) 2 1 0 0))) 2 0 0 0)))))) := zs_RTI (i := 0) (o := 1) (by decide) (by decide) hI6
  refine zn_iadd F dd_TL_round_126 ?_
  refine lv_istore_n F.1 F.2.1 dd_TL_round_127 rfl hl (by decide) (lv' := [(1, .int (nI (((0 + (zs_RPM 0 1 (zs_ln (zs_ln (zs_mb (zs_mb S 0) 1) 0 (zs_n ((zs_mb (zs_mb S 0) 1) 2 1 0 0))) 1 (zs_n ((zs_ln (zs_mb (zs_mb S 0) 1) 0 (zs_n ((zs_mb (zs_mb S 0) 1) 2 1 0 0))) 2 0 0 0))))) + (zs_RAM 0 1 (zs_RPS 0 1 (zs_ln (zs_ln (zs_mb (zs_mb S 0) 1) 0 (zs_n ((zs_mb (zs_mb S 0) 1) 2 1 0 0))) 1 (zs_n ((zs_ln (zs_mb (zs_mb S 0) 1) 0 (zs_n ((zs_mb (zs_mb S 0) 1) 2 1 0 0))) 2 0 0 0)))))) + (zs_RTM 0 1 (zs_RAS 0 1 (zs_RPS 0 1 (zs_ln (zs_ln (zs_mb (zs_mb S 0) 1) 0 (zs_n ((zs_mb (zs_mb S 0) 1) 2 1 0 0))) 1 (zs_n ((zs_ln (zs_mb (zs_mb S 0) 1) 0 (zs_n ((zs_mb (zs_mb S 0) 1) 2 1 0 0))) 2 0 0 0))))))))), (2, .int (nI 0)), (0, .ref (b0 + zp_o 0 0 0))]) rfl (fun ls hl => ?_)
  refine lv_iinc F.1 F.2.1 dd_TL_round_128 hl (k := 1) rfl (v := nI 1) (by decide) (by decide) (lv' := [(2, .int (nI 1)), (1, .int (nI (((0 + (zs_RPM 0 1 (zs_ln (zs_ln (zs_mb (zs_mb S 0) 1) 0 (zs_n ((zs_mb (zs_mb S 0) 1) 2 1 0 0))) 1 (zs_n ((zs_ln (zs_mb (zs_mb S 0) 1) 0 (zs_n ((zs_mb (zs_mb S 0) 1) 2 1 0 0))) 2 0 0 0))))) + (zs_RAM 0 1 (zs_RPS 0 1 (zs_ln (zs_ln (zs_mb (zs_mb S 0) 1) 0 (zs_n ((zs_mb (zs_mb S 0) 1) 2 1 0 0))) 1 (zs_n ((zs_ln (zs_mb (zs_mb S 0) 1) 0 (zs_n ((zs_mb (zs_mb S 0) 1) 2 1 0 0))) 2 0 0 0)))))) + (zs_RTM 0 1 (zs_RAS 0 1 (zs_RPS 0 1 (zs_ln (zs_ln (zs_mb (zs_mb S 0) 1) 0 (zs_n ((zs_mb (zs_mb S 0) 1) 2 1 0 0))) 1 (zs_n ((zs_ln (zs_mb (zs_mb S 0) 1) 0 (zs_n ((zs_mb (zs_mb S 0) 1) 2 1 0 0))) 2 0 0 0))))))))), (0, .ref (b0 + zp_o 0 0 0))]) rfl (fun ls hl => ?_)
  refine lv_goto F.1 F.2.1 dd_TL_round_131 (tgt := 63) rfl ?_
  refine lv_iload_n F.1 F.2.1 dd_TL_round_63 rfl (lv_at hl 0 rfl) ?_
  refine lv_iconst (v := nI 2) F.1 F.2.1 dd_TL_round_64 (by decide) ?_
  refine zn_cge F dd_TL_round_65 (tgt := 134) rfl (by omega) (by omega) (fun h65 => absurd h65 (by decide)) (fun h65 => ?_)
  refine lv_iload_n F.1 F.2.1 dd_TL_round_68 rfl (lv_at hl 1 rfl) ?_
  refine lv_aload_n F.1 F.2.1 dd_TL_round_69 rfl (lv_at hl 2 rfl) ?_
  refine zc_gF (t := 0) (i := 0) (j := 0) F hE hP ⟨by decide, (show 0 < 1 by omega), (show 0 < 1 by omega)⟩ rfl rfl zi_TL 1 (by decide) rfl wf_TL_11 rfl dd_TL_round_70 ?_
  refine lv_iload_n F.1 F.2.1 dd_TL_round_73 rfl (lv_at hl 0 rfl) ?_
  refine zc_aald (t := 1) (i := 0) (j := 0) (k := 1) (N := 2) (z := 2) (a := (b0 + zp_o 2 1 0)) F hE hP ⟨by decide, (show 0 < 1 by omega), (show 0 < 1 by omega)⟩ rfl rfl rfl (by omega) (by decide) rfl dd_TL_round_74 ?_
  refine lv_aload_n F.1 F.2.1 dd_TL_round_75 rfl (lv_at hl 2 rfl) ?_
  refine zc_gF (t := 0) (i := 0) (j := 0) F hE hP ⟨by decide, (show 0 < 1 by omega), (show 0 < 1 by omega)⟩ rfl rfl zi_TL 1 (by decide) rfl wf_TL_11 rfl dd_TL_round_76 ?_
  refine lv_iconst (v := nI 1) F.1 F.2.1 dd_TL_round_79 (by decide) ?_
  refine lv_iload_n F.1 F.2.1 dd_TL_round_80 rfl (lv_at hl 0 rfl) ?_
  refine zn_isub F dd_TL_round_81 (by omega) ?_
  refine zn_top (y := nI 0) rfl ?_
  refine zc_aald (t := 1) (i := 0) (j := 0) (k := 0) (N := 2) (z := 2) (a := (b0 + zp_o 2 0 0)) F hE hP ⟨by decide, (show 0 < 1 by omega), (show 0 < 1 by omega)⟩ rfl rfl rfl (by omega) (by decide) rfl dd_TL_round_82 ?_
  refine zw_goi (zw_rS F hE hP (zc_TL_relayPackets lc G b0 (zs_RTS 0 1 (zs_RAS 0 1 (zs_RPS 0 1 (zs_ln (zs_ln (zs_mb (zs_mb S 0) 1) 0 (zs_n ((zs_mb (zs_mb S 0) 1) 2 1 0 0))) 1 (zs_n ((zs_ln (zs_mb (zs_mb S 0) 1) 0 (zs_n ((zs_mb (zs_mb S 0) 1) 2 1 0 0))) 2 0 0 0)))))) 1 0 (by first | omega | assumption) (by first | omega | assumption) hI7) zk_TL_relayPackets za_TL_relayPackets wl_TL_94 ⟨rfl, rfl, Nat.le_of_ble_eq_true rfl, Nat.le_of_ble_eq_true rfl⟩ hl.1 rfl (Nat.le_of_ble_eq_true rfl) ⟨Nat.zero_le _, Nat.zero_le _⟩ dd_TL_round_83) hS (fun _ h => h) (fun H locs hP _ _ hS => ?_)
  have hI8 : zs_I (zs_RPS 1 0 (zs_RTS 0 1 (zs_RAS 0 1 (zs_RPS 0 1 (zs_ln (zs_ln (zs_mb (zs_mb S 0) 1) 0 (zs_n ((zs_mb (zs_mb S 0) 1) 2 1 0 0))) 1 (zs_n ((zs_ln (zs_mb (zs_mb S 0) 1) 0 (zs_n ((zs_mb (zs_mb S 0) 1) 2 1 0 0))) 2 0 0 0))))))) := zs_RPI (i := 1) (o := 0) (by decide) (by decide) hI7
  refine zn_iadd F dd_TL_round_86 ?_
  refine lv_istore_n F.1 F.2.1 dd_TL_round_87 rfl hl (by decide) (lv' := [(1, .int (nI ((((0 + (zs_RPM 0 1 (zs_ln (zs_ln (zs_mb (zs_mb S 0) 1) 0 (zs_n ((zs_mb (zs_mb S 0) 1) 2 1 0 0))) 1 (zs_n ((zs_ln (zs_mb (zs_mb S 0) 1) 0 (zs_n ((zs_mb (zs_mb S 0) 1) 2 1 0 0))) 2 0 0 0))))) + (zs_RAM 0 1 (zs_RPS 0 1 (zs_ln (zs_ln (zs_mb (zs_mb S 0) 1) 0 (zs_n ((zs_mb (zs_mb S 0) 1) 2 1 0 0))) 1 (zs_n ((zs_ln (zs_mb (zs_mb S 0) 1) 0 (zs_n ((zs_mb (zs_mb S 0) 1) 2 1 0 0))) 2 0 0 0)))))) + (zs_RTM 0 1 (zs_RAS 0 1 (zs_RPS 0 1 (zs_ln (zs_ln (zs_mb (zs_mb S 0) 1) 0 (zs_n ((zs_mb (zs_mb S 0) 1) 2 1 0 0))) 1 (zs_n ((zs_ln (zs_mb (zs_mb S 0) 1) 0 (zs_n ((zs_mb (zs_mb S 0) 1) 2 1 0 0))) 2 0 0 0))))))) + (zs_RPM 1 0 (zs_RTS 0 1 (zs_RAS 0 1 (zs_RPS 0 1 (zs_ln (zs_ln (zs_mb (zs_mb S 0) 1) 0 (zs_n ((zs_mb (zs_mb S 0) 1) 2 1 0 0))) 1 (zs_n ((zs_ln (zs_mb (zs_mb S 0) 1) 0 (zs_n ((zs_mb (zs_mb S 0) 1) 2 1 0 0))) 2 0 0 0)))))))))), (2, .int (nI 1)), (0, .ref (b0 + zp_o 0 0 0))]) rfl (fun ls hl => ?_)
  refine lv_iload_n F.1 F.2.1 dd_TL_round_88 rfl (lv_at hl 0 rfl) ?_
  refine lv_aload_n F.1 F.2.1 dd_TL_round_89 rfl (lv_at hl 2 rfl) ?_
  refine zc_gF (t := 0) (i := 0) (j := 0) F hE hP ⟨by decide, (show 0 < 1 by omega), (show 0 < 1 by omega)⟩ rfl rfl zi_TL 1 (by decide) rfl wf_TL_11 rfl dd_TL_round_90 ?_
  refine lv_iload_n F.1 F.2.1 dd_TL_round_93 rfl (lv_at hl 1 rfl) ?_
  refine zc_aald (t := 1) (i := 0) (j := 0) (k := 1) (N := 2) (z := 2) (a := (b0 + zp_o 2 1 0)) F hE hP ⟨by decide, (show 0 < 1 by omega), (show 0 < 1 by omega)⟩ rfl rfl rfl (by omega) (by decide) rfl dd_TL_round_94 ?_
  refine lv_aload_n F.1 F.2.1 dd_TL_round_95 rfl (lv_at hl 2 rfl) ?_
  refine zc_gF (t := 0) (i := 0) (j := 0) F hE hP ⟨by decide, (show 0 < 1 by omega), (show 0 < 1 by omega)⟩ rfl rfl zi_TL 1 (by decide) rfl wf_TL_11 rfl dd_TL_round_96 ?_
  refine lv_iconst (v := nI 1) F.1 F.2.1 dd_TL_round_99 (by decide) ?_
  refine lv_iload_n F.1 F.2.1 dd_TL_round_100 rfl (lv_at hl 1 rfl) ?_
  refine zn_isub F dd_TL_round_101 (by omega) ?_
  refine zn_top (y := nI 0) rfl ?_
  refine zc_aald (t := 1) (i := 0) (j := 0) (k := 0) (N := 2) (z := 2) (a := (b0 + zp_o 2 0 0)) F hE hP ⟨by decide, (show 0 < 1 by omega), (show 0 < 1 by omega)⟩ rfl rfl rfl (by omega) (by decide) rfl dd_TL_round_102 ?_
  refine zw_goi (zw_rS F hE hP (zc_TL_relayAnswers lc G b0 (zs_RPS 1 0 (zs_RTS 0 1 (zs_RAS 0 1 (zs_RPS 0 1 (zs_ln (zs_ln (zs_mb (zs_mb S 0) 1) 0 (zs_n ((zs_mb (zs_mb S 0) 1) 2 1 0 0))) 1 (zs_n ((zs_ln (zs_mb (zs_mb S 0) 1) 0 (zs_n ((zs_mb (zs_mb S 0) 1) 2 1 0 0))) 2 0 0 0))))))) 1 0 (by first | omega | assumption) (by first | omega | assumption) hI8) zk_TL_relayAnswers za_TL_relayAnswers wl_TL_98 ⟨rfl, rfl, Nat.le_of_ble_eq_true rfl, Nat.le_of_ble_eq_true rfl⟩ hl.1 rfl (Nat.le_of_ble_eq_true rfl) ⟨Nat.zero_le _, Nat.zero_le _⟩ dd_TL_round_103) hS (fun _ h => h) (fun H locs hP _ _ hS => ?_)
  have hI9 : zs_I (zs_RAS 1 0 (zs_RPS 1 0 (zs_RTS 0 1 (zs_RAS 0 1 (zs_RPS 0 1 (zs_ln (zs_ln (zs_mb (zs_mb S 0) 1) 0 (zs_n ((zs_mb (zs_mb S 0) 1) 2 1 0 0))) 1 (zs_n ((zs_ln (zs_mb (zs_mb S 0) 1) 0 (zs_n ((zs_mb (zs_mb S 0) 1) 2 1 0 0))) 2 0 0 0)))))))) := zs_RAI (i := 1) (o := 0) (by decide) (by decide) hI8
  refine zn_iadd F dd_TL_round_106 ?_
  refine lv_istore_n F.1 F.2.1 dd_TL_round_107 rfl hl (by decide) (lv' := [(1, .int (nI (((((0 + (zs_RPM 0 1 (zs_ln (zs_ln (zs_mb (zs_mb S 0) 1) 0 (zs_n ((zs_mb (zs_mb S 0) 1) 2 1 0 0))) 1 (zs_n ((zs_ln (zs_mb (zs_mb S 0) 1) 0 (zs_n ((zs_mb (zs_mb S 0) 1) 2 1 0 0))) 2 0 0 0))))) + (zs_RAM 0 1 (zs_RPS 0 1 (zs_ln (zs_ln (zs_mb (zs_mb S 0) 1) 0 (zs_n ((zs_mb (zs_mb S 0) 1) 2 1 0 0))) 1 (zs_n ((zs_ln (zs_mb (zs_mb S 0) 1) 0 (zs_n ((zs_mb (zs_mb S 0) 1) 2 1 0 0))) 2 0 0 0)))))) + (zs_RTM 0 1 (zs_RAS 0 1 (zs_RPS 0 1 (zs_ln (zs_ln (zs_mb (zs_mb S 0) 1) 0 (zs_n ((zs_mb (zs_mb S 0) 1) 2 1 0 0))) 1 (zs_n ((zs_ln (zs_mb (zs_mb S 0) 1) 0 (zs_n ((zs_mb (zs_mb S 0) 1) 2 1 0 0))) 2 0 0 0))))))) + (zs_RPM 1 0 (zs_RTS 0 1 (zs_RAS 0 1 (zs_RPS 0 1 (zs_ln (zs_ln (zs_mb (zs_mb S 0) 1) 0 (zs_n ((zs_mb (zs_mb S 0) 1) 2 1 0 0))) 1 (zs_n ((zs_ln (zs_mb (zs_mb S 0) 1) 0 (zs_n ((zs_mb (zs_mb S 0) 1) 2 1 0 0))) 2 0 0 0)))))))) + (zs_RAM 1 0 (zs_RPS 1 0 (zs_RTS 0 1 (zs_RAS 0 1 (zs_RPS 0 1 (zs_ln (zs_ln (zs_mb (zs_mb S 0) 1) 0 (zs_n ((zs_mb (zs_mb S 0) 1) 2 1 0 0))) 1 (zs_n ((zs_ln (zs_mb (zs_mb S 0) 1) 0 (zs_n ((zs_mb (zs_mb S 0) 1) 2 1 0 0))) 2 0 0 0))))))))))), (2, .int (nI 1)), (0, .ref (b0 + zp_o 0 0 0))]) rfl (fun ls hl => ?_)
  refine lv_iload_n F.1 F.2.1 dd_TL_round_108 rfl (lv_at hl 0 rfl) ?_
  refine lv_aload_n F.1 F.2.1 dd_TL_round_109 rfl (lv_at hl 2 rfl) ?_
  refine zc_gF (t := 0) (i := 0) (j := 0) F hE hP ⟨by decide, (show 0 < 1 by omega), (show 0 < 1 by omega)⟩ rfl rfl zi_TL 1 (by decide) rfl wf_TL_11 rfl dd_TL_round_110 ?_
  refine lv_iload_n F.1 F.2.1 dd_TL_round_113 rfl (lv_at hl 1 rfl) ?_
  refine zc_aald (t := 1) (i := 0) (j := 0) (k := 1) (N := 2) (z := 2) (a := (b0 + zp_o 2 1 0)) F hE hP ⟨by decide, (show 0 < 1 by omega), (show 0 < 1 by omega)⟩ rfl rfl rfl (by omega) (by decide) rfl dd_TL_round_114 ?_
  refine lv_aload_n F.1 F.2.1 dd_TL_round_115 rfl (lv_at hl 2 rfl) ?_
  refine zc_gF (t := 0) (i := 0) (j := 0) F hE hP ⟨by decide, (show 0 < 1 by omega), (show 0 < 1 by omega)⟩ rfl rfl zi_TL 1 (by decide) rfl wf_TL_11 rfl dd_TL_round_116 ?_
  refine lv_iconst (v := nI 1) F.1 F.2.1 dd_TL_round_119 (by decide) ?_
  refine lv_iload_n F.1 F.2.1 dd_TL_round_120 rfl (lv_at hl 1 rfl) ?_
  refine zn_isub F dd_TL_round_121 (by omega) ?_
  refine zn_top (y := nI 0) rfl ?_
  refine zc_aald (t := 1) (i := 0) (j := 0) (k := 0) (N := 2) (z := 2) (a := (b0 + zp_o 2 0 0)) F hE hP ⟨by decide, (show 0 < 1 by omega), (show 0 < 1 by omega)⟩ rfl rfl rfl (by omega) (by decide) rfl dd_TL_round_122 ?_
  refine zw_goi (zw_rS F hE hP (zc_TL_relayTimeouts lc G b0 (zs_RAS 1 0 (zs_RPS 1 0 (zs_RTS 0 1 (zs_RAS 0 1 (zs_RPS 0 1 (zs_ln (zs_ln (zs_mb (zs_mb S 0) 1) 0 (zs_n ((zs_mb (zs_mb S 0) 1) 2 1 0 0))) 1 (zs_n ((zs_ln (zs_mb (zs_mb S 0) 1) 0 (zs_n ((zs_mb (zs_mb S 0) 1) 2 1 0 0))) 2 0 0 0)))))))) 1 0 (by first | omega | assumption) (by first | omega | assumption) hI9) zk_TL_relayTimeouts za_TL_relayTimeouts wl_TL_101 ⟨rfl, rfl, Nat.le_of_ble_eq_true rfl, Nat.le_of_ble_eq_true rfl⟩ hl.1 rfl (Nat.le_of_ble_eq_true rfl) ⟨Nat.zero_le _, Nat.zero_le _⟩ dd_TL_round_123) hS (fun _ h => h) (fun H locs hP _ _ hS => ?_)
  have hI10 : zs_I (zs_RTS 1 0 (zs_RAS 1 0 (zs_RPS 1 0 (zs_RTS 0 1 (zs_RAS 0 1 (zs_RPS 0 1 (zs_ln (zs_ln (zs_mb (zs_mb S 0) 1) 0 (zs_n ((zs_mb (zs_mb S 0) 1) 2 1 0 0))) 1 (zs_n ((zs_ln (zs_mb (zs_mb S 0) 1) 0 (zs_n ((zs_mb (zs_mb S 0) 1) 2 1 0 0))) 2 0 0 0))))))))) := zs_RTI (i := 1) (o := 0) (by decide) (by decide) hI9
  refine zn_iadd F dd_TL_round_126 ?_
  refine lv_istore_n F.1 F.2.1 dd_TL_round_127 rfl hl (by decide) (lv' := [(1, .int (nI ((((((0 + (zs_RPM 0 1 (zs_ln (zs_ln (zs_mb (zs_mb S 0) 1) 0 (zs_n ((zs_mb (zs_mb S 0) 1) 2 1 0 0))) 1 (zs_n ((zs_ln (zs_mb (zs_mb S 0) 1) 0 (zs_n ((zs_mb (zs_mb S 0) 1) 2 1 0 0))) 2 0 0 0))))) + (zs_RAM 0 1 (zs_RPS 0 1 (zs_ln (zs_ln (zs_mb (zs_mb S 0) 1) 0 (zs_n ((zs_mb (zs_mb S 0) 1) 2 1 0 0))) 1 (zs_n ((zs_ln (zs_mb (zs_mb S 0) 1) 0 (zs_n ((zs_mb (zs_mb S 0) 1) 2 1 0 0))) 2 0 0 0)))))) + (zs_RTM 0 1 (zs_RAS 0 1 (zs_RPS 0 1 (zs_ln (zs_ln (zs_mb (zs_mb S 0) 1) 0 (zs_n ((zs_mb (zs_mb S 0) 1) 2 1 0 0))) 1 (zs_n ((zs_ln (zs_mb (zs_mb S 0) 1) 0 (zs_n ((zs_mb (zs_mb S 0) 1) 2 1 0 0))) 2 0 0 0))))))) + (zs_RPM 1 0 (zs_RTS 0 1 (zs_RAS 0 1 (zs_RPS 0 1 (zs_ln (zs_ln (zs_mb (zs_mb S 0) 1) 0 (zs_n ((zs_mb (zs_mb S 0) 1) 2 1 0 0))) 1 (zs_n ((zs_ln (zs_mb (zs_mb S 0) 1) 0 (zs_n ((zs_mb (zs_mb S 0) 1) 2 1 0 0))) 2 0 0 0)))))))) + (zs_RAM 1 0 (zs_RPS 1 0 (zs_RTS 0 1 (zs_RAS 0 1 (zs_RPS 0 1 (zs_ln (zs_ln (zs_mb (zs_mb S 0) 1) 0 (zs_n ((zs_mb (zs_mb S 0) 1) 2 1 0 0))) 1 (zs_n ((zs_ln (zs_mb (zs_mb S 0) 1) 0 (zs_n ((zs_mb (zs_mb S 0) 1) 2 1 0 0))) 2 0 0 0))))))))) + (zs_RTM 1 0 (zs_RAS 1 0 (zs_RPS 1 0 (zs_RTS 0 1 (zs_RAS 0 1 (zs_RPS 0 1 (zs_ln (zs_ln (zs_mb (zs_mb S 0) 1) 0 (zs_n ((zs_mb (zs_mb S 0) 1) 2 1 0 0))) 1 (zs_n ((zs_ln (zs_mb (zs_mb S 0) 1) 0 (zs_n ((zs_mb (zs_mb S 0) 1) 2 1 0 0))) 2 0 0 0)))))))))))), (2, .int (nI 1)), (0, .ref (b0 + zp_o 0 0 0))]) rfl (fun ls hl => ?_)
  refine lv_iinc F.1 F.2.1 dd_TL_round_128 hl (k := 1) rfl (v := nI 2) (by decide) (by decide) (lv' := [(2, .int (nI 2)), (1, .int (nI ((((((0 + (zs_RPM 0 1 (zs_ln (zs_ln (zs_mb (zs_mb S 0) 1) 0 (zs_n ((zs_mb (zs_mb S 0) 1) 2 1 0 0))) 1 (zs_n ((zs_ln (zs_mb (zs_mb S 0) 1) 0 (zs_n ((zs_mb (zs_mb S 0) 1) 2 1 0 0))) 2 0 0 0))))) + (zs_RAM 0 1 (zs_RPS 0 1 (zs_ln (zs_ln (zs_mb (zs_mb S 0) 1) 0 (zs_n ((zs_mb (zs_mb S 0) 1) 2 1 0 0))) 1 (zs_n ((zs_ln (zs_mb (zs_mb S 0) 1) 0 (zs_n ((zs_mb (zs_mb S 0) 1) 2 1 0 0))) 2 0 0 0)))))) + (zs_RTM 0 1 (zs_RAS 0 1 (zs_RPS 0 1 (zs_ln (zs_ln (zs_mb (zs_mb S 0) 1) 0 (zs_n ((zs_mb (zs_mb S 0) 1) 2 1 0 0))) 1 (zs_n ((zs_ln (zs_mb (zs_mb S 0) 1) 0 (zs_n ((zs_mb (zs_mb S 0) 1) 2 1 0 0))) 2 0 0 0))))))) + (zs_RPM 1 0 (zs_RTS 0 1 (zs_RAS 0 1 (zs_RPS 0 1 (zs_ln (zs_ln (zs_mb (zs_mb S 0) 1) 0 (zs_n ((zs_mb (zs_mb S 0) 1) 2 1 0 0))) 1 (zs_n ((zs_ln (zs_mb (zs_mb S 0) 1) 0 (zs_n ((zs_mb (zs_mb S 0) 1) 2 1 0 0))) 2 0 0 0)))))))) + (zs_RAM 1 0 (zs_RPS 1 0 (zs_RTS 0 1 (zs_RAS 0 1 (zs_RPS 0 1 (zs_ln (zs_ln (zs_mb (zs_mb S 0) 1) 0 (zs_n ((zs_mb (zs_mb S 0) 1) 2 1 0 0))) 1 (zs_n ((zs_ln (zs_mb (zs_mb S 0) 1) 0 (zs_n ((zs_mb (zs_mb S 0) 1) 2 1 0 0))) 2 0 0 0))))))))) + (zs_RTM 1 0 (zs_RAS 1 0 (zs_RPS 1 0 (zs_RTS 0 1 (zs_RAS 0 1 (zs_RPS 0 1 (zs_ln (zs_ln (zs_mb (zs_mb S 0) 1) 0 (zs_n ((zs_mb (zs_mb S 0) 1) 2 1 0 0))) 1 (zs_n ((zs_ln (zs_mb (zs_mb S 0) 1) 0 (zs_n ((zs_mb (zs_mb S 0) 1) 2 1 0 0))) 2 0 0 0)))))))))))), (0, .ref (b0 + zp_o 0 0 0))]) rfl (fun ls hl => ?_)
  refine lv_goto F.1 F.2.1 dd_TL_round_131 (tgt := 63) rfl ?_
  refine lv_iload_n F.1 F.2.1 dd_TL_round_63 rfl (lv_at hl 0 rfl) ?_
  refine lv_iconst (v := nI 2) F.1 F.2.1 dd_TL_round_64 (by decide) ?_
  refine zn_cge F dd_TL_round_65 (tgt := 134) rfl (by omega) (by omega) (fun h65 => ?_) (fun h65 => absurd h65 (by decide))
  refine lv_iload_n F.1 F.2.1 dd_TL_round_134 rfl (lv_at hl 1 rfl) ?_
  exact zw_iret F hr hlk hP hS rfl rfl dd_TL_round_135
