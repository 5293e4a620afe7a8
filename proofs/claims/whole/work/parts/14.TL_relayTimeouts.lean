def zs_rTS (i o c : Nat) (S : zs_S) (j : Nat) : Nat → zs_S
  | 0 => S
  | r + 1 => zs_rTS i o c (zu_Ledger_settleTimedOut S i o c j (S 2 o 0 0) (nI 0)) (j + 1) r
def zs_rTM (i o c : Nat) (S : zs_S) (j v : Nat) : Nat → Nat
  | 0 => v
  | r + 1 => zs_rTM i o c (zu_Ledger_settleTimedOut S i o c j (S 2 o 0 0) (nI 0)) (j + 1) (if zr_Ledger_settleTimedOut S i o c j (S 2 o 0 0) (nI 0) = 0 then v + 1 else v) r
theorem zs_rTSs {i o c j r : Nat} {S : zs_S} : zs_rTS i o c S j (r + 1) = zs_rTS i o c (zu_Ledger_settleTimedOut S i o c j (S 2 o 0 0) (nI 0)) (j + 1) r := rfl
theorem zs_rTMs {i o c j v r : Nat} {S : zs_S} : zs_rTM i o c S j v (r + 1) = zs_rTM i o c (zu_Ledger_settleTimedOut S i o c j (S 2 o 0 0) (nI 0)) (j + 1) (if zr_Ledger_settleTimedOut S i o c j (S 2 o 0 0) (nI 0) = 0 then v + 1 else v) r := rfl
theorem zs_rTI {i o c : Nat} (hi : i < 2) (ho : o < 2) (hc : c < 3) : ∀ (r j : Nat) (S : zs_S), j + r ≤ 12 → zs_I S → zs_I (zs_rTS i o c S j r)
  | 0, _, _, _, h => h
  | r + 1, j, S, hj, h => zs_rTI hi ho hc r (j + 1) _ (by omega) (zs_IrT hi ho hc (by omega) h)
set_option maxHeartbeats 4000000 in
set_option maxRecDepth 100000 in
theorem zl_relayTimeouts {p : Program} {e : Env} {R : Room} {s : State} {m : MethodId} {below : List Frame} {meth : Method} {cx : Code} {av : Array Value} {Qf : State → Prop} (lc : Launch) (G : zw_G) (b0 : Nat) (i o c n : Nat) (hi : i < 2) (ho : o < 2) (hc : c < 3) (hn : n ≤ 12) (hR : 6 ≤ R.frames ∧ 150 ≤ R.locals) (F : CallFix p m cx bm_TL_relayTimeouts 6 s av zw_WS "TwinLedgers") (hE : zw_E G s) : ∀ (r j v : Nat) (S : zs_S), j + r = n → zs_I S → (∀ (ls : Array Slot) (H : Heap) (locs : List Loc), lv_has ls 6 [(5, .int (nI (n + 1))), (4, .int (nI n)), (3, .int (nI c)), (2, .int (nI (zs_rTM i o c S j v r))), (0, .ref (b0 + zp_o 2 i 0)), (1, .ref (b0 + zp_o 2 o 0))] → va_P G.1 zw_cl (zw_l b0 176 (zp_p G b0 (zs_rTS i o c S j r))) H → va_S (zw_A b0 176) s.heap H locs → W p lc e R s m av below meth cx H locs 0 0 Qf (F0 m 55 ls [])) → ∀ (ls : Array Slot) (H : Heap) (locs : List Loc), lv_has ls 6 [(5, .int (nI (j + 1))), (4, .int (nI n)), (3, .int (nI c)), (2, .int (nI v)), (0, .ref (b0 + zp_o 2 i 0)), (1, .ref (b0 + zp_o 2 o 0))] → va_P G.1 zw_cl (zw_l b0 176 (zp_p G b0 S)) H → va_S (zw_A b0 176) s.heap H locs → W p lc e R s m av below meth cx H locs 0 0 Qf (F0 m 23 ls []) := by
  intro r
  induction r with
  | zero =>
    intro j v S hj hI kk ls H locs hl hP hS
    obtain rfl : j = n := by omega
    refine lv_iload F.1 F.2.1 dd_TL_relayTimeouts_23 (lv_at hl 0 rfl) ?_
    refine lv_iload F.1 F.2.1 dd_TL_relayTimeouts_25 (lv_at hl 1 rfl) ?_
    refine zn_cgt F dd_TL_relayTimeouts_27 (tgt := 55) rfl (by omega) (by omega) (fun h27 => ?_) (fun h27 => absurd (show j < j + 1 by omega) h27)
    exact kk ls H locs (lv_sub hl [0, 1, 2, 3, 4, 5] rfl) hP hS
  | succ r ih =>
    intro j v S hj hI kk ls H locs hl hP hS
    rw [zs_rTSs, zs_rTMs] at kk
    refine lv_iload F.1 F.2.1 dd_TL_relayTimeouts_23 (lv_at hl 0 rfl) ?_
    refine lv_iload F.1 F.2.1 dd_TL_relayTimeouts_25 (lv_at hl 1 rfl) ?_
    refine zn_cgt F dd_TL_relayTimeouts_27 (tgt := 55) rfl (by omega) (by omega) (fun h27 => absurd h27 (by omega)) (fun h27 => ?_)
    refine lv_aload_n F.1 F.2.1 dd_TL_relayTimeouts_30 rfl (lv_at hl 4 rfl) ?_
    refine lv_aload_n F.1 F.2.1 dd_TL_relayTimeouts_31 rfl (lv_at hl 5 rfl) ?_
    refine lv_iload_n F.1 F.2.1 dd_TL_relayTimeouts_32 rfl (lv_at hl 2 rfl) ?_
    refine lv_iload F.1 F.2.1 dd_TL_relayTimeouts_33 (lv_at hl 0 rfl) ?_
    refine lv_aload_n F.1 F.2.1 dd_TL_relayTimeouts_35 rfl (lv_at hl 5 rfl) ?_
    refine zc_gN (t := 2) (i := o) (j := 0) F hE hP ⟨by decide, (show o < 2 by omega), (show 0 < 1 by omega)⟩ rfl rfl zi_Ledger 6 (by decide) rfl wf_TL_28 rfl dd_TL_relayTimeouts_36 ?_
    refine lv_iconst (v := nI 0) F.1 F.2.1 dd_TL_relayTimeouts_39 (by decide) ?_
    refine zw_goi (zw_rV F hE hP (zc_Ledger_settleTimedOut lc G b0 S i o c j (S 2 o 0 0) (nI 0) (by first | omega | assumption) (by first | omega | assumption) (by first | omega | assumption) (by first | omega | assumption) (zs_IB hI) (zs_IP hI hi (by omega))) zk_Ledger_settleTimedOut za_Ledger_settleTimedOut zb_Ledger_settleTimedOut wl_TL_91 ⟨rfl, rfl, Nat.le_trans (Nat.le_of_ble_eq_true rfl) hR.1, Nat.le_trans (Nat.le_of_ble_eq_true rfl) hR.2⟩ (zc_recv (t := 2) (i := i) (j := 0) hE hP ⟨by decide, (show i < 2 by omega), (show 0 < 1 by omega)⟩ rfl rfl) hl.1 rfl (Nat.le_of_ble_eq_true rfl) ⟨Nat.zero_le _, Nat.zero_le _⟩ dd_TL_relayTimeouts_40) hS (fun _ h => h) (fun H locs hP _ _ hS => ?_)
    refine lv_if_ne F.1 F.2.1 dd_TL_relayTimeouts_43 (tgt := 49) rfl (fun h43 => ?_) (fun h43 => ?_)
    · refine lv_iinc F.1 F.2.1 dd_TL_relayTimeouts_49 hl (k := 0) rfl (v := nI (j + 1 + 1)) (nI_1 _) (by decide) (lv' := [(5, .int (nI (j + 1 + 1))), (4, .int (nI n)), (3, .int (nI c)), (2, .int (nI v)), (0, .ref (b0 + zp_o 2 i 0)), (1, .ref (b0 + zp_o 2 o 0))]) rfl (fun ls hl => ?_)
      refine lv_goto F.1 F.2.1 dd_TL_relayTimeouts_52 (tgt := 23) rfl ?_
      rw [if_neg h43] at kk
      exact ih (j + 1) v _ (by omega) (zs_IrT hi ho hc (by omega) hI) kk ls H locs (lv_sub hl [0, 1, 2, 3, 4, 5] rfl) hP hS
    · refine lv_iinc F.1 F.2.1 dd_TL_relayTimeouts_46 hl (k := 3) rfl (v := nI (v + 1)) (nI_1 _) (by decide) (lv' := [(2, .int (nI (v + 1))), (5, .int (nI (j + 1))), (4, .int (nI n)), (3, .int (nI c)), (0, .ref (b0 + zp_o 2 i 0)), (1, .ref (b0 + zp_o 2 o 0))]) rfl (fun ls hl => ?_)
      refine lv_iinc F.1 F.2.1 dd_TL_relayTimeouts_49 hl (k := 1) rfl (v := nI (j + 1 + 1)) (nI_1 _) (by decide) (lv' := [(5, .int (nI (j + 1 + 1))), (2, .int (nI (v + 1))), (4, .int (nI n)), (3, .int (nI c)), (0, .ref (b0 + zp_o 2 i 0)), (1, .ref (b0 + zp_o 2 o 0))]) rfl (fun ls hl => ?_)
      refine lv_goto F.1 F.2.1 dd_TL_relayTimeouts_52 (tgt := 23) rfl ?_
      rw [if_pos h43] at kk
      exact ih (j + 1) (v + 1) _ (by omega) (zs_IrT hi ho hc (by omega) hI) kk ls H locs (lv_sub hl [0, 2, 3, 1, 4, 5] rfl) hP hS
def zs_RTS (i o : Nat) (S : zs_S) : zs_S := zs_rTS i o 2 (zs_rTS i o 1 (zs_rTS i o 0 S 0 (zs_n (S 18 i 0 0))) 0 (zs_n ((zs_rTS i o 0 S 0 (zs_n (S 18 i 0 0))) 18 i 1 0))) 0 (zs_n ((zs_rTS i o 1 (zs_rTS i o 0 S 0 (zs_n (S 18 i 0 0))) 0 (zs_n ((zs_rTS i o 0 S 0 (zs_n (S 18 i 0 0))) 18 i 1 0))) 18 i 2 0))
def zs_RTM (i o : Nat) (S : zs_S) : Nat := zs_rTM i o 2 (zs_rTS i o 1 (zs_rTS i o 0 S 0 (zs_n (S 18 i 0 0))) 0 (zs_n ((zs_rTS i o 0 S 0 (zs_n (S 18 i 0 0))) 18 i 1 0))) 0 (zs_rTM i o 1 (zs_rTS i o 0 S 0 (zs_n (S 18 i 0 0))) 0 (zs_rTM i o 0 S 0 0 (zs_n (S 18 i 0 0))) (zs_n ((zs_rTS i o 0 S 0 (zs_n (S 18 i 0 0))) 18 i 1 0))) (zs_n ((zs_rTS i o 1 (zs_rTS i o 0 S 0 (zs_n (S 18 i 0 0))) 0 (zs_n ((zs_rTS i o 0 S 0 (zs_n (S 18 i 0 0))) 18 i 1 0))) 18 i 2 0))
theorem zs_rTMle {i o c : Nat} : ∀ (r : Nat) (S : zs_S) (j v : Nat), zs_rTM i o c S j v r ≤ v + r
  | 0, _, _, _ => Nat.le_refl _
  | r + 1, S, j, v => by
    rw [zs_rTMs]
    have a := zs_rTMle (i := i) (o := o) (c := c) r (zu_Ledger_settleTimedOut S i o c j (S 2 o 0 0) (nI 0)) (j + 1) (if zr_Ledger_settleTimedOut S i o c j (S 2 o 0 0) (nI 0) = 0 then v + 1 else v)
    split at a <;> split <;> first | omega | contradiction
set_option maxHeartbeats 4000000 in
set_option maxRecDepth 100000 in
theorem zc_TL_relayTimeouts (lc : Launch) (G : zw_G) (b0 : Nat) (S : zs_S) (i : Nat) (o : Nat) (hi : i < 2) (ho : o < 2) (hI : zs_I S) : zw_M lc ym_TL_relayTimeouts bm_TL_relayTimeouts 6 (some .int) { frames := 6, cells := 0, slots := 0, locals := 150 } G b0 176 (zp_p G b0 S) [.ref (b0 + zp_o 2 i 0), .ref (b0 + zp_o 2 o 0)] (zw_Qi G b0 176 (zp_p G b0 (zs_RTS i o S)) (nI (zs_RTM i o S))) := by
  refine zw_of (by decide) (Nat.le_of_ble_eq_true rfl) ?_
  intro p e s m below meth cx ls F hr hlk hE hP hS hl
  have hl : lv_has ls 6 [(0, .ref (b0 + zp_o 2 i 0)), (1, .ref (b0 + zp_o 2 o 0))] := hl
  have hI0 := hI
  refine lv_iconst (v := nI 0) F.1 F.2.1 dd_TL_relayTimeouts_0 (by decide) ?_
  refine lv_istore_n F.1 F.2.1 dd_TL_relayTimeouts_1 rfl hl (by decide) (lv' := [(2, .int (nI 0)), (0, .ref (b0 + zp_o 2 i 0)), (1, .ref (b0 + zp_o 2 o 0))]) rfl (fun ls hl => ?_)
  refine lv_iconst (v := nI 0) F.1 F.2.1 dd_TL_relayTimeouts_2 (by decide) ?_
  refine lv_istore_n F.1 F.2.1 dd_TL_relayTimeouts_3 rfl hl (by decide) (lv' := [(3, .int (nI 0)), (2, .int (nI 0)), (0, .ref (b0 + zp_o 2 i 0)), (1, .ref (b0 + zp_o 2 o 0))]) rfl (fun ls hl => ?_)
  refine lv_iload_n F.1 F.2.1 dd_TL_relayTimeouts_4 rfl (lv_at hl 0 rfl) ?_
  refine lv_iconst (v := nI 3) F.1 F.2.1 dd_TL_relayTimeouts_5 (by decide) ?_
  refine zn_cge F dd_TL_relayTimeouts_6 (tgt := 61) rfl (by omega) (by omega) (fun h6 => absurd h6 (by decide)) (fun h6 => ?_)
  refine lv_aload_n F.1 F.2.1 dd_TL_relayTimeouts_9 rfl (lv_at hl 2 rfl) ?_
  refine zc_gN (t := 2) (i := i) (j := 0) F hE hP ⟨by decide, (show i < 2 by omega), (show 0 < 1 by omega)⟩ rfl rfl zi_Ledger 5 (by decide) rfl wf_TL_116 rfl dd_TL_relayTimeouts_10 ?_
  refine lv_iload_n F.1 F.2.1 dd_TL_relayTimeouts_13 rfl (lv_at hl 0 rfl) ?_
  refine zc_aald (t := 17) (i := i) (j := 0) (k := 0) (N := 3) (z := 4) (a := (b0 + zp_o 18 i 0)) F hE hP ⟨by decide, (show i < 2 by omega), (show 0 < 1 by omega)⟩ rfl rfl rfl (by omega) (by decide) rfl dd_TL_relayTimeouts_14 ?_
  refine zc_gN (t := 18) (i := i) (j := 0) F hE hP ⟨by decide, (show i < 2 by omega), (show 0 < 3 by omega)⟩ rfl rfl zi_End 1 (by decide) rfl wf_TL_120 rfl dd_TL_relayTimeouts_15 ?_
  refine zn_top (y := nI (zs_n (S 18 i 0 0))) ((zs_IS hI0 hi (by decide)).1) ?_
  refine lv_istore F.1 F.2.1 dd_TL_relayTimeouts_18 hl (by decide) (lv' := [(4, .int (nI (zs_n (S 18 i 0 0)))), (3, .int (nI 0)), (2, .int (nI 0)), (0, .ref (b0 + zp_o 2 i 0)), (1, .ref (b0 + zp_o 2 o 0))]) rfl (fun ls hl => ?_)
  refine lv_iconst (v := nI 1) F.1 F.2.1 dd_TL_relayTimeouts_20 (by decide) ?_
  refine lv_istore F.1 F.2.1 dd_TL_relayTimeouts_21 hl (by decide) (lv' := [(5, .int (nI 1)), (4, .int (nI (zs_n (S 18 i 0 0)))), (3, .int (nI 0)), (2, .int (nI 0)), (0, .ref (b0 + zp_o 2 i 0)), (1, .ref (b0 + zp_o 2 o 0))]) rfl (fun ls hl => ?_)
  refine zl_relayTimeouts lc G b0 i o 0 (zs_n (S 18 i 0 0)) hi ho (by decide) (zs_IS hI0 hi (by decide)).2 ⟨Nat.le_of_ble_eq_true rfl, Nat.le_of_ble_eq_true rfl⟩ F hE (zs_n (S 18 i 0 0)) 0 0 S (Nat.zero_add _) hI0 (fun ls H locs hl hP hS => ?_) ls _ _ (lv_sub hl [0, 1, 2, 3, 4, 5] rfl) hP hS
  have hI1 := zs_rTI (c := 0) hi ho (by decide) (zs_n (S 18 i 0 0)) 0 S (Nat.le_trans (Nat.le_of_eq (Nat.zero_add _)) (zs_IS hI0 hi (by decide)).2) hI0
  refine lv_iinc F.1 F.2.1 dd_TL_relayTimeouts_55 hl (k := 2) rfl (v := nI 1) (by decide) (by decide) (lv' := [(3, .int (nI 1)), (5, .int (nI (zs_n (S 18 i 0 0) + 1))), (4, .int (nI (zs_n (S 18 i 0 0)))), (2, .int (nI (zs_rTM i o 0 S 0 0 (zs_n (S 18 i 0 0))))), (0, .ref (b0 + zp_o 2 i 0)), (1, .ref (b0 + zp_o 2 o 0))]) rfl (fun ls hl => ?_)
  refine lv_goto F.1 F.2.1 dd_TL_relayTimeouts_58 (tgt := 4) rfl ?_
  refine lv_iload_n F.1 F.2.1 dd_TL_relayTimeouts_4 rfl (lv_at hl 0 rfl) ?_
  refine lv_iconst (v := nI 3) F.1 F.2.1 dd_TL_relayTimeouts_5 (by decide) ?_
  refine zn_cge F dd_TL_relayTimeouts_6 (tgt := 61) rfl (by omega) (by omega) (fun h6 => absurd h6 (by decide)) (fun h6 => ?_)
  refine lv_aload_n F.1 F.2.1 dd_TL_relayTimeouts_9 rfl (lv_at hl 4 rfl) ?_
  refine zc_gN (t := 2) (i := i) (j := 0) F hE hP ⟨by decide, (show i < 2 by omega), (show 0 < 1 by omega)⟩ rfl rfl zi_Ledger 5 (by decide) rfl wf_TL_116 rfl dd_TL_relayTimeouts_10 ?_
  refine lv_iload_n F.1 F.2.1 dd_TL_relayTimeouts_13 rfl (lv_at hl 0 rfl) ?_
  refine zc_aald (t := 17) (i := i) (j := 0) (k := 1) (N := 3) (z := 4) (a := (b0 + zp_o 18 i 1)) F hE hP ⟨by decide, (show i < 2 by omega), (show 0 < 1 by omega)⟩ rfl rfl rfl (by omega) (by decide) rfl dd_TL_relayTimeouts_14 ?_
  refine zc_gN (t := 18) (i := i) (j := 1) F hE hP ⟨by decide, (show i < 2 by omega), (show 1 < 3 by omega)⟩ rfl rfl zi_End 1 (by decide) rfl wf_TL_120 rfl dd_TL_relayTimeouts_15 ?_
  refine zn_top (y := nI (zs_n ((zs_rTS i o 0 S 0 (zs_n (S 18 i 0 0))) 18 i 1 0))) ((zs_IS hI1 hi (by decide)).1) ?_
  refine lv_istore F.1 F.2.1 dd_TL_relayTimeouts_18 hl (by decide) (lv' := [(4, .int (nI (zs_n ((zs_rTS i o 0 S 0 (zs_n (S 18 i 0 0))) 18 i 1 0)))), (3, .int (nI 1)), (5, .int (nI (zs_n (S 18 i 0 0) + 1))), (2, .int (nI (zs_rTM i o 0 S 0 0 (zs_n (S 18 i 0 0))))), (0, .ref (b0 + zp_o 2 i 0)), (1, .ref (b0 + zp_o 2 o 0))]) rfl (fun ls hl => ?_)
  refine lv_iconst (v := nI 1) F.1 F.2.1 dd_TL_relayTimeouts_20 (by decide) ?_
  refine lv_istore F.1 F.2.1 dd_TL_relayTimeouts_21 hl (by decide) (lv' := [(5, .int (nI 1)), (4, .int (nI (zs_n ((zs_rTS i o 0 S 0 (zs_n (S 18 i 0 0))) 18 i 1 0)))), (3, .int (nI 1)), (2, .int (nI (zs_rTM i o 0 S 0 0 (zs_n (S 18 i 0 0))))), (0, .ref (b0 + zp_o 2 i 0)), (1, .ref (b0 + zp_o 2 o 0))]) rfl (fun ls hl => ?_)
  refine zl_relayTimeouts lc G b0 i o 1 (zs_n ((zs_rTS i o 0 S 0 (zs_n (S 18 i 0 0))) 18 i 1 0)) hi ho (by decide) (zs_IS hI1 hi (by decide)).2 ⟨Nat.le_of_ble_eq_true rfl, Nat.le_of_ble_eq_true rfl⟩ F hE (zs_n ((zs_rTS i o 0 S 0 (zs_n (S 18 i 0 0))) 18 i 1 0)) 0 (zs_rTM i o 0 S 0 0 (zs_n (S 18 i 0 0))) (zs_rTS i o 0 S 0 (zs_n (S 18 i 0 0))) (Nat.zero_add _) hI1 (fun ls H locs hl hP hS => ?_) ls _ _ (lv_sub hl [0, 1, 2, 3, 4, 5] rfl) hP hS
  have hI2 := zs_rTI (c := 1) hi ho (by decide) (zs_n ((zs_rTS i o 0 S 0 (zs_n (S 18 i 0 0))) 18 i 1 0)) 0 (zs_rTS i o 0 S 0 (zs_n (S 18 i 0 0))) (Nat.le_trans (Nat.le_of_eq (Nat.zero_add _)) (zs_IS hI1 hi (by decide)).2) hI1
  refine lv_iinc F.1 F.2.1 dd_TL_relayTimeouts_55 hl (k := 2) rfl (v := nI 2) (by decide) (by decide) (lv' := [(3, .int (nI 2)), (5, .int (nI (zs_n ((zs_rTS i o 0 S 0 (zs_n (S 18 i 0 0))) 18 i 1 0) + 1))), (4, .int (nI (zs_n ((zs_rTS i o 0 S 0 (zs_n (S 18 i 0 0))) 18 i 1 0)))), (2, .int (nI (zs_rTM i o 1 (zs_rTS i o 0 S 0 (zs_n (S 18 i 0 0))) 0 (zs_rTM i o 0 S 0 0 (zs_n (S 18 i 0 0))) (zs_n ((zs_rTS i o 0 S 0 (zs_n (S 18 i 0 0))) 18 i 1 0))))), (0, .ref (b0 + zp_o 2 i 0)), (1, .ref (b0 + zp_o 2 o 0))]) rfl (fun ls hl => ?_)
  refine lv_goto F.1 F.2.1 dd_TL_relayTimeouts_58 (tgt := 4) rfl ?_
  refine lv_iload_n F.1 F.2.1 dd_TL_relayTimeouts_4 rfl (lv_at hl 0 rfl) ?_
  refine lv_iconst (v := nI 3) F.1 F.2.1 dd_TL_relayTimeouts_5 (by decide) ?_
  refine zn_cge F dd_TL_relayTimeouts_6 (tgt := 61) rfl (by omega) (by omega) (fun h6 => absurd h6 (by decide)) (fun h6 => ?_)
  refine lv_aload_n F.1 F.2.1 dd_TL_relayTimeouts_9 rfl (lv_at hl 4 rfl) ?_
  refine zc_gN (t := 2) (i := i) (j := 0) F hE hP ⟨by decide, (show i < 2 by omega), (show 0 < 1 by omega)⟩ rfl rfl zi_Ledger 5 (by decide) rfl wf_TL_116 rfl dd_TL_relayTimeouts_10 ?_
  refine lv_iload_n F.1 F.2.1 dd_TL_relayTimeouts_13 rfl (lv_at hl 0 rfl) ?_
  refine zc_aald (t := 17) (i := i) (j := 0) (k := 2) (N := 3) (z := 4) (a := (b0 + zp_o 18 i 2)) F hE hP ⟨by decide, (show i < 2 by omega), (show 0 < 1 by omega)⟩ rfl rfl rfl (by omega) (by decide) rfl dd_TL_relayTimeouts_14 ?_
  refine zc_gN (t := 18) (i := i) (j := 2) F hE hP ⟨by decide, (show i < 2 by omega), (show 2 < 3 by omega)⟩ rfl rfl zi_End 1 (by decide) rfl wf_TL_120 rfl dd_TL_relayTimeouts_15 ?_
  refine zn_top (y := nI (zs_n ((zs_rTS i o 1 (zs_rTS i o 0 S 0 (zs_n (S 18 i 0 0))) 0 (zs_n ((zs_rTS i o 0 S 0 (zs_n (S 18 i 0 0))) 18 i 1 0))) 18 i 2 0))) ((zs_IS hI2 hi (by decide)).1) ?_
  refine lv_istore F.1 F.2.1 dd_TL_relayTimeouts_18 hl (by decide) (lv' := [(4, .int (nI (zs_n ((zs_rTS i o 1 (zs_rTS i o 0 S 0 (zs_n (S 18 i 0 0))) 0 (zs_n ((zs_rTS i o 0 S 0 (zs_n (S 18 i 0 0))) 18 i 1 0))) 18 i 2 0)))), (3, .int (nI 2)), (5, .int (nI (zs_n ((zs_rTS i o 0 S 0 (zs_n (S 18 i 0 0))) 18 i 1 0) + 1))), (2, .int (nI (zs_rTM i o 1 (zs_rTS i o 0 S 0 (zs_n (S 18 i 0 0))) 0 (zs_rTM i o 0 S 0 0 (zs_n (S 18 i 0 0))) (zs_n ((zs_rTS i o 0 S 0 (zs_n (S 18 i 0 0))) 18 i 1 0))))), (0, .ref (b0 + zp_o 2 i 0)), (1, .ref (b0 + zp_o 2 o 0))]) rfl (fun ls hl => ?_)
  refine lv_iconst (v := nI 1) F.1 F.2.1 dd_TL_relayTimeouts_20 (by decide) ?_
  refine lv_istore F.1 F.2.1 dd_TL_relayTimeouts_21 hl (by decide) (lv' := [(5, .int (nI 1)), (4, .int (nI (zs_n ((zs_rTS i o 1 (zs_rTS i o 0 S 0 (zs_n (S 18 i 0 0))) 0 (zs_n ((zs_rTS i o 0 S 0 (zs_n (S 18 i 0 0))) 18 i 1 0))) 18 i 2 0)))), (3, .int (nI 2)), (2, .int (nI (zs_rTM i o 1 (zs_rTS i o 0 S 0 (zs_n (S 18 i 0 0))) 0 (zs_rTM i o 0 S 0 0 (zs_n (S 18 i 0 0))) (zs_n ((zs_rTS i o 0 S 0 (zs_n (S 18 i 0 0))) 18 i 1 0))))), (0, .ref (b0 + zp_o 2 i 0)), (1, .ref (b0 + zp_o 2 o 0))]) rfl (fun ls hl => ?_)
  refine zl_relayTimeouts lc G b0 i o 2 (zs_n ((zs_rTS i o 1 (zs_rTS i o 0 S 0 (zs_n (S 18 i 0 0))) 0 (zs_n ((zs_rTS i o 0 S 0 (zs_n (S 18 i 0 0))) 18 i 1 0))) 18 i 2 0)) hi ho (by decide) (zs_IS hI2 hi (by decide)).2 ⟨Nat.le_of_ble_eq_true rfl, Nat.le_of_ble_eq_true rfl⟩ F hE (zs_n ((zs_rTS i o 1 (zs_rTS i o 0 S 0 (zs_n (S 18 i 0 0))) 0 (zs_n ((zs_rTS i o 0 S 0 (zs_n (S 18 i 0 0))) 18 i 1 0))) 18 i 2 0)) 0 (zs_rTM i o 1 (zs_rTS i o 0 S 0 (zs_n (S 18 i 0 0))) 0 (zs_rTM i o 0 S 0 0 (zs_n (S 18 i 0 0))) (zs_n ((zs_rTS i o 0 S 0 (zs_n (S 18 i 0 0))) 18 i 1 0))) (zs_rTS i o 1 (zs_rTS i o 0 S 0 (zs_n (S 18 i 0 0))) 0 (zs_n ((zs_rTS i o 0 S 0 (zs_n (S 18 i 0 0))) 18 i 1 0))) (Nat.zero_add _) hI2 (fun ls H locs hl hP hS => ?_) ls _ _ (lv_sub hl [0, 1, 2, 3, 4, 5] rfl) hP hS
  have hI3 := zs_rTI (c := 2) hi ho (by decide) (zs_n ((zs_rTS i o 1 (zs_rTS i o 0 S 0 (zs_n (S 18 i 0 0))) 0 (zs_n ((zs_rTS i o 0 S 0 (zs_n (S 18 i 0 0))) 18 i 1 0))) 18 i 2 0)) 0 (zs_rTS i o 1 (zs_rTS i o 0 S 0 (zs_n (S 18 i 0 0))) 0 (zs_n ((zs_rTS i o 0 S 0 (zs_n (S 18 i 0 0))) 18 i 1 0))) (Nat.le_trans (Nat.le_of_eq (Nat.zero_add _)) (zs_IS hI2 hi (by decide)).2) hI2
  refine lv_iinc F.1 F.2.1 dd_TL_relayTimeouts_55 hl (k := 2) rfl (v := nI 3) (by decide) (by decide) (lv' := [(3, .int (nI 3)), (5, .int (nI (zs_n ((zs_rTS i o 1 (zs_rTS i o 0 S 0 (zs_n (S 18 i 0 0))) 0 (zs_n ((zs_rTS i o 0 S 0 (zs_n (S 18 i 0 0))) 18 i 1 0))) 18 i 2 0) + 1))), (4, .int (nI (zs_n ((zs_rTS i o 1 (zs_rTS i o 0 S 0 (zs_n (S 18 i 0 0))) 0 (zs_n ((zs_rTS i o 0 S 0 (zs_n (S 18 i 0 0))) 18 i 1 0))) 18 i 2 0)))), (2, .int (nI (zs_rTM i o 2 (zs_rTS i o 1 (zs_rTS i o 0 S 0 (zs_n (S 18 i 0 0))) 0 (zs_n ((zs_rTS i o 0 S 0 (zs_n (S 18 i 0 0))) 18 i 1 0))) 0 (zs_rTM i o 1 (zs_rTS i o 0 S 0 (zs_n (S 18 i 0 0))) 0 (zs_rTM i o 0 S 0 0 (zs_n (S 18 i 0 0))) (zs_n ((zs_rTS i o 0 S 0 (zs_n (S 18 i 0 0))) 18 i 1 0))) (zs_n ((zs_rTS i o 1 (zs_rTS i o 0 S 0 (zs_n (S 18 i 0 0))) 0 (zs_n ((zs_rTS i o 0 S 0 (zs_n (S 18 i 0 0))) 18 i 1 0))) 18 i 2 0))))), (0, .ref (b0 + zp_o 2 i 0)), (1, .ref (b0 + zp_o 2 o 0))]) rfl (fun ls hl => ?_)
  refine lv_goto F.1 F.2.1 dd_TL_relayTimeouts_58 (tgt := 4) rfl ?_
  refine lv_iload_n F.1 F.2.1 dd_TL_relayTimeouts_4 rfl (lv_at hl 0 rfl) ?_
  refine lv_iconst (v := nI 3) F.1 F.2.1 dd_TL_relayTimeouts_5 (by decide) ?_
  refine zn_cge F dd_TL_relayTimeouts_6 (tgt := 61) rfl (by omega) (by omega) (fun h6 => ?_) (fun h6 => absurd h6 (by decide))
  refine lv_iload_n F.1 F.2.1 dd_TL_relayTimeouts_61 rfl (lv_at hl 3 rfl) ?_
  exact zw_iret F hr hlk hP hS rfl rfl dd_TL_relayTimeouts_62
