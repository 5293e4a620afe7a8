theorem zh_gt {i L : Nat} (hi : i ≤ 4000) (hL : L ≤ 3073) : Int32.ofNat L - nI 6 < nI i ↔ ¬ i + 6 ≤ L := by
  have a : (Int32.ofNat L - nI 6).toInt = (L : Int) - 6 := by
    rw [Int32.toInt_sub, show (Int32.ofNat L).toInt = (L : Int) from nI_toInt (by omega), nI_toInt (by decide)]
    apply Int.bmod_eq_of_le
    · omega
    · omega
  rw [Int32.lt_iff_toInt_lt, a, nI_toInt (by omega)]
  omega
set_option maxHeartbeats 4000000 in
set_option maxRecDepth 100000 in
theorem zh_loop {p : Program} {l : Launch} {e : Env} {R : Room} {s : State} {m : MethodId} {args : Array Value} {below : List Frame} {meth : Method} {c : Code} {cells slots : Nat} {Q : State → Prop} {A : Nat → Prop} {G : zw_G} {b b0 b1 L : Nat} {xs : Nat → Int32} (F : CallFix p m c code 4 s args zw_WS "TwinLedgersLaw") (hE : zw_E G s) (hX : va_X b L xs s s.heap) (hbl : b < s.heap.size) (hbA : ¬ A b) (hL : L ≤ 3073) (hR : 8 ≤ R.frames ∧ 207 ≤ R.locals) (hcs : cells ≤ R.cells ∧ slots ≤ R.slots) (hb : b1 = b0 + 176) (hA : ∀ q, b0 ≤ q → A q) (kk : ∀ (ls : Array Slot) (H : Heap) (locs : List Loc), va_S A s.heap H locs → W p l e R s m args below meth c H locs cells slots Q (F0 m 1072 ls [])) : ∀ (r k : Nat) (S : zs_S) (T : zs_T) (H : Heap) (locs : List Loc) (ls : Array Slot), k + r = 512 → zl_R k S T → va_P G.1 zw_cl (zw_l b0 176 (zp_p G b0 S)) H → va_P G.1 zw_cl (zw_l b1 26 (zq_p G b1 T)) H → va_S A s.heap H locs → lv_has ls 4 (zg_lv (1 + 6 * k) b1 b0 b) → W p l e R s m args below meth c H locs cells slots Q (F0 m 28 ls []) := by
  intro r
  induction r with
  | zero =>
    intro k S T H locs ls hr h hP hP2 hS hl
    refine lv_iload_n F.1 F.2.1 dd_Law_law_28 rfl (lv_at hl 0 rfl) ?_
    refine lv_aload_n F.1 F.2.1 dd_Law_law_29 rfl (lv_at hl 3 rfl) ?_
    refine va_slen F.1 F.2.1 hX hbl hbA hS dd_Law_law_30 ?_
    refine lv_bipush (v := nI 6) F.1 F.2.1 dd_Law_law_31 (by decide) ?_
    refine lv_isub F.1 F.2.1 dd_Law_law_33 ?_
    by_cases hk : 1 + 6 * k + 6 ≤ L
    · omega
    · exact lv_icmp_gt F.1 F.2.1 dd_Law_law_34 (tgt := 1072) rfl (fun _ => kk ls H locs hS) (fun z => absurd ((zh_gt (by omega) hL).mpr hk) z)
  | succ r ih =>
    intro k S T H locs ls hr h hP hP2 hS hl
    refine lv_iload_n F.1 F.2.1 dd_Law_law_28 rfl (lv_at hl 0 rfl) ?_
    refine lv_aload_n F.1 F.2.1 dd_Law_law_29 rfl (lv_at hl 3 rfl) ?_
    refine va_slen F.1 F.2.1 hX hbl hbA hS dd_Law_law_30 ?_
    refine lv_bipush (v := nI 6) F.1 F.2.1 dd_Law_law_31 (by decide) ?_
    refine lv_isub F.1 F.2.1 dd_Law_law_33 ?_
    by_cases hk : 1 + 6 * k + 6 ≤ L
    · refine lv_icmp_gt F.1 F.2.1 dd_Law_law_34 (tgt := 1072) rfl (fun z => absurd hk ((zh_gt (by omega) hL).mp z)) (fun _ => ?_)
      have nx : ∀ (S' : zs_S) (T' : zs_T) (H1 : Heap) (locs1 : List Loc), zl_R (k + 1) S' T' → va_P G.1 zw_cl (zw_l b0 176 (zp_p G b0 S')) H1 → va_P G.1 zw_cl (zw_l b1 26 (zq_p G b1 T')) H1 → va_S A s.heap H1 locs1 → W p l e R s m args below meth c H1 locs1 cells slots Q (F0 m 1066 ls []) := by
        intro S' T' H1 locs1 h' p1 p2 s1
        refine lv_iinc F.1 F.2.1 dd_Law_law_1066 hl (k := 0) rfl (v := nI (1 + 6 * (k + 1))) (by rw [show Int32.ofInt 6 = nI 6 by decide, nI_add, show 1 + 6 * k + 6 = 1 + 6 * (k + 1) by omega]) (by decide) (lv' := zg_lv (1 + 6 * (k + 1)) b1 b0 b) rfl (fun ls hl => ?_)
        refine lv_goto F.1 F.2.1 dd_Law_law_1069 (tgt := 28) rfl ?_
        exact ih (k + 1) S' T' H1 locs1 ls (by omega) h' p1 p2 s1 hl
      refine lv_aload_n F.1 F.2.1 dd_Law_law_37 rfl (lv_at hl 3 rfl) ?_
      refine lv_iload_n F.1 F.2.1 dd_Law_law_38 rfl (lv_at hl 0 rfl) ?_
      refine va_sld F.1 F.2.1 hX hbl hbA hS (vp_in_nI (show 1 + 6 * k < L by omega) (by omega)) dd_Law_law_39 ?_
      refine lv_bipush (v := 31) F.1 F.2.1 dd_Law_law_40 (by decide) ?_
      refine lv_iand F.1 F.2.1 dd_Law_law_42 ?_
      generalize xs (nI (1 + 6 * k)).toNatClampNeg &&& 31 = q
      by_cases q0 : q = 0
      · refine zn_top (y := 0) q0 ?_
        refine lv_tableIn (off := 93) F.1 F.2.1 dd_Law_law_43 (by decide) (by decide) (by decide) (tgt := 136) rfl ?_
        exact zh_tick F hE hX hbl hbA (by omega) hR hcs hb hA hk (by omega) h hP hP2 hS hl nx
      by_cases q1 : q = 1
      · refine zn_top (y := 1) q1 ?_
        refine lv_tableIn (off := 116) F.1 F.2.1 dd_Law_law_43 (by decide) (by decide) (by decide) (tgt := 159) rfl ?_
        exact zh_update F hE hX hbl hbA (by omega) hR hcs hb hA hk (by omega) h hP hP2 hS hl nx
      by_cases q2 : q = 2
      · refine zn_top (y := 2) q2 ?_
        refine lv_tableIn (off := 185) F.1 F.2.1 dd_Law_law_43 (by decide) (by decide) (by decide) (tgt := 228) rfl ?_
        exact zh_init F hE hX hbl hbA (by omega) hR hcs hb hA hk (by omega) h hP hP2 hS hl nx
      by_cases q3 : q = 3
      · refine zn_top (y := 3) q3 ?_
        refine lv_tableIn (off := 244) F.1 F.2.1 dd_Law_law_43 (by decide) (by decide) (by decide) (tgt := 287) rfl ?_
        exact zh_attempt F hE hX hbl hbA (by omega) hR hcs hb hA hk (by omega) h hP hP2 hS hl nx
      by_cases q4 : q = 4
      · refine zn_top (y := 4) q4 ?_
        refine lv_tableIn (off := 313) F.1 F.2.1 dd_Law_law_43 (by decide) (by decide) (by decide) (tgt := 356) rfl ?_
        exact zh_open F hE hX hbl hbA (by omega) hR hcs hb hA hk (by omega) h hP hP2 hS hl nx
      by_cases q5 : q = 5
      · refine zn_top (y := 5) q5 ?_
        refine lv_tableIn (off := 366) F.1 F.2.1 dd_Law_law_43 (by decide) (by decide) (by decide) (tgt := 409) rfl ?_
        exact zh_close F hE hX hbl hbA (by omega) hR hcs hb hA hk (by omega) h hP hP2 hS hl nx
      by_cases q6 : q = 6
      · refine zn_top (y := 6) q6 ?_
        refine lv_tableIn (off := 399) F.1 F.2.1 dd_Law_law_43 (by decide) (by decide) (by decide) (tgt := 442) rfl ?_
        exact zh_send F hE hX hbl hbA (by omega) hR hcs hb hA hk (by omega) h hP hP2 hS hl nx
      by_cases q7 : q = 7
      · refine zn_top (y := 7) q7 ?_
        refine lv_tableIn (off := 462) F.1 F.2.1 dd_Law_law_43 (by decide) (by decide) (by decide) (tgt := 505) rfl ?_
        exact zh_receive F hE hX hbl hbA (by omega) hR hcs hb hA hk (by omega) h hP hP2 hS hl nx
      by_cases q8 : q = 8
      · refine zn_top (y := 8) q8 ?_
        refine lv_tableIn (off := 541) F.1 F.2.1 dd_Law_law_43 (by decide) (by decide) (by decide) (tgt := 584) rfl ?_
        exact zh_acknowledge F hE hX hbl hbA (by omega) hR hcs hb hA hk (by omega) h hP hP2 hS hl nx
      by_cases q9 : q = 9
      · refine zn_top (y := 9) q9 ?_
        refine lv_tableIn (off := 594) F.1 F.2.1 dd_Law_law_43 (by decide) (by decide) (by decide) (tgt := 637) rfl ?_
        exact zh_timeout F hE hX hbl hbA (by omega) hR hcs hb hA hk (by omega) h hP hP2 hS hl nx
      by_cases q10 : q = 10
      · refine zn_top (y := 10) q10 ?_
        refine lv_tableIn (off := 673) F.1 F.2.1 dd_Law_law_43 (by decide) (by decide) (by decide) (tgt := 716) rfl ?_
        exact zh_round F hE hX hbl hbA (by omega) hR hcs hb hA hk (by omega) h hP hP2 hS hl nx
      by_cases q11 : q = 11
      · refine zn_top (y := 11) q11 ?_
        refine lv_tableIn (off := 686) F.1 F.2.1 dd_Law_law_43 (by decide) (by decide) (by decide) (tgt := 729) rfl ?_
        exact zh_height F hE hX hbl hbA (by omega) hR hcs hb hA hk (by omega) h hP hP2 hS hl nx
      by_cases q12 : q = 12
      · refine zn_top (y := 12) q12 ?_
        refine lv_tableIn (off := 709) F.1 F.2.1 dd_Law_law_43 (by decide) (by decide) (by decide) (tgt := 752) rfl ?_
        exact zh_root F hE hX hbl hbA (by omega) hR hcs hb hA hk (by omega) h hP hP2 hS hl nx
      by_cases q13 : q = 13
      · refine zn_top (y := 13) q13 ?_
        refine lv_tableIn (off := 742) F.1 F.2.1 dd_Law_law_43 (by decide) (by decide) (by decide) (tgt := 785) rfl ?_
        exact zh_knows F hE hX hbl hbA (by omega) hR hcs hb hA hk (by omega) h hP hP2 hS hl nx
      by_cases q14 : q = 14
      · refine zn_top (y := 14) q14 ?_
        refine lv_tableIn (off := 775) F.1 F.2.1 dd_Law_law_43 (by decide) (by decide) (by decide) (tgt := 818) rfl ?_
        exact zh_end F hE hX hbl hbA (by omega) hR hcs hb hA hk (by omega) h hP hP2 hS hl nx
      by_cases q15 : q = 15
      · refine zn_top (y := 15) q15 ?_
        refine lv_tableIn (off := 818) F.1 F.2.1 dd_Law_law_43 (by decide) (by decide) (by decide) (tgt := 861) rfl ?_
        exact zh_packet F hE hX hbl hbA (by omega) hR hcs hb hA hk (by omega) h hP hP2 hS hl nx
      by_cases q16 : q = 16
      · refine zn_top (y := 16) q16 ?_
        refine lv_tableIn (off := 861) F.1 F.2.1 dd_Law_law_43 (by decide) (by decide) (by decide) (tgt := 904) rfl ?_
        exact zh_limit F hE hX hbl hbA (by omega) hR hcs hb hA hk (by omega) h hP hP2 hS hl nx
      by_cases q17 : q = 17
      · refine zn_top (y := 17) q17 ?_
        refine lv_tableIn (off := 904) F.1 F.2.1 dd_Law_law_43 (by decide) (by decide) (by decide) (tgt := 947) rfl ?_
        exact zh_balance F hE hX hbl hbA (by omega) hR hcs hb hA hk (by omega) h hP hP2 hS hl nx
      by_cases q18 : q = 18
      · refine zn_top (y := 18) q18 ?_
        refine lv_tableIn (off := 947) F.1 F.2.1 dd_Law_law_43 (by decide) (by decide) (by decide) (tgt := 990) rfl ?_
        exact zh_escrow F hE hX hbl hbA (by omega) hR hcs hb hA hk (by omega) h hP hP2 hS hl nx
      by_cases q19 : q = 19
      · refine zn_top (y := 19) q19 ?_
        refine lv_tableIn (off := 990) F.1 F.2.1 dd_Law_law_43 (by decide) (by decide) (by decide) (tgt := 1033) rfl ?_
        exact zh_voucher F hE hX hbl hbA (by omega) hR hcs hb hA hk (by omega) h hP hP2 hS hl nx
      refine lv_tableOut F.1 F.2.1 dd_Law_law_43 (by have := lv_neT q0 (show (0 : Int32).toInt = 0 by decide); have := lv_neT q1 (show (1 : Int32).toInt = 1 by decide); have := lv_neT q2 (show (2 : Int32).toInt = 2 by decide); have := lv_neT q3 (show (3 : Int32).toInt = 3 by decide); have := lv_neT q4 (show (4 : Int32).toInt = 4 by decide); have := lv_neT q5 (show (5 : Int32).toInt = 5 by decide); have := lv_neT q6 (show (6 : Int32).toInt = 6 by decide); have := lv_neT q7 (show (7 : Int32).toInt = 7 by decide); have := lv_neT q8 (show (8 : Int32).toInt = 8 by decide); have := lv_neT q9 (show (9 : Int32).toInt = 9 by decide); have := lv_neT q10 (show (10 : Int32).toInt = 10 by decide); have := lv_neT q11 (show (11 : Int32).toInt = 11 by decide); have := lv_neT q12 (show (12 : Int32).toInt = 12 by decide); have := lv_neT q13 (show (13 : Int32).toInt = 13 by decide); have := lv_neT q14 (show (14 : Int32).toInt = 14 by decide); have := lv_neT q15 (show (15 : Int32).toInt = 15 by decide); have := lv_neT q16 (show (16 : Int32).toInt = 16 by decide); have := lv_neT q17 (show (17 : Int32).toInt = 17 by decide); have := lv_neT q18 (show (18 : Int32).toInt = 18 by decide); have := lv_neT q19 (show (19 : Int32).toInt = 19 by decide); omega) (tgt := 1066) rfl ?_
      exact nx S T H locs (zl_mono h) hP hP2 hS
    · exact lv_icmp_gt F.1 F.2.1 dd_Law_law_34 (tgt := 1072) rfl (fun _ => kk ls H locs hS) (fun z => absurd ((zh_gt (by omega) hL).mpr hk) z)
