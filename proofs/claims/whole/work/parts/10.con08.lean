def zr_Mo_acknowledge (T : zs_T) (i : Nat) (c : Nat) (j : Nat) (h : Int32) : Int32 := if T 7 ((3 * i) + c) = nI 3 then (if T 17 ((13 * ((3 * i) + c)) + (j + 1)) = 0 then (if T 8 ((3 * i) + c) = 0 then (if T 18 ((13 * ((3 * i) + c)) + (j + 1)) = 0 then ((-5)) else (if zs_pf T i h (nI ((20480 + (64 * c)) + (j + 1))) (nI 0) (T 18 ((13 * ((3 * i) + c)) + (j + 1))) = 0 then (if T 18 ((13 * ((3 * i) + c)) + (j + 1)) = nI 2 then (if T 8 ((3 * i) + c) = 0 then (T 18 ((13 * ((3 * i) + c)) + (j + 1))) else (T 18 ((13 * ((3 * i) + c)) + (j + 1)))) else (if T 8 ((3 * i) + c) = 0 then (T 18 ((13 * ((3 * i) + c)) + (j + 1))) else (T 18 ((13 * ((3 * i) + c)) + (j + 1))))) else (zs_pf T i h (nI ((20480 + (64 * c)) + (j + 1))) (nI 0) (T 18 ((13 * ((3 * i) + c)) + (j + 1)))))) else (if nI (j + 1) = T 11 ((3 * i) + c) then (if T 18 ((13 * ((3 * i) + c)) + (j + 1)) = 0 then ((-5)) else (if zs_pf T i h (nI ((20480 + (64 * c)) + (j + 1))) (nI 0) (T 18 ((13 * ((3 * i) + c)) + (j + 1))) = 0 then (if T 18 ((13 * ((3 * i) + c)) + (j + 1)) = nI 2 then (if T 8 ((3 * i) + c) = 0 then (T 18 ((13 * ((3 * i) + c)) + (j + 1))) else (T 18 ((13 * ((3 * i) + c)) + (j + 1)))) else (if T 8 ((3 * i) + c) = 0 then (T 18 ((13 * ((3 * i) + c)) + (j + 1))) else (T 18 ((13 * ((3 * i) + c)) + (j + 1))))) else (zs_pf T i h (nI ((20480 + (64 * c)) + (j + 1))) (nI 0) (T 18 ((13 * ((3 * i) + c)) + (j + 1)))))) else ((-8)))) else ((-8))) else ((-2))
def zu_Mo_acknowledge (T : zs_T) (i : Nat) (c : Nat) (j : Nat) (h : Int32) : zs_T := if T 7 ((3 * i) + c) = nI 3 then (if T 17 ((13 * ((3 * i) + c)) + (j + 1)) = 0 then (if T 8 ((3 * i) + c) = 0 then (if T 18 ((13 * ((3 * i) + c)) + (j + 1)) = 0 then (T) else (if zs_pf T i h (nI ((20480 + (64 * c)) + (j + 1))) (nI 0) (T 18 ((13 * ((3 * i) + c)) + (j + 1))) = 0 then (if T 18 ((13 * ((3 * i) + c)) + (j + 1)) = nI 2 then (if T 8 ((3 * i) + c) = 0 then (zs_w (zs_w (zs_w T 17 ((13 * ((3 * i) + c)) + (j + 1)) (T 18 ((13 * ((3 * i) + c)) + (j + 1)))) 19 (24 * i + 6 * ((zs_n (T 14 (13 * (3 * i + c) + (j + 1)))) / 4) + (zs_n (T 12 (13 * (3 * i + c) + (j + 1))))) (T 19 (24 * i + 6 * ((zs_n (T 14 (13 * (3 * i + c) + (j + 1)))) / 4) + (zs_n (T 12 (13 * (3 * i + c) + (j + 1))))) + T 13 ((13 * ((3 * i) + c)) + (j + 1)))) 20 (18 * i + 6 * c + (zs_n (T 12 (13 * (3 * i + c) + (j + 1))))) (if T 16 ((13 * ((3 * i) + c)) + (j + 1)) = 0 then T 20 (18 * i + 6 * c + (zs_n (T 12 (13 * (3 * i + c) + (j + 1))))) - T 13 ((13 * ((3 * i) + c)) + (j + 1)) else T 20 (18 * i + 6 * c + (zs_n (T 12 (13 * (3 * i + c) + (j + 1))))))) else (zs_w (zs_w (zs_w (zs_w T 17 ((13 * ((3 * i) + c)) + (j + 1)) (T 18 ((13 * ((3 * i) + c)) + (j + 1)))) 19 (24 * i + 6 * ((zs_n (T 14 (13 * (3 * i + c) + (j + 1)))) / 4) + (zs_n (T 12 (13 * (3 * i + c) + (j + 1))))) (T 19 (24 * i + 6 * ((zs_n (T 14 (13 * (3 * i + c) + (j + 1)))) / 4) + (zs_n (T 12 (13 * (3 * i + c) + (j + 1))))) + T 13 ((13 * ((3 * i) + c)) + (j + 1)))) 20 (18 * i + 6 * c + (zs_n (T 12 (13 * (3 * i + c) + (j + 1))))) (if T 16 ((13 * ((3 * i) + c)) + (j + 1)) = 0 then T 20 (18 * i + 6 * c + (zs_n (T 12 (13 * (3 * i + c) + (j + 1))))) - T 13 ((13 * ((3 * i) + c)) + (j + 1)) else T 20 (18 * i + 6 * c + (zs_n (T 12 (13 * (3 * i + c) + (j + 1))))))) 11 ((3 * i) + c) (nI ((j + 1) + 1)))) else (if T 8 ((3 * i) + c) = 0 then (zs_w T 17 ((13 * ((3 * i) + c)) + (j + 1)) (T 18 ((13 * ((3 * i) + c)) + (j + 1)))) else (zs_w (zs_w T 17 ((13 * ((3 * i) + c)) + (j + 1)) (T 18 ((13 * ((3 * i) + c)) + (j + 1)))) 11 ((3 * i) + c) (nI ((j + 1) + 1))))) else (T))) else (if nI (j + 1) = T 11 ((3 * i) + c) then (if T 18 ((13 * ((3 * i) + c)) + (j + 1)) = 0 then (T) else (if zs_pf T i h (nI ((20480 + (64 * c)) + (j + 1))) (nI 0) (T 18 ((13 * ((3 * i) + c)) + (j + 1))) = 0 then (if T 18 ((13 * ((3 * i) + c)) + (j + 1)) = nI 2 then (if T 8 ((3 * i) + c) = 0 then (zs_w (zs_w (zs_w T 17 ((13 * ((3 * i) + c)) + (j + 1)) (T 18 ((13 * ((3 * i) + c)) + (j + 1)))) 19 (24 * i + 6 * ((zs_n (T 14 (13 * (3 * i + c) + (j + 1)))) / 4) + (zs_n (T 12 (13 * (3 * i + c) + (j + 1))))) (T 19 (24 * i + 6 * ((zs_n (T 14 (13 * (3 * i + c) + (j + 1)))) / 4) + (zs_n (T 12 (13 * (3 * i + c) + (j + 1))))) + T 13 ((13 * ((3 * i) + c)) + (j + 1)))) 20 (18 * i + 6 * c + (zs_n (T 12 (13 * (3 * i + c) + (j + 1))))) (if T 16 ((13 * ((3 * i) + c)) + (j + 1)) = 0 then T 20 (18 * i + 6 * c + (zs_n (T 12 (13 * (3 * i + c) + (j + 1))))) - T 13 ((13 * ((3 * i) + c)) + (j + 1)) else T 20 (18 * i + 6 * c + (zs_n (T 12 (13 * (3 * i + c) + (j + 1))))))) else (zs_w (zs_w (zs_w (zs_w T 17 ((13 * ((3 * i) + c)) + (j + 1)) (T 18 ((13 * ((3 * i) + c)) + (j + 1)))) 19 (24 * i + 6 * ((zs_n (T 14 (13 * (3 * i + c) + (j + 1)))) / 4) + (zs_n (T 12 (13 * (3 * i + c) + (j + 1))))) (T 19 (24 * i + 6 * ((zs_n (T 14 (13 * (3 * i + c) + (j + 1)))) / 4) + (zs_n (T 12 (13 * (3 * i + c) + (j + 1))))) + T 13 ((13 * ((3 * i) + c)) + (j + 1)))) 20 (18 * i + 6 * c + (zs_n (T 12 (13 * (3 * i + c) + (j + 1))))) (if T 16 ((13 * ((3 * i) + c)) + (j + 1)) = 0 then T 20 (18 * i + 6 * c + (zs_n (T 12 (13 * (3 * i + c) + (j + 1))))) - T 13 ((13 * ((3 * i) + c)) + (j + 1)) else T 20 (18 * i + 6 * c + (zs_n (T 12 (13 * (3 * i + c) + (j + 1))))))) 11 ((3 * i) + c) (nI ((j + 1) + 1)))) else (if T 8 ((3 * i) + c) = 0 then (zs_w T 17 ((13 * ((3 * i) + c)) + (j + 1)) (T 18 ((13 * ((3 * i) + c)) + (j + 1)))) else (zs_w (zs_w T 17 ((13 * ((3 * i) + c)) + (j + 1)) (T 18 ((13 * ((3 * i) + c)) + (j + 1)))) 11 ((3 * i) + c) (nI ((j + 1) + 1))))) else (T))) else (T))) else (T)) else (T)
set_option maxHeartbeats 4000000 in
set_option maxRecDepth 100000 in
theorem zc_Mo_acknowledge (lc : Launch) (G : zw_G) (b0 : Nat) (T : zs_T) (i : Nat) (c : Nat) (j : Nat) (h : Int32) (hi : i < 2) (hc : c < 3) (hj : j < 12) (hs : ¬ (nI (j + 1) < nI 1 ∨ T 9 (3 * i + c) < nI (j + 1))) (hpk : zs_MP T (13 * (3 * i + c) + (j + 1))) (hz : ∀ q, T 4 q = nI (zs_n (T 4 q)) ∧ zs_n (T 4 q) ≤ 128) : zw_M lc ym_Mo_acknowledge bm_Mo_acknowledge 8 (some .int) { frames := 3, cells := 0, slots := 0, locals := 76 } G b0 26 (zq_p G b0 T) [.ref (b0 + 0), .int (nI i), .int (nI c), .int (nI (j + 1)), .int h] (zw_Qi G b0 26 (zq_p G b0 (zu_Mo_acknowledge T i c j h)) (zr_Mo_acknowledge T i c j h)) := by
  refine zw_of (by decide) (Nat.le_of_ble_eq_true rfl) ?_
  intro p e s m below meth cx ls F hr hlk hE hP hS hl
  have hl : lv_has ls 8 [(0, .ref (b0 + 0)), (1, .int (nI i)), (2, .int (nI c)), (3, .int (nI (j + 1))), (4, .int h)] := hl
  refine lv_iload_n F.1 F.2.1 dd_Mo_acknowledge_0 rfl (lv_at hl 1 rfl) ?_
  refine lv_iload_n F.1 F.2.1 dd_Mo_acknowledge_1 rfl (lv_at hl 2 rfl) ?_
  refine zw_goi (zw_rS F hE hP (zc_Mo_isEnd lc G b0 T i c (by first | omega | assumption) (by first | omega | assumption)) zk_Mo_isEnd za_Mo_isEnd wl_Mo_121 ⟨rfl, rfl, Nat.le_of_ble_eq_true rfl, Nat.le_of_ble_eq_true rfl⟩ hl.1 rfl (Nat.le_of_ble_eq_true rfl) ⟨Nat.zero_le _, Nat.zero_le _⟩ dd_Mo_acknowledge_2) hS (fun _ h => h) (fun H locs hP _ _ hS => ?_)
  refine lv_if_eq F.1 F.2.1 dd_Mo_acknowledge_5 (tgt := 26) rfl (fun h5 => absurd h5 (by decide)) (fun h5 => ?_)
  refine lv_iload_n F.1 F.2.1 dd_Mo_acknowledge_8 rfl (lv_at hl 3 rfl) ?_
  refine lv_iconst (v := nI 1) F.1 F.2.1 dd_Mo_acknowledge_9 (by decide) ?_
  refine lv_aload_n F.1 F.2.1 dd_Mo_acknowledge_10 rfl (lv_at hl 0 rfl) ?_
  refine zm_gF F hE hP rfl rfl zi_Mo 9 (by decide) rfl wf_Mo_35 rfl dd_Mo_acknowledge_11 ?_
  refine lv_iconst (v := nI 3) F.1 F.2.1 dd_Mo_acknowledge_14 (by decide) ?_
  refine lv_iload_n F.1 F.2.1 dd_Mo_acknowledge_15 rfl (lv_at hl 1 rfl) ?_
  refine zn_imul F dd_Mo_acknowledge_16 ?_
  refine lv_iload_n F.1 F.2.1 dd_Mo_acknowledge_17 rfl (lv_at hl 2 rfl) ?_
  refine zn_iadd F dd_Mo_acknowledge_18 ?_
  refine zm_iald (x := 9) (k := (3 * i) + c) (N := 6) F hE hP (by decide) (fun _ => rfl) (by omega) (by decide) dd_Mo_acknowledge_19 ?_
  refine zw_goi (zw_rS F hE hP (zc_Mo_outside lc G b0 T (nI (j + 1)) (nI 1) (T 9 ((3 * i) + c))) zk_Mo_outside za_Mo_outside wl_Mo_91 ⟨rfl, rfl, Nat.le_of_ble_eq_true rfl, Nat.le_of_ble_eq_true rfl⟩ hl.1 rfl (Nat.le_of_ble_eq_true rfl) ⟨Nat.zero_le _, Nat.zero_le _⟩ dd_Mo_acknowledge_20) hS (fun _ h => h) (fun H locs hP _ _ hS => ?_)
  refine zn_beq F dd_Mo_acknowledge_23 (tgt := 28) rfl (fun h23 => ?_) (fun h23 => absurd h23 hs)
  refine lv_iconst (v := nI 3) F.1 F.2.1 dd_Mo_acknowledge_28 (by decide) ?_
  refine lv_iload_n F.1 F.2.1 dd_Mo_acknowledge_29 rfl (lv_at hl 1 rfl) ?_
  refine zn_imul F dd_Mo_acknowledge_30 ?_
  refine lv_iload_n F.1 F.2.1 dd_Mo_acknowledge_31 rfl (lv_at hl 2 rfl) ?_
  refine zn_iadd F dd_Mo_acknowledge_32 ?_
  refine lv_istore F.1 F.2.1 dd_Mo_acknowledge_33 hl (by decide) (lv' := [(5, .int (nI ((3 * i) + c))), (0, .ref (b0 + 0)), (1, .int (nI i)), (2, .int (nI c)), (3, .int (nI (j + 1))), (4, .int h)]) rfl (fun ls hl => ?_)
  refine lv_bipush (v := nI 13) F.1 F.2.1 dd_Mo_acknowledge_35 (by decide) ?_
  refine lv_iload F.1 F.2.1 dd_Mo_acknowledge_37 (lv_at hl 0 rfl) ?_
  refine zn_imul F dd_Mo_acknowledge_39 ?_
  refine lv_iload_n F.1 F.2.1 dd_Mo_acknowledge_40 rfl (lv_at hl 4 rfl) ?_
  refine zn_iadd F dd_Mo_acknowledge_41 ?_
  refine lv_istore F.1 F.2.1 dd_Mo_acknowledge_42 hl (by decide) (lv' := [(6, .int (nI ((13 * ((3 * i) + c)) + (j + 1)))), (5, .int (nI ((3 * i) + c))), (0, .ref (b0 + 0)), (1, .int (nI i)), (2, .int (nI c)), (3, .int (nI (j + 1))), (4, .int h)]) rfl (fun ls hl => ?_)
  refine lv_aload_n F.1 F.2.1 dd_Mo_acknowledge_44 rfl (lv_at hl 2 rfl) ?_
  refine zm_gF F hE hP rfl rfl zi_Mo 7 (by decide) rfl wf_Mo_29 rfl dd_Mo_acknowledge_45 ?_
  refine lv_iload F.1 F.2.1 dd_Mo_acknowledge_48 (lv_at hl 1 rfl) ?_
  refine zm_iald (x := 7) (k := (3 * i) + c) (N := 6) F hE hP (by decide) (fun _ => rfl) (by omega) (by decide) dd_Mo_acknowledge_50 ?_
  refine lv_iconst (v := nI 3) F.1 F.2.1 dd_Mo_acknowledge_51 (by decide) ?_
  refine lv_icmp_eq F.1 F.2.1 dd_Mo_acknowledge_52 (tgt := 58) rfl (fun h52 => ?_) (fun h52 => ?_)
  · refine lv_aload_n F.1 F.2.1 dd_Mo_acknowledge_58 rfl (lv_at hl 2 rfl) ?_
    refine zm_gF F hE hP rfl rfl zi_Mo 17 (by decide) rfl wf_Mo_59 rfl dd_Mo_acknowledge_59 ?_
    refine lv_iload F.1 F.2.1 dd_Mo_acknowledge_62 (lv_at hl 0 rfl) ?_
    refine zm_iald (x := 17) (k := (13 * ((3 * i) + c)) + (j + 1)) (N := 78) F hE hP (by decide) (fun _ => rfl) (by omega) (by decide) dd_Mo_acknowledge_64 ?_
    refine lv_if_ne F.1 F.2.1 dd_Mo_acknowledge_65 (tgt := 89) rfl (fun h65 => ?_) (fun h65 => ?_)
    · refine lv_bipush (v := (-8)) F.1 F.2.1 dd_Mo_acknowledge_89 (by decide) ?_
      exact zw_iret F hr hlk hP hS (congrArg (zq_p G b0) (by rw [zu_Mo_acknowledge, if_pos h52, if_neg h65])) (by rw [zr_Mo_acknowledge, if_pos h52, if_neg h65]) dd_Mo_acknowledge_91
    · refine lv_aload_n F.1 F.2.1 dd_Mo_acknowledge_68 rfl (lv_at hl 2 rfl) ?_
      refine zm_gF F hE hP rfl rfl zi_Mo 8 (by decide) rfl wf_Mo_32 rfl dd_Mo_acknowledge_69 ?_
      refine lv_iload F.1 F.2.1 dd_Mo_acknowledge_72 (lv_at hl 1 rfl) ?_
      refine zm_zald (x := 8) (k := (3 * i) + c) (N := 6) F hE hP (by decide) (fun _ => rfl) (by omega) (by decide) dd_Mo_acknowledge_74 ?_
      refine lv_if_eq F.1 F.2.1 dd_Mo_acknowledge_75 (tgt := 92) rfl (fun h75 => ?_) (fun h75 => ?_)
      · refine lv_aload_n F.1 F.2.1 dd_Mo_acknowledge_92 rfl (lv_at hl 2 rfl) ?_
        refine zm_gF F hE hP rfl rfl zi_Mo 18 (by decide) rfl wf_Mo_62 rfl dd_Mo_acknowledge_93 ?_
        refine lv_iload F.1 F.2.1 dd_Mo_acknowledge_96 (lv_at hl 0 rfl) ?_
        refine zm_iald (x := 18) (k := (13 * ((3 * i) + c)) + (j + 1)) (N := 78) F hE hP (by decide) (fun _ => rfl) (by omega) (by decide) dd_Mo_acknowledge_98 ?_
        refine lv_if_ne F.1 F.2.1 dd_Mo_acknowledge_99 (tgt := 105) rfl (fun h99 => ?_) (fun h99 => ?_)
        · refine lv_aload_n F.1 F.2.1 dd_Mo_acknowledge_105 rfl (lv_at hl 2 rfl) ?_
          refine lv_iload_n F.1 F.2.1 dd_Mo_acknowledge_106 rfl (lv_at hl 3 rfl) ?_
          refine lv_iload F.1 F.2.1 dd_Mo_acknowledge_107 (lv_at hl 6 rfl) ?_
          refine lv_sipush (v := nI 20480) F.1 F.2.1 dd_Mo_acknowledge_109 (by decide) ?_
          refine lv_bipush (v := nI 64) F.1 F.2.1 dd_Mo_acknowledge_112 (by decide) ?_
          refine lv_iload_n F.1 F.2.1 dd_Mo_acknowledge_114 rfl (lv_at hl 4 rfl) ?_
          refine zn_imul F dd_Mo_acknowledge_115 ?_
          refine zn_iadd F dd_Mo_acknowledge_116 ?_
          refine lv_iload_n F.1 F.2.1 dd_Mo_acknowledge_117 rfl (lv_at hl 5 rfl) ?_
          refine zn_iadd F dd_Mo_acknowledge_118 ?_
          refine lv_iconst (v := nI 0) F.1 F.2.1 dd_Mo_acknowledge_119 (by decide) ?_
          refine lv_aload_n F.1 F.2.1 dd_Mo_acknowledge_120 rfl (lv_at hl 2 rfl) ?_
          refine zm_gF F hE hP rfl rfl zi_Mo 18 (by decide) rfl wf_Mo_62 rfl dd_Mo_acknowledge_121 ?_
          refine lv_iload F.1 F.2.1 dd_Mo_acknowledge_124 (lv_at hl 0 rfl) ?_
          refine zm_iald (x := 18) (k := (13 * ((3 * i) + c)) + (j + 1)) (N := 78) F hE hP (by decide) (fun _ => rfl) (by omega) (by decide) dd_Mo_acknowledge_126 ?_
          refine zw_goi (zw_rV F hE hP (zc_Mo_proof lc G b0 T i h (nI ((20480 + (64 * c)) + (j + 1))) (nI 0) (T 18 ((13 * ((3 * i) + c)) + (j + 1))) (by first | omega | assumption) (by assumption)) zk_Mo_proof za_Mo_proof zb_Mo_proof wl_Mo_128 ⟨rfl, rfl, Nat.le_of_ble_eq_true rfl, Nat.le_of_ble_eq_true rfl⟩ (zm_recv hE hP rfl rfl) hl.1 rfl (Nat.le_of_ble_eq_true rfl) ⟨Nat.zero_le _, Nat.zero_le _⟩ dd_Mo_acknowledge_127) hS (fun _ h => h) (fun H locs hP _ _ hS => ?_)
          refine lv_istore F.1 F.2.1 dd_Mo_acknowledge_130 hl (by decide) (lv' := [(7, .int (zs_pf T i h (nI ((20480 + (64 * c)) + (j + 1))) (nI 0) (T 18 ((13 * ((3 * i) + c)) + (j + 1))))), (6, .int (nI ((13 * ((3 * i) + c)) + (j + 1)))), (5, .int (nI ((3 * i) + c))), (0, .ref (b0 + 0)), (1, .int (nI i)), (2, .int (nI c)), (3, .int (nI (j + 1))), (4, .int h)]) rfl (fun ls hl => ?_)
          refine lv_iload F.1 F.2.1 dd_Mo_acknowledge_132 (lv_at hl 0 rfl) ?_
          refine lv_if_eq F.1 F.2.1 dd_Mo_acknowledge_134 (tgt := 140) rfl (fun h134 => ?_) (fun h134 => ?_)
          · refine lv_aload_n F.1 F.2.1 dd_Mo_acknowledge_140 rfl (lv_at hl 3 rfl) ?_
            refine zm_gF F hE hP rfl rfl zi_Mo 17 (by decide) rfl wf_Mo_59 rfl dd_Mo_acknowledge_141 ?_
            refine lv_iload F.1 F.2.1 dd_Mo_acknowledge_144 (lv_at hl 1 rfl) ?_
            refine lv_aload_n F.1 F.2.1 dd_Mo_acknowledge_146 rfl (lv_at hl 3 rfl) ?_
            refine zm_gF F hE hP rfl rfl zi_Mo 18 (by decide) rfl wf_Mo_62 rfl dd_Mo_acknowledge_147 ?_
            refine lv_iload F.1 F.2.1 dd_Mo_acknowledge_150 (lv_at hl 1 rfl) ?_
            refine zm_iald (x := 18) (k := (13 * ((3 * i) + c)) + (j + 1)) (N := 78) F hE hP (by decide) (fun _ => rfl) (by omega) (by decide) dd_Mo_acknowledge_152 ?_
            refine zm_iast (x := 17) (k := (13 * ((3 * i) + c)) + (j + 1)) (N := 78) F hE hP hS (fun _ h => h) (by decide) (fun _ => rfl) (by omega) (by decide)  dd_Mo_acknowledge_153 (fun H locs hP hS => ?_)
            refine lv_aload_n F.1 F.2.1 dd_Mo_acknowledge_154 rfl (lv_at hl 3 rfl) ?_
            refine zm_gF F hE hP rfl rfl zi_Mo 18 (by decide) rfl wf_Mo_62 rfl dd_Mo_acknowledge_155 ?_
            refine lv_iload F.1 F.2.1 dd_Mo_acknowledge_158 (lv_at hl 1 rfl) ?_
            refine zm_iald (x := 18) (k := (13 * ((3 * i) + c)) + (j + 1)) (N := 78) F hE hP (by decide) (fun _ => rfl) (by omega) (by decide) dd_Mo_acknowledge_160 ?_
            refine zn_top (y := T 18 ((13 * ((3 * i) + c)) + (j + 1))) (by rw [zs_wx (by decide)]) ?_
            refine lv_iconst (v := nI 2) F.1 F.2.1 dd_Mo_acknowledge_161 (by decide) ?_
            refine lv_icmp_ne F.1 F.2.1 dd_Mo_acknowledge_162 (tgt := 173) rfl (fun h162 => ?_) (fun h162 => ?_)
            · refine lv_aload_n F.1 F.2.1 dd_Mo_acknowledge_173 rfl (lv_at hl 3 rfl) ?_
              refine zm_gF F hE hP rfl rfl zi_Mo 8 (by decide) rfl wf_Mo_32 rfl dd_Mo_acknowledge_174 ?_
              refine lv_iload F.1 F.2.1 dd_Mo_acknowledge_177 (lv_at hl 2 rfl) ?_
              refine zm_zald (x := 8) (k := (3 * i) + c) (N := 6) F hE hP (by decide) (fun _ => rfl) (by omega) (by decide) dd_Mo_acknowledge_179 ?_
              refine zn_top (y := T 8 ((3 * i) + c)) (by rw [zs_wx (by decide)]) ?_
              refine lv_if_eq F.1 F.2.1 dd_Mo_acknowledge_180 (tgt := 193) rfl (fun h180 => ?_) (fun h180 => ?_)
              · refine lv_aload_n F.1 F.2.1 dd_Mo_acknowledge_193 rfl (lv_at hl 3 rfl) ?_
                refine zm_gF F hE hP rfl rfl zi_Mo 18 (by decide) rfl wf_Mo_62 rfl dd_Mo_acknowledge_194 ?_
                refine lv_iload F.1 F.2.1 dd_Mo_acknowledge_197 (lv_at hl 1 rfl) ?_
                refine zm_iald (x := 18) (k := (13 * ((3 * i) + c)) + (j + 1)) (N := 78) F hE hP (by decide) (fun _ => rfl) (by omega) (by decide) dd_Mo_acknowledge_199 ?_
                refine zn_top (y := T 18 ((13 * ((3 * i) + c)) + (j + 1))) (by rw [zs_wx (by decide)]) ?_
                exact zw_iret F hr hlk hP hS (congrArg (zq_p G b0) (by rw [zu_Mo_acknowledge, if_pos h52, if_pos h65, if_pos h75, if_neg h99, if_pos h134, if_neg h162, if_pos h180])) (by rw [zr_Mo_acknowledge, if_pos h52, if_pos h65, if_pos h75, if_neg h99, if_pos h134, if_neg h162, if_pos h180]) dd_Mo_acknowledge_200
              · refine lv_aload_n F.1 F.2.1 dd_Mo_acknowledge_183 rfl (lv_at hl 3 rfl) ?_
                refine zm_gF F hE hP rfl rfl zi_Mo 11 (by decide) rfl wf_Mo_41 rfl dd_Mo_acknowledge_184 ?_
                refine lv_iload F.1 F.2.1 dd_Mo_acknowledge_187 (lv_at hl 2 rfl) ?_
                refine lv_iload_n F.1 F.2.1 dd_Mo_acknowledge_189 rfl (lv_at hl 6 rfl) ?_
                refine lv_iconst (v := nI 1) F.1 F.2.1 dd_Mo_acknowledge_190 (by decide) ?_
                refine zn_iadd F dd_Mo_acknowledge_191 ?_
                refine zm_iast (x := 11) (k := (3 * i) + c) (N := 6) F hE hP hS (fun _ h => h) (by decide) (fun _ => rfl) (by omega) (by decide)  dd_Mo_acknowledge_192 (fun H locs hP hS => ?_)
                refine lv_aload_n F.1 F.2.1 dd_Mo_acknowledge_193 rfl (lv_at hl 3 rfl) ?_
                refine zm_gF F hE hP rfl rfl zi_Mo 18 (by decide) rfl wf_Mo_62 rfl dd_Mo_acknowledge_194 ?_
                refine lv_iload F.1 F.2.1 dd_Mo_acknowledge_197 (lv_at hl 1 rfl) ?_
                refine zm_iald (x := 18) (k := (13 * ((3 * i) + c)) + (j + 1)) (N := 78) F hE hP (by decide) (fun _ => rfl) (by omega) (by decide) dd_Mo_acknowledge_199 ?_
                refine zn_top (y := T 18 ((13 * ((3 * i) + c)) + (j + 1))) (by rw [zs_wx (by decide), zs_wx (by decide)]) ?_
                exact zw_iret F hr hlk hP hS (congrArg (zq_p G b0) (by rw [zu_Mo_acknowledge, if_pos h52, if_pos h65, if_pos h75, if_neg h99, if_pos h134, if_neg h162, if_neg h180])) (by rw [zr_Mo_acknowledge, if_pos h52, if_pos h65, if_pos h75, if_neg h99, if_pos h134, if_neg h162, if_neg h180]) dd_Mo_acknowledge_200
            · refine lv_aload_n F.1 F.2.1 dd_Mo_acknowledge_165 rfl (lv_at hl 3 rfl) ?_
              refine lv_iload_n F.1 F.2.1 dd_Mo_acknowledge_166 rfl (lv_at hl 4 rfl) ?_
              refine lv_iload_n F.1 F.2.1 dd_Mo_acknowledge_167 rfl (lv_at hl 5 rfl) ?_
              refine lv_iload F.1 F.2.1 dd_Mo_acknowledge_168 (lv_at hl 1 rfl) ?_
              refine zw_gov (zw_rV F hE hP (zc_Mo_refund lc G b0 (zs_w T 17 ((13 * ((3 * i) + c)) + (j + 1)) (T 18 ((13 * ((3 * i) + c)) + (j + 1)))) i c ((13 * ((3 * i) + c)) + (j + 1)) (zs_n (T 14 (13 * (3 * i + c) + (j + 1)))) (zs_n (T 12 (13 * (3 * i + c) + (j + 1)))) (by first | omega | assumption) (by first | omega | assumption) (by first | omega | assumption) (by rw [zs_wx (by decide)]; exact hpk.2.1.1) hpk.2.1.2 (by rw [zs_wx (by decide)]; exact hpk.1.1) hpk.1.2) zk_Mo_refund za_Mo_refund zb_Mo_refund wl_Mo_140 ⟨rfl, rfl, Nat.le_of_ble_eq_true rfl, Nat.le_of_ble_eq_true rfl⟩ (zm_recv hE hP rfl rfl) hl.1 rfl (Nat.le_of_ble_eq_true rfl) ⟨Nat.zero_le _, Nat.zero_le _⟩ dd_Mo_acknowledge_170) hS (fun _ h => h) (fun H locs hP _ _ hS => ?_)
              rw [zs_wx (by decide)] at hP
              rw [zs_wx (by decide)] at hP
              rw [zs_wx (by decide)] at hP
              rw [zs_wx (by decide)] at hP
              refine lv_aload_n F.1 F.2.1 dd_Mo_acknowledge_173 rfl (lv_at hl 3 rfl) ?_
              refine zm_gF F hE hP rfl rfl zi_Mo 8 (by decide) rfl wf_Mo_32 rfl dd_Mo_acknowledge_174 ?_
              refine lv_iload F.1 F.2.1 dd_Mo_acknowledge_177 (lv_at hl 2 rfl) ?_
              refine zm_zald (x := 8) (k := (3 * i) + c) (N := 6) F hE hP (by decide) (fun _ => rfl) (by omega) (by decide) dd_Mo_acknowledge_179 ?_
              refine zn_top (y := T 8 ((3 * i) + c)) (by rw [zs_wx (by decide), zs_wx (by decide), zs_wx (by decide)]) ?_
              refine lv_if_eq F.1 F.2.1 dd_Mo_acknowledge_180 (tgt := 193) rfl (fun h180 => ?_) (fun h180 => ?_)
              · refine lv_aload_n F.1 F.2.1 dd_Mo_acknowledge_193 rfl (lv_at hl 3 rfl) ?_
                refine zm_gF F hE hP rfl rfl zi_Mo 18 (by decide) rfl wf_Mo_62 rfl dd_Mo_acknowledge_194 ?_
                refine lv_iload F.1 F.2.1 dd_Mo_acknowledge_197 (lv_at hl 1 rfl) ?_
                refine zm_iald (x := 18) (k := (13 * ((3 * i) + c)) + (j + 1)) (N := 78) F hE hP (by decide) (fun _ => rfl) (by omega) (by decide) dd_Mo_acknowledge_199 ?_
                refine zn_top (y := T 18 ((13 * ((3 * i) + c)) + (j + 1))) (by rw [zs_wx (by decide), zs_wx (by decide), zs_wx (by decide)]) ?_
                exact zw_iret F hr hlk hP hS (congrArg (zq_p G b0) (by rw [zu_Mo_acknowledge, if_pos h52, if_pos h65, if_pos h75, if_neg h99, if_pos h134, if_pos h162, if_pos h180])) (by rw [zr_Mo_acknowledge, if_pos h52, if_pos h65, if_pos h75, if_neg h99, if_pos h134, if_pos h162, if_pos h180]) dd_Mo_acknowledge_200
              · refine lv_aload_n F.1 F.2.1 dd_Mo_acknowledge_183 rfl (lv_at hl 3 rfl) ?_
                refine zm_gF F hE hP rfl rfl zi_Mo 11 (by decide) rfl wf_Mo_41 rfl dd_Mo_acknowledge_184 ?_
                refine lv_iload F.1 F.2.1 dd_Mo_acknowledge_187 (lv_at hl 2 rfl) ?_
                refine lv_iload_n F.1 F.2.1 dd_Mo_acknowledge_189 rfl (lv_at hl 6 rfl) ?_
                refine lv_iconst (v := nI 1) F.1 F.2.1 dd_Mo_acknowledge_190 (by decide) ?_
                refine zn_iadd F dd_Mo_acknowledge_191 ?_
                refine zm_iast (x := 11) (k := (3 * i) + c) (N := 6) F hE hP hS (fun _ h => h) (by decide) (fun _ => rfl) (by omega) (by decide)  dd_Mo_acknowledge_192 (fun H locs hP hS => ?_)
                refine lv_aload_n F.1 F.2.1 dd_Mo_acknowledge_193 rfl (lv_at hl 3 rfl) ?_
                refine zm_gF F hE hP rfl rfl zi_Mo 18 (by decide) rfl wf_Mo_62 rfl dd_Mo_acknowledge_194 ?_
                refine lv_iload F.1 F.2.1 dd_Mo_acknowledge_197 (lv_at hl 1 rfl) ?_
                refine zm_iald (x := 18) (k := (13 * ((3 * i) + c)) + (j + 1)) (N := 78) F hE hP (by decide) (fun _ => rfl) (by omega) (by decide) dd_Mo_acknowledge_199 ?_
                refine zn_top (y := T 18 ((13 * ((3 * i) + c)) + (j + 1))) (by rw [zs_wx (by decide), zs_wx (by decide), zs_wx (by decide), zs_wx (by decide)]) ?_
                exact zw_iret F hr hlk hP hS (congrArg (zq_p G b0) (by rw [zu_Mo_acknowledge, if_pos h52, if_pos h65, if_pos h75, if_neg h99, if_pos h134, if_pos h162, if_neg h180])) (by rw [zr_Mo_acknowledge, if_pos h52, if_pos h65, if_pos h75, if_neg h99, if_pos h134, if_pos h162, if_neg h180]) dd_Mo_acknowledge_200
          · refine lv_iload F.1 F.2.1 dd_Mo_acknowledge_137 (lv_at hl 0 rfl) ?_
            exact zw_iret F hr hlk hP hS (congrArg (zq_p G b0) (by rw [zu_Mo_acknowledge, if_pos h52, if_pos h65, if_pos h75, if_neg h99, if_neg h134])) (by rw [zr_Mo_acknowledge, if_pos h52, if_pos h65, if_pos h75, if_neg h99, if_neg h134]) dd_Mo_acknowledge_139
        · refine lv_bipush (v := (-5)) F.1 F.2.1 dd_Mo_acknowledge_102 (by decide) ?_
          exact zw_iret F hr hlk hP hS (congrArg (zq_p G b0) (by rw [zu_Mo_acknowledge, if_pos h52, if_pos h65, if_pos h75, if_pos h99])) (by rw [zr_Mo_acknowledge, if_pos h52, if_pos h65, if_pos h75, if_pos h99]) dd_Mo_acknowledge_104
      · refine lv_iload_n F.1 F.2.1 dd_Mo_acknowledge_78 rfl (lv_at hl 5 rfl) ?_
        refine lv_aload_n F.1 F.2.1 dd_Mo_acknowledge_79 rfl (lv_at hl 2 rfl) ?_
        refine zm_gF F hE hP rfl rfl zi_Mo 11 (by decide) rfl wf_Mo_41 rfl dd_Mo_acknowledge_80 ?_
        refine lv_iload F.1 F.2.1 dd_Mo_acknowledge_83 (lv_at hl 1 rfl) ?_
        refine zm_iald (x := 11) (k := (3 * i) + c) (N := 6) F hE hP (by decide) (fun _ => rfl) (by omega) (by decide) dd_Mo_acknowledge_85 ?_
        refine lv_icmp_eq F.1 F.2.1 dd_Mo_acknowledge_86 (tgt := 92) rfl (fun h86 => ?_) (fun h86 => ?_)
        · refine lv_aload_n F.1 F.2.1 dd_Mo_acknowledge_92 rfl (lv_at hl 2 rfl) ?_
          refine zm_gF F hE hP rfl rfl zi_Mo 18 (by decide) rfl wf_Mo_62 rfl dd_Mo_acknowledge_93 ?_
          refine lv_iload F.1 F.2.1 dd_Mo_acknowledge_96 (lv_at hl 0 rfl) ?_
          refine zm_iald (x := 18) (k := (13 * ((3 * i) + c)) + (j + 1)) (N := 78) F hE hP (by decide) (fun _ => rfl) (by omega) (by decide) dd_Mo_acknowledge_98 ?_
          refine lv_if_ne F.1 F.2.1 dd_Mo_acknowledge_99 (tgt := 105) rfl (fun h99 => ?_) (fun h99 => ?_)
          · refine lv_aload_n F.1 F.2.1 dd_Mo_acknowledge_105 rfl (lv_at hl 2 rfl) ?_
            refine lv_iload_n F.1 F.2.1 dd_Mo_acknowledge_106 rfl (lv_at hl 3 rfl) ?_
            refine lv_iload F.1 F.2.1 dd_Mo_acknowledge_107 (lv_at hl 6 rfl) ?_
            refine lv_sipush (v := nI 20480) F.1 F.2.1 dd_Mo_acknowledge_109 (by decide) ?_
            refine lv_bipush (v := nI 64) F.1 F.2.1 dd_Mo_acknowledge_112 (by decide) ?_
            refine lv_iload_n F.1 F.2.1 dd_Mo_acknowledge_114 rfl (lv_at hl 4 rfl) ?_
            refine zn_imul F dd_Mo_acknowledge_115 ?_
            refine zn_iadd F dd_Mo_acknowledge_116 ?_
            refine lv_iload_n F.1 F.2.1 dd_Mo_acknowledge_117 rfl (lv_at hl 5 rfl) ?_
            refine zn_iadd F dd_Mo_acknowledge_118 ?_
            refine lv_iconst (v := nI 0) F.1 F.2.1 dd_Mo_acknowledge_119 (by decide) ?_
            refine lv_aload_n F.1 F.2.1 dd_Mo_acknowledge_120 rfl (lv_at hl 2 rfl) ?_
            refine zm_gF F hE hP rfl rfl zi_Mo 18 (by decide) rfl wf_Mo_62 rfl dd_Mo_acknowledge_121 ?_
            refine lv_iload F.1 F.2.1 dd_Mo_acknowledge_124 (lv_at hl 0 rfl) ?_
            refine zm_iald (x := 18) (k := (13 * ((3 * i) + c)) + (j + 1)) (N := 78) F hE hP (by decide) (fun _ => rfl) (by omega) (by decide) dd_Mo_acknowledge_126 ?_
            refine zw_goi (zw_rV F hE hP (zc_Mo_proof lc G b0 T i h (nI ((20480 + (64 * c)) + (j + 1))) (nI 0) (T 18 ((13 * ((3 * i) + c)) + (j + 1))) (by first | omega | assumption) (by assumption)) zk_Mo_proof za_Mo_proof zb_Mo_proof wl_Mo_128 ⟨rfl, rfl, Nat.le_of_ble_eq_true rfl, Nat.le_of_ble_eq_true rfl⟩ (zm_recv hE hP rfl rfl) hl.1 rfl (Nat.le_of_ble_eq_true rfl) ⟨Nat.zero_le _, Nat.zero_le _⟩ dd_Mo_acknowledge_127) hS (fun _ h => h) (fun H locs hP _ _ hS => ?_)
            refine lv_istore F.1 F.2.1 dd_Mo_acknowledge_130 hl (by decide) (lv' := [(7, .int (zs_pf T i h (nI ((20480 + (64 * c)) + (j + 1))) (nI 0) (T 18 ((13 * ((3 * i) + c)) + (j + 1))))), (6, .int (nI ((13 * ((3 * i) + c)) + (j + 1)))), (5, .int (nI ((3 * i) + c))), (0, .ref (b0 + 0)), (1, .int (nI i)), (2, .int (nI c)), (3, .int (nI (j + 1))), (4, .int h)]) rfl (fun ls hl => ?_)
            refine lv_iload F.1 F.2.1 dd_Mo_acknowledge_132 (lv_at hl 0 rfl) ?_
            refine lv_if_eq F.1 F.2.1 dd_Mo_acknowledge_134 (tgt := 140) rfl (fun h134 => ?_) (fun h134 => ?_)
            · refine lv_aload_n F.1 F.2.1 dd_Mo_acknowledge_140 rfl (lv_at hl 3 rfl) ?_
              refine zm_gF F hE hP rfl rfl zi_Mo 17 (by decide) rfl wf_Mo_59 rfl dd_Mo_acknowledge_141 ?_
              refine lv_iload F.1 F.2.1 dd_Mo_acknowledge_144 (lv_at hl 1 rfl) ?_
              refine lv_aload_n F.1 F.2.1 dd_Mo_acknowledge_146 rfl (lv_at hl 3 rfl) ?_
              refine zm_gF F hE hP rfl rfl zi_Mo 18 (by decide) rfl wf_Mo_62 rfl dd_Mo_acknowledge_147 ?_
              refine lv_iload F.1 F.2.1 dd_Mo_acknowledge_150 (lv_at hl 1 rfl) ?_
              refine zm_iald (x := 18) (k := (13 * ((3 * i) + c)) + (j + 1)) (N := 78) F hE hP (by decide) (fun _ => rfl) (by omega) (by decide) dd_Mo_acknowledge_152 ?_
              refine zm_iast (x := 17) (k := (13 * ((3 * i) + c)) + (j + 1)) (N := 78) F hE hP hS (fun _ h => h) (by decide) (fun _ => rfl) (by omega) (by decide)  dd_Mo_acknowledge_153 (fun H locs hP hS => ?_)
              refine lv_aload_n F.1 F.2.1 dd_Mo_acknowledge_154 rfl (lv_at hl 3 rfl) ?_
              refine zm_gF F hE hP rfl rfl zi_Mo 18 (by decide) rfl wf_Mo_62 rfl dd_Mo_acknowledge_155 ?_
              refine lv_iload F.1 F.2.1 dd_Mo_acknowledge_158 (lv_at hl 1 rfl) ?_
              refine zm_iald (x := 18) (k := (13 * ((3 * i) + c)) + (j + 1)) (N := 78) F hE hP (by decide) (fun _ => rfl) (by omega) (by decide) dd_Mo_acknowledge_160 ?_
              refine zn_top (y := T 18 ((13 * ((3 * i) + c)) + (j + 1))) (by rw [zs_wx (by decide)]) ?_
              refine lv_iconst (v := nI 2) F.1 F.2.1 dd_Mo_acknowledge_161 (by decide) ?_
              refine lv_icmp_ne F.1 F.2.1 dd_Mo_acknowledge_162 (tgt := 173) rfl (fun h162 => ?_) (fun h162 => ?_)
              · refine lv_aload_n F.1 F.2.1 dd_Mo_acknowledge_173 rfl (lv_at hl 3 rfl) ?_
                refine zm_gF F hE hP rfl rfl zi_Mo 8 (by decide) rfl wf_Mo_32 rfl dd_Mo_acknowledge_174 ?_
                refine lv_iload F.1 F.2.1 dd_Mo_acknowledge_177 (lv_at hl 2 rfl) ?_
                refine zm_zald (x := 8) (k := (3 * i) + c) (N := 6) F hE hP (by decide) (fun _ => rfl) (by omega) (by decide) dd_Mo_acknowledge_179 ?_
                refine zn_top (y := T 8 ((3 * i) + c)) (by rw [zs_wx (by decide)]) ?_
                refine lv_if_eq F.1 F.2.1 dd_Mo_acknowledge_180 (tgt := 193) rfl (fun h180 => ?_) (fun h180 => ?_)
                · refine lv_aload_n F.1 F.2.1 dd_Mo_acknowledge_193 rfl (lv_at hl 3 rfl) ?_
                  refine zm_gF F hE hP rfl rfl zi_Mo 18 (by decide) rfl wf_Mo_62 rfl dd_Mo_acknowledge_194 ?_
                  refine lv_iload F.1 F.2.1 dd_Mo_acknowledge_197 (lv_at hl 1 rfl) ?_
                  refine zm_iald (x := 18) (k := (13 * ((3 * i) + c)) + (j + 1)) (N := 78) F hE hP (by decide) (fun _ => rfl) (by omega) (by decide) dd_Mo_acknowledge_199 ?_
                  refine zn_top (y := T 18 ((13 * ((3 * i) + c)) + (j + 1))) (by rw [zs_wx (by decide)]) ?_
                  exact zw_iret F hr hlk hP hS (congrArg (zq_p G b0) (by rw [zu_Mo_acknowledge, if_pos h52, if_pos h65, if_neg h75, if_pos h86, if_neg h99, if_pos h134, if_neg h162, if_pos h180])) (by rw [zr_Mo_acknowledge, if_pos h52, if_pos h65, if_neg h75, if_pos h86, if_neg h99, if_pos h134, if_neg h162, if_pos h180]) dd_Mo_acknowledge_200
                · refine lv_aload_n F.1 F.2.1 dd_Mo_acknowledge_183 rfl (lv_at hl 3 rfl) ?_
                  refine zm_gF F hE hP rfl rfl zi_Mo 11 (by decide) rfl wf_Mo_41 rfl dd_Mo_acknowledge_184 ?_
                  refine lv_iload F.1 F.2.1 dd_Mo_acknowledge_187 (lv_at hl 2 rfl) ?_
                  refine lv_iload_n F.1 F.2.1 dd_Mo_acknowledge_189 rfl (lv_at hl 6 rfl) ?_
                  refine lv_iconst (v := nI 1) F.1 F.2.1 dd_Mo_acknowledge_190 (by decide) ?_
                  refine zn_iadd F dd_Mo_acknowledge_191 ?_
                  refine zm_iast (x := 11) (k := (3 * i) + c) (N := 6) F hE hP hS (fun _ h => h) (by decide) (fun _ => rfl) (by omega) (by decide)  dd_Mo_acknowledge_192 (fun H locs hP hS => ?_)
                  refine lv_aload_n F.1 F.2.1 dd_Mo_acknowledge_193 rfl (lv_at hl 3 rfl) ?_
                  refine zm_gF F hE hP rfl rfl zi_Mo 18 (by decide) rfl wf_Mo_62 rfl dd_Mo_acknowledge_194 ?_
                  refine lv_iload F.1 F.2.1 dd_Mo_acknowledge_197 (lv_at hl 1 rfl) ?_
                  refine zm_iald (x := 18) (k := (13 * ((3 * i) + c)) + (j + 1)) (N := 78) F hE hP (by decide) (fun _ => rfl) (by omega) (by decide) dd_Mo_acknowledge_199 ?_
                  refine zn_top (y := T 18 ((13 * ((3 * i) + c)) + (j + 1))) (by rw [zs_wx (by decide), zs_wx (by decide)]) ?_
                  exact zw_iret F hr hlk hP hS (congrArg (zq_p G b0) (by rw [zu_Mo_acknowledge, if_pos h52, if_pos h65, if_neg h75, if_pos h86, if_neg h99, if_pos h134, if_neg h162, if_neg h180])) (by rw [zr_Mo_acknowledge, if_pos h52, if_pos h65, if_neg h75, if_pos h86, if_neg h99, if_pos h134, if_neg h162, if_neg h180]) dd_Mo_acknowledge_200
              · refine lv_aload_n F.1 F.2.1 dd_Mo_acknowledge_165 rfl (lv_at hl 3 rfl) ?_
                refine lv_iload_n F.1 F.2.1 dd_Mo_acknowledge_166 rfl (lv_at hl 4 rfl) ?_
                refine lv_iload_n F.1 F.2.1 dd_Mo_acknowledge_167 rfl (lv_at hl 5 rfl) ?_
                refine lv_iload F.1 F.2.1 dd_Mo_acknowledge_168 (lv_at hl 1 rfl) ?_
                refine zw_gov (zw_rV F hE hP (zc_Mo_refund lc G b0 (zs_w T 17 ((13 * ((3 * i) + c)) + (j + 1)) (T 18 ((13 * ((3 * i) + c)) + (j + 1)))) i c ((13 * ((3 * i) + c)) + (j + 1)) (zs_n (T 14 (13 * (3 * i + c) + (j + 1)))) (zs_n (T 12 (13 * (3 * i + c) + (j + 1)))) (by first | omega | assumption) (by first | omega | assumption) (by first | omega | assumption) (by rw [zs_wx (by decide)]; exact hpk.2.1.1) hpk.2.1.2 (by rw [zs_wx (by decide)]; exact hpk.1.1) hpk.1.2) zk_Mo_refund za_Mo_refund zb_Mo_refund wl_Mo_140 ⟨rfl, rfl, Nat.le_of_ble_eq_true rfl, Nat.le_of_ble_eq_true rfl⟩ (zm_recv hE hP rfl rfl) hl.1 rfl (Nat.le_of_ble_eq_true rfl) ⟨Nat.zero_le _, Nat.zero_le _⟩ dd_Mo_acknowledge_170) hS (fun _ h => h) (fun H locs hP _ _ hS => ?_)
                rw [zs_wx (by decide)] at hP
                rw [zs_wx (by decide)] at hP
                rw [zs_wx (by decide)] at hP
                rw [zs_wx (by decide)] at hP
                refine lv_aload_n F.1 F.2.1 dd_Mo_acknowledge_173 rfl (lv_at hl 3 rfl) ?_
                refine zm_gF F hE hP rfl rfl zi_Mo 8 (by decide) rfl wf_Mo_32 rfl dd_Mo_acknowledge_174 ?_
                refine lv_iload F.1 F.2.1 dd_Mo_acknowledge_177 (lv_at hl 2 rfl) ?_
                refine zm_zald (x := 8) (k := (3 * i) + c) (N := 6) F hE hP (by decide) (fun _ => rfl) (by omega) (by decide) dd_Mo_acknowledge_179 ?_
                refine zn_top (y := T 8 ((3 * i) + c)) (by rw [zs_wx (by decide), zs_wx (by decide), zs_wx (by decide)]) ?_
                refine lv_if_eq F.1 F.2.1 dd_Mo_acknowledge_180 (tgt := 193) rfl (fun h180 => ?_) (fun h180 => ?_)
                · refine lv_aload_n F.1 F.2.1 dd_Mo_acknowledge_193 rfl (lv_at hl 3 rfl) ?_
                  refine zm_gF F hE hP rfl rfl zi_Mo 18 (by decide) rfl wf_Mo_62 rfl dd_Mo_acknowledge_194 ?_
                  refine lv_iload F.1 F.2.1 dd_Mo_acknowledge_197 (lv_at hl 1 rfl) ?_
                  refine zm_iald (x := 18) (k := (13 * ((3 * i) + c)) + (j + 1)) (N := 78) F hE hP (by decide) (fun _ => rfl) (by omega) (by decide) dd_Mo_acknowledge_199 ?_
                  refine zn_top (y := T 18 ((13 * ((3 * i) + c)) + (j + 1))) (by rw [zs_wx (by decide), zs_wx (by decide), zs_wx (by decide)]) ?_
                  exact zw_iret F hr hlk hP hS (congrArg (zq_p G b0) (by rw [zu_Mo_acknowledge, if_pos h52, if_pos h65, if_neg h75, if_pos h86, if_neg h99, if_pos h134, if_pos h162, if_pos h180])) (by rw [zr_Mo_acknowledge, if_pos h52, if_pos h65, if_neg h75, if_pos h86, if_neg h99, if_pos h134, if_pos h162, if_pos h180]) dd_Mo_acknowledge_200
                · refine lv_aload_n F.1 F.2.1 dd_Mo_acknowledge_183 rfl (lv_at hl 3 rfl) ?_
                  refine zm_gF F hE hP rfl rfl zi_Mo 11 (by decide) rfl wf_Mo_41 rfl dd_Mo_acknowledge_184 ?_
                  refine lv_iload F.1 F.2.1 dd_Mo_acknowledge_187 (lv_at hl 2 rfl) ?_
                  refine lv_iload_n F.1 F.2.1 dd_Mo_acknowledge_189 rfl (lv_at hl 6 rfl) ?_
                  refine lv_iconst (v := nI 1) F.1 F.2.1 dd_Mo_acknowledge_190 (by decide) ?_
                  refine zn_iadd F dd_Mo_acknowledge_191 ?_
                  refine zm_iast (x := 11) (k := (3 * i) + c) (N := 6) F hE hP hS (fun _ h => h) (by decide) (fun _ => rfl) (by omega) (by decide)  dd_Mo_acknowledge_192 (fun H locs hP hS => ?_)
                  refine lv_aload_n F.1 F.2.1 dd_Mo_acknowledge_193 rfl (lv_at hl 3 rfl) ?_
                  refine zm_gF F hE hP rfl rfl zi_Mo 18 (by decide) rfl wf_Mo_62 rfl dd_Mo_acknowledge_194 ?_
                  refine lv_iload F.1 F.2.1 dd_Mo_acknowledge_197 (lv_at hl 1 rfl) ?_
                  refine zm_iald (x := 18) (k := (13 * ((3 * i) + c)) + (j + 1)) (N := 78) F hE hP (by decide) (fun _ => rfl) (by omega) (by decide) dd_Mo_acknowledge_199 ?_
                  refine zn_top (y := T 18 ((13 * ((3 * i) + c)) + (j + 1))) (by rw [zs_wx (by decide), zs_wx (by decide), zs_wx (by decide), zs_wx (by decide)]) ?_
                  exact zw_iret F hr hlk hP hS (congrArg (zq_p G b0) (by rw [zu_Mo_acknowledge, if_pos h52, if_pos h65, if_neg h75, if_pos h86, if_neg h99, if_pos h134, if_pos h162, if_neg h180])) (by rw [zr_Mo_acknowledge, if_pos h52, if_pos h65, if_neg h75, if_pos h86, if_neg h99, if_pos h134, if_pos h162, if_neg h180]) dd_Mo_acknowledge_200
            · refine lv_iload F.1 F.2.1 dd_Mo_acknowledge_137 (lv_at hl 0 rfl) ?_
              exact zw_iret F hr hlk hP hS (congrArg (zq_p G b0) (by rw [zu_Mo_acknowledge, if_pos h52, if_pos h65, if_neg h75, if_pos h86, if_neg h99, if_neg h134])) (by rw [zr_Mo_acknowledge, if_pos h52, if_pos h65, if_neg h75, if_pos h86, if_neg h99, if_neg h134]) dd_Mo_acknowledge_139
          · refine lv_bipush (v := (-5)) F.1 F.2.1 dd_Mo_acknowledge_102 (by decide) ?_
            exact zw_iret F hr hlk hP hS (congrArg (zq_p G b0) (by rw [zu_Mo_acknowledge, if_pos h52, if_pos h65, if_neg h75, if_pos h86, if_pos h99])) (by rw [zr_Mo_acknowledge, if_pos h52, if_pos h65, if_neg h75, if_pos h86, if_pos h99]) dd_Mo_acknowledge_104
        · refine lv_bipush (v := (-8)) F.1 F.2.1 dd_Mo_acknowledge_89 (by decide) ?_
          exact zw_iret F hr hlk hP hS (congrArg (zq_p G b0) (by rw [zu_Mo_acknowledge, if_pos h52, if_pos h65, if_neg h75, if_neg h86])) (by rw [zr_Mo_acknowledge, if_pos h52, if_pos h65, if_neg h75, if_neg h86]) dd_Mo_acknowledge_91
  · refine lv_bipush (v := (-2)) F.1 F.2.1 dd_Mo_acknowledge_55 (by decide) ?_
    exact zw_iret F hr hlk hP hS (congrArg (zq_p G b0) (by rw [zu_Mo_acknowledge, if_neg h52])) (by rw [zr_Mo_acknowledge, if_neg h52]) dd_Mo_acknowledge_57
set_option maxHeartbeats 4000000 in
set_option maxRecDepth 100000 in
theorem zc_Mo_acknowledge_bad (lc : Launch) (G : zw_G) (b0 : Nat) (T : zs_T) (l : Int32) (d : Int32) (x : Int32) (h : Int32) (hb : ¬ (zs_v l 2 ∧ zs_v d 3)) : zw_M lc ym_Mo_acknowledge bm_Mo_acknowledge 8 (some .int) { frames := 2, cells := 0, slots := 0, locals := 43 } G b0 26 (zq_p G b0 T) [.ref (b0 + 0), .int l, .int d, .int x, .int h] (zw_Qi G b0 26 (zq_p G b0 T) (-1)) := by
  refine zw_of (by decide) (Nat.le_of_ble_eq_true rfl) ?_
  intro p e s m below meth cx ls F hr hlk hE hP hS hl
  have hl : lv_has ls 8 [(0, .ref (b0 + 0)), (1, .int l), (2, .int d), (3, .int x), (4, .int h)] := hl
  refine lv_iload_n F.1 F.2.1 dd_Mo_acknowledge_0 rfl (lv_at hl 1 rfl) ?_
  refine lv_iload_n F.1 F.2.1 dd_Mo_acknowledge_1 rfl (lv_at hl 2 rfl) ?_
  refine zw_goi (zw_rS F hE hP (zc_Mo_isEnd_bad lc G b0 T l d (by first | omega | assumption)) zk_Mo_isEnd za_Mo_isEnd wl_Mo_121 ⟨rfl, rfl, Nat.le_of_ble_eq_true rfl, Nat.le_of_ble_eq_true rfl⟩ hl.1 rfl (Nat.le_of_ble_eq_true rfl) ⟨Nat.zero_le _, Nat.zero_le _⟩ dd_Mo_acknowledge_2) hS (fun _ h => h) (fun H locs hP _ _ hS => ?_)
  refine lv_if_eq F.1 F.2.1 dd_Mo_acknowledge_5 (tgt := 26) rfl (fun h5 => ?_) (fun h5 => absurd h5 (by decide))
  refine lv_iconst (v := (-1)) F.1 F.2.1 dd_Mo_acknowledge_26 (by decide) ?_
  exact zw_iret F hr hlk hP hS rfl rfl dd_Mo_acknowledge_27
set_option maxHeartbeats 4000000 in
set_option maxRecDepth 100000 in
theorem zc_Mo_acknowledge_bad2 (lc : Launch) (G : zw_G) (b0 : Nat) (T : zs_T) (i : Nat) (c : Nat) (x : Int32) (h : Int32) (hi : i < 2) (hc : c < 3) (hb : x < nI 1 ∨ T 9 (3 * i + c) < x) : zw_M lc ym_Mo_acknowledge bm_Mo_acknowledge 8 (some .int) { frames := 2, cells := 0, slots := 0, locals := 43 } G b0 26 (zq_p G b0 T) [.ref (b0 + 0), .int (nI i), .int (nI c), .int x, .int h] (zw_Qi G b0 26 (zq_p G b0 T) (-1)) := by
  refine zw_of (by decide) (Nat.le_of_ble_eq_true rfl) ?_
  intro p e s m below meth cx ls F hr hlk hE hP hS hl
  have hl : lv_has ls 8 [(0, .ref (b0 + 0)), (1, .int (nI i)), (2, .int (nI c)), (3, .int x), (4, .int h)] := hl
  refine lv_iload_n F.1 F.2.1 dd_Mo_acknowledge_0 rfl (lv_at hl 1 rfl) ?_
  refine lv_iload_n F.1 F.2.1 dd_Mo_acknowledge_1 rfl (lv_at hl 2 rfl) ?_
  refine zw_goi (zw_rS F hE hP (zc_Mo_isEnd lc G b0 T i c (by first | omega | assumption) (by first | omega | assumption)) zk_Mo_isEnd za_Mo_isEnd wl_Mo_121 ⟨rfl, rfl, Nat.le_of_ble_eq_true rfl, Nat.le_of_ble_eq_true rfl⟩ hl.1 rfl (Nat.le_of_ble_eq_true rfl) ⟨Nat.zero_le _, Nat.zero_le _⟩ dd_Mo_acknowledge_2) hS (fun _ h => h) (fun H locs hP _ _ hS => ?_)
  refine lv_if_eq F.1 F.2.1 dd_Mo_acknowledge_5 (tgt := 26) rfl (fun h5 => absurd h5 (by decide)) (fun h5 => ?_)
  refine lv_iload_n F.1 F.2.1 dd_Mo_acknowledge_8 rfl (lv_at hl 3 rfl) ?_
  refine lv_iconst (v := nI 1) F.1 F.2.1 dd_Mo_acknowledge_9 (by decide) ?_
  refine lv_aload_n F.1 F.2.1 dd_Mo_acknowledge_10 rfl (lv_at hl 0 rfl) ?_
  refine zm_gF F hE hP rfl rfl zi_Mo 9 (by decide) rfl wf_Mo_35 rfl dd_Mo_acknowledge_11 ?_
  refine lv_iconst (v := nI 3) F.1 F.2.1 dd_Mo_acknowledge_14 (by decide) ?_
  refine lv_iload_n F.1 F.2.1 dd_Mo_acknowledge_15 rfl (lv_at hl 1 rfl) ?_
  refine zn_imul F dd_Mo_acknowledge_16 ?_
  refine lv_iload_n F.1 F.2.1 dd_Mo_acknowledge_17 rfl (lv_at hl 2 rfl) ?_
  refine zn_iadd F dd_Mo_acknowledge_18 ?_
  refine zm_iald (x := 9) (k := (3 * i) + c) (N := 6) F hE hP (by decide) (fun _ => rfl) (by omega) (by decide) dd_Mo_acknowledge_19 ?_
  refine zw_goi (zw_rS F hE hP (zc_Mo_outside lc G b0 T x (nI 1) (T 9 ((3 * i) + c))) zk_Mo_outside za_Mo_outside wl_Mo_91 ⟨rfl, rfl, Nat.le_of_ble_eq_true rfl, Nat.le_of_ble_eq_true rfl⟩ hl.1 rfl (Nat.le_of_ble_eq_true rfl) ⟨Nat.zero_le _, Nat.zero_le _⟩ dd_Mo_acknowledge_20) hS (fun _ h => h) (fun H locs hP _ _ hS => ?_)
  refine zn_beq F dd_Mo_acknowledge_23 (tgt := 28) rfl (fun h23 => absurd hb h23) (fun h23 => ?_)
  refine lv_iconst (v := (-1)) F.1 F.2.1 dd_Mo_acknowledge_26 (by decide) ?_
  exact zw_iret F hr hlk hP hS rfl rfl dd_Mo_acknowledge_27
def zr_Mo_notReceived (T : zs_T) (i : Nat) (c : Nat) (j : Nat) (h : Int32) : Int32 := if T 8 ((3 * i) + c) = 0 then (zs_pf T i h (nI ((16384 + (64 * c)) + (j + 1))) (nI 1) (nI 0)) else (if T 10 ((3 * (1 - i)) + c) ≤ nI (j + 1) then (zs_pf T i h (nI (8192 + c)) (nI 0) (T 10 ((3 * (1 - i)) + c))) else ((-5)))
set_option maxHeartbeats 4000000 in
set_option maxRecDepth 100000 in
theorem zc_Mo_notReceived (lc : Launch) (G : zw_G) (b0 : Nat) (T : zs_T) (i : Nat) (c : Nat) (j : Nat) (h : Int32) (hi : i < 2) (hc : c < 3) (hj : j < 12) (hz : ∀ q, T 4 q = nI (zs_n (T 4 q)) ∧ zs_n (T 4 q) ≤ 128) : zw_M lc ym_Mo_notReceived bm_Mo_notReceived 6 (some .int) { frames := 3, cells := 0, slots := 0, locals := 76 } G b0 26 (zq_p G b0 T) [.ref (b0 + 0), .int (nI i), .int (nI c), .int (nI (j + 1)), .int h] (zw_Qi G b0 26 (zq_p G b0 T) (zr_Mo_notReceived T i c j h)) := by
  refine zw_of (by decide) (Nat.le_of_ble_eq_true rfl) ?_
  intro p e s m below meth cx ls F hr hlk hE hP hS hl
  have hl : lv_has ls 6 [(0, .ref (b0 + 0)), (1, .int (nI i)), (2, .int (nI c)), (3, .int (nI (j + 1))), (4, .int h)] := hl
  refine lv_aload_n F.1 F.2.1 dd_Mo_notReceived_0 rfl (lv_at hl 0 rfl) ?_
  refine zm_gF F hE hP rfl rfl zi_Mo 8 (by decide) rfl wf_Mo_32 rfl dd_Mo_notReceived_1 ?_
  refine lv_iconst (v := nI 3) F.1 F.2.1 dd_Mo_notReceived_4 (by decide) ?_
  refine lv_iload_n F.1 F.2.1 dd_Mo_notReceived_5 rfl (lv_at hl 1 rfl) ?_
  refine zn_imul F dd_Mo_notReceived_6 ?_
  refine lv_iload_n F.1 F.2.1 dd_Mo_notReceived_7 rfl (lv_at hl 2 rfl) ?_
  refine zn_iadd F dd_Mo_notReceived_8 ?_
  refine zm_zald (x := 8) (k := (3 * i) + c) (N := 6) F hE hP (by decide) (fun _ => rfl) (by omega) (by decide) dd_Mo_notReceived_9 ?_
  refine lv_if_ne F.1 F.2.1 dd_Mo_notReceived_10 (tgt := 33) rfl (fun h10 => ?_) (fun h10 => ?_)
  · refine lv_aload_n F.1 F.2.1 dd_Mo_notReceived_33 rfl (lv_at hl 0 rfl) ?_
    refine zm_gF F hE hP rfl rfl zi_Mo 10 (by decide) rfl wf_Mo_38 rfl dd_Mo_notReceived_34 ?_
    refine lv_iconst (v := nI 3) F.1 F.2.1 dd_Mo_notReceived_37 (by decide) ?_
    refine lv_iconst (v := nI 1) F.1 F.2.1 dd_Mo_notReceived_38 (by decide) ?_
    refine lv_iload_n F.1 F.2.1 dd_Mo_notReceived_39 rfl (lv_at hl 1 rfl) ?_
    refine zn_isub F dd_Mo_notReceived_40 (by omega) ?_
    refine zn_imul F dd_Mo_notReceived_41 ?_
    refine lv_iload_n F.1 F.2.1 dd_Mo_notReceived_42 rfl (lv_at hl 2 rfl) ?_
    refine zn_iadd F dd_Mo_notReceived_43 ?_
    refine zm_iald (x := 10) (k := (3 * (1 - i)) + c) (N := 6) F hE hP (by decide) (fun _ => rfl) (by omega) (by decide) dd_Mo_notReceived_44 ?_
    refine lv_istore F.1 F.2.1 dd_Mo_notReceived_45 hl (by decide) (lv' := [(5, .int (T 10 ((3 * (1 - i)) + c))), (0, .ref (b0 + 0)), (1, .int (nI i)), (2, .int (nI c)), (3, .int (nI (j + 1))), (4, .int h)]) rfl (fun ls hl => ?_)
    refine lv_iload F.1 F.2.1 dd_Mo_notReceived_47 (lv_at hl 0 rfl) ?_
    refine lv_iload_n F.1 F.2.1 dd_Mo_notReceived_49 rfl (lv_at hl 4 rfl) ?_
    refine lv_icmp_le F.1 F.2.1 dd_Mo_notReceived_50 (tgt := 58) rfl (fun h50 => ?_) (fun h50 => ?_)
    · refine lv_aload_n F.1 F.2.1 dd_Mo_notReceived_58 rfl (lv_at hl 1 rfl) ?_
      refine lv_iload_n F.1 F.2.1 dd_Mo_notReceived_59 rfl (lv_at hl 2 rfl) ?_
      refine lv_iload F.1 F.2.1 dd_Mo_notReceived_60 (lv_at hl 5 rfl) ?_
      refine lv_sipush (v := nI 8192) F.1 F.2.1 dd_Mo_notReceived_62 (by decide) ?_
      refine lv_iload_n F.1 F.2.1 dd_Mo_notReceived_65 rfl (lv_at hl 3 rfl) ?_
      refine zn_iadd F dd_Mo_notReceived_66 ?_
      refine lv_iconst (v := nI 0) F.1 F.2.1 dd_Mo_notReceived_67 (by decide) ?_
      refine lv_iload F.1 F.2.1 dd_Mo_notReceived_68 (lv_at hl 0 rfl) ?_
      refine zw_goi (zw_rV F hE hP (zc_Mo_proof lc G b0 T i h (nI (8192 + c)) (nI 0) (T 10 ((3 * (1 - i)) + c)) (by first | omega | assumption) (by assumption)) zk_Mo_proof za_Mo_proof zb_Mo_proof wl_Mo_128 ⟨rfl, rfl, Nat.le_of_ble_eq_true rfl, Nat.le_of_ble_eq_true rfl⟩ (zm_recv hE hP rfl rfl) hl.1 rfl (Nat.le_of_ble_eq_true rfl) ⟨Nat.zero_le _, Nat.zero_le _⟩ dd_Mo_notReceived_70) hS (fun _ h => h) (fun H locs hP _ _ hS => ?_)
      exact zw_iret F hr hlk hP hS rfl (by rw [zr_Mo_notReceived, if_neg h10, if_pos h50]) dd_Mo_notReceived_73
    · refine lv_bipush (v := (-5)) F.1 F.2.1 dd_Mo_notReceived_53 (by decide) ?_
      refine lv_goto F.1 F.2.1 dd_Mo_notReceived_55 (tgt := 73) rfl ?_
      exact zw_iret F hr hlk hP hS rfl (by rw [zr_Mo_notReceived, if_neg h10, if_neg h50]) dd_Mo_notReceived_73
  · refine lv_aload_n F.1 F.2.1 dd_Mo_notReceived_13 rfl (lv_at hl 0 rfl) ?_
    refine lv_iload_n F.1 F.2.1 dd_Mo_notReceived_14 rfl (lv_at hl 1 rfl) ?_
    refine lv_iload F.1 F.2.1 dd_Mo_notReceived_15 (lv_at hl 4 rfl) ?_
    refine lv_sipush (v := nI 16384) F.1 F.2.1 dd_Mo_notReceived_17 (by decide) ?_
    refine lv_bipush (v := nI 64) F.1 F.2.1 dd_Mo_notReceived_20 (by decide) ?_
    refine lv_iload_n F.1 F.2.1 dd_Mo_notReceived_22 rfl (lv_at hl 2 rfl) ?_
    refine zn_imul F dd_Mo_notReceived_23 ?_
    refine zn_iadd F dd_Mo_notReceived_24 ?_
    refine lv_iload_n F.1 F.2.1 dd_Mo_notReceived_25 rfl (lv_at hl 3 rfl) ?_
    refine zn_iadd F dd_Mo_notReceived_26 ?_
    refine lv_iconst (v := nI 1) F.1 F.2.1 dd_Mo_notReceived_27 (by decide) ?_
    refine lv_iconst (v := nI 0) F.1 F.2.1 dd_Mo_notReceived_28 (by decide) ?_
    refine zw_goi (zw_rV F hE hP (zc_Mo_proof lc G b0 T i h (nI ((16384 + (64 * c)) + (j + 1))) (nI 1) (nI 0) (by first | omega | assumption) (by assumption)) zk_Mo_proof za_Mo_proof zb_Mo_proof wl_Mo_128 ⟨rfl, rfl, Nat.le_of_ble_eq_true rfl, Nat.le_of_ble_eq_true rfl⟩ (zm_recv hE hP rfl rfl) hl.1 rfl (Nat.le_of_ble_eq_true rfl) ⟨Nat.zero_le _, Nat.zero_le _⟩ dd_Mo_notReceived_29) hS (fun _ h => h) (fun H locs hP _ _ hS => ?_)
    exact zw_iret F hr hlk hP hS rfl (by rw [zr_Mo_notReceived, if_pos h10]) dd_Mo_notReceived_32
def zr_Mo_timeout (T : zs_T) (i : Nat) (c : Nat) (j : Nat) (h : Int32) (w : Int32) : Int32 := if T 17 ((13 * ((3 * i) + c)) + (j + 1)) = 0 then (if w = 0 then (if T 15 ((13 * ((3 * i) + c)) + (j + 1)) ≤ h then (if w = 0 then (if zr_Mo_notReceived T i c j h = 0 then (if T 8 ((3 * i) + c) = 0 then (nI 0) else (nI 0)) else (zr_Mo_notReceived T i c j h)) else (if zs_pf T i h (nI (4096 + c)) (nI 0) ((nI 8) + (zs_fl (T 8 ((3 * i) + c)))) = 0 then (if zr_Mo_notReceived T i c j h = 0 then (if T 8 ((3 * i) + c) = 0 then (nI 0) else (nI 0)) else (zr_Mo_notReceived T i c j h)) else (if zs_pf T i h (nI (4096 + c)) (nI 0) ((nI 8) + (zs_fl (T 8 ((3 * i) + c)))) = 0 then (if T 8 ((3 * i) + c) = 0 then (nI 0) else (nI 0)) else (zs_pf T i h (nI (4096 + c)) (nI 0) ((nI 8) + (zs_fl (T 8 ((3 * i) + c)))))))) else ((-9))) else (if w = 0 then (if zr_Mo_notReceived T i c j h = 0 then (if T 8 ((3 * i) + c) = 0 then (nI 0) else (nI 0)) else (zr_Mo_notReceived T i c j h)) else (if zs_pf T i h (nI (4096 + c)) (nI 0) ((nI 8) + (zs_fl (T 8 ((3 * i) + c)))) = 0 then (if zr_Mo_notReceived T i c j h = 0 then (if T 8 ((3 * i) + c) = 0 then (nI 0) else (nI 0)) else (zr_Mo_notReceived T i c j h)) else (if zs_pf T i h (nI (4096 + c)) (nI 0) ((nI 8) + (zs_fl (T 8 ((3 * i) + c)))) = 0 then (if T 8 ((3 * i) + c) = 0 then (nI 0) else (nI 0)) else (zs_pf T i h (nI (4096 + c)) (nI 0) ((nI 8) + (zs_fl (T 8 ((3 * i) + c))))))))) else ((-8))
def zu_Mo_timeout (T : zs_T) (i : Nat) (c : Nat) (j : Nat) (h : Int32) (w : Int32) : zs_T := if T 17 ((13 * ((3 * i) + c)) + (j + 1)) = 0 then (if w = 0 then (if T 15 ((13 * ((3 * i) + c)) + (j + 1)) ≤ h then (if w = 0 then (if zr_Mo_notReceived T i c j h = 0 then (if T 8 ((3 * i) + c) = 0 then (zs_w (zs_w (zs_w T 17 ((13 * ((3 * i) + c)) + (j + 1)) (nI 3)) 19 (24 * i + 6 * ((zs_n (T 14 (13 * (3 * i + c) + (j + 1)))) / 4) + (zs_n (T 12 (13 * (3 * i + c) + (j + 1))))) (T 19 (24 * i + 6 * ((zs_n (T 14 (13 * (3 * i + c) + (j + 1)))) / 4) + (zs_n (T 12 (13 * (3 * i + c) + (j + 1))))) + T 13 ((13 * ((3 * i) + c)) + (j + 1)))) 20 (18 * i + 6 * c + (zs_n (T 12 (13 * (3 * i + c) + (j + 1))))) (if T 16 ((13 * ((3 * i) + c)) + (j + 1)) = 0 then T 20 (18 * i + 6 * c + (zs_n (T 12 (13 * (3 * i + c) + (j + 1))))) - T 13 ((13 * ((3 * i) + c)) + (j + 1)) else T 20 (18 * i + 6 * c + (zs_n (T 12 (13 * (3 * i + c) + (j + 1))))))) else (zs_w (zs_w (zs_w (zs_w T 17 ((13 * ((3 * i) + c)) + (j + 1)) (nI 3)) 19 (24 * i + 6 * ((zs_n (T 14 (13 * (3 * i + c) + (j + 1)))) / 4) + (zs_n (T 12 (13 * (3 * i + c) + (j + 1))))) (T 19 (24 * i + 6 * ((zs_n (T 14 (13 * (3 * i + c) + (j + 1)))) / 4) + (zs_n (T 12 (13 * (3 * i + c) + (j + 1))))) + T 13 ((13 * ((3 * i) + c)) + (j + 1)))) 20 (18 * i + 6 * c + (zs_n (T 12 (13 * (3 * i + c) + (j + 1))))) (if T 16 ((13 * ((3 * i) + c)) + (j + 1)) = 0 then T 20 (18 * i + 6 * c + (zs_n (T 12 (13 * (3 * i + c) + (j + 1))))) - T 13 ((13 * ((3 * i) + c)) + (j + 1)) else T 20 (18 * i + 6 * c + (zs_n (T 12 (13 * (3 * i + c) + (j + 1))))))) 7 ((3 * i) + c) (nI 4))) else (T)) else (if zs_pf T i h (nI (4096 + c)) (nI 0) ((nI 8) + (zs_fl (T 8 ((3 * i) + c)))) = 0 then (if zr_Mo_notReceived T i c j h = 0 then (if T 8 ((3 * i) + c) = 0 then (zs_w (zs_w (zs_w T 17 ((13 * ((3 * i) + c)) + (j + 1)) (nI 3)) 19 (24 * i + 6 * ((zs_n (T 14 (13 * (3 * i + c) + (j + 1)))) / 4) + (zs_n (T 12 (13 * (3 * i + c) + (j + 1))))) (T 19 (24 * i + 6 * ((zs_n (T 14 (13 * (3 * i + c) + (j + 1)))) / 4) + (zs_n (T 12 (13 * (3 * i + c) + (j + 1))))) + T 13 ((13 * ((3 * i) + c)) + (j + 1)))) 20 (18 * i + 6 * c + (zs_n (T 12 (13 * (3 * i + c) + (j + 1))))) (if T 16 ((13 * ((3 * i) + c)) + (j + 1)) = 0 then T 20 (18 * i + 6 * c + (zs_n (T 12 (13 * (3 * i + c) + (j + 1))))) - T 13 ((13 * ((3 * i) + c)) + (j + 1)) else T 20 (18 * i + 6 * c + (zs_n (T 12 (13 * (3 * i + c) + (j + 1))))))) else (zs_w (zs_w (zs_w (zs_w T 17 ((13 * ((3 * i) + c)) + (j + 1)) (nI 3)) 19 (24 * i + 6 * ((zs_n (T 14 (13 * (3 * i + c) + (j + 1)))) / 4) + (zs_n (T 12 (13 * (3 * i + c) + (j + 1))))) (T 19 (24 * i + 6 * ((zs_n (T 14 (13 * (3 * i + c) + (j + 1)))) / 4) + (zs_n (T 12 (13 * (3 * i + c) + (j + 1))))) + T 13 ((13 * ((3 * i) + c)) + (j + 1)))) 20 (18 * i + 6 * c + (zs_n (T 12 (13 * (3 * i + c) + (j + 1))))) (if T 16 ((13 * ((3 * i) + c)) + (j + 1)) = 0 then T 20 (18 * i + 6 * c + (zs_n (T 12 (13 * (3 * i + c) + (j + 1))))) - T 13 ((13 * ((3 * i) + c)) + (j + 1)) else T 20 (18 * i + 6 * c + (zs_n (T 12 (13 * (3 * i + c) + (j + 1))))))) 7 ((3 * i) + c) (nI 4))) else (T)) else (if zs_pf T i h (nI (4096 + c)) (nI 0) ((nI 8) + (zs_fl (T 8 ((3 * i) + c)))) = 0 then (if T 8 ((3 * i) + c) = 0 then (zs_w (zs_w (zs_w T 17 ((13 * ((3 * i) + c)) + (j + 1)) (nI 3)) 19 (24 * i + 6 * ((zs_n (T 14 (13 * (3 * i + c) + (j + 1)))) / 4) + (zs_n (T 12 (13 * (3 * i + c) + (j + 1))))) (T 19 (24 * i + 6 * ((zs_n (T 14 (13 * (3 * i + c) + (j + 1)))) / 4) + (zs_n (T 12 (13 * (3 * i + c) + (j + 1))))) + T 13 ((13 * ((3 * i) + c)) + (j + 1)))) 20 (18 * i + 6 * c + (zs_n (T 12 (13 * (3 * i + c) + (j + 1))))) (if T 16 ((13 * ((3 * i) + c)) + (j + 1)) = 0 then T 20 (18 * i + 6 * c + (zs_n (T 12 (13 * (3 * i + c) + (j + 1))))) - T 13 ((13 * ((3 * i) + c)) + (j + 1)) else T 20 (18 * i + 6 * c + (zs_n (T 12 (13 * (3 * i + c) + (j + 1))))))) else (zs_w (zs_w (zs_w (zs_w T 17 ((13 * ((3 * i) + c)) + (j + 1)) (nI 3)) 19 (24 * i + 6 * ((zs_n (T 14 (13 * (3 * i + c) + (j + 1)))) / 4) + (zs_n (T 12 (13 * (3 * i + c) + (j + 1))))) (T 19 (24 * i + 6 * ((zs_n (T 14 (13 * (3 * i + c) + (j + 1)))) / 4) + (zs_n (T 12 (13 * (3 * i + c) + (j + 1))))) + T 13 ((13 * ((3 * i) + c)) + (j + 1)))) 20 (18 * i + 6 * c + (zs_n (T 12 (13 * (3 * i + c) + (j + 1))))) (if T 16 ((13 * ((3 * i) + c)) + (j + 1)) = 0 then T 20 (18 * i + 6 * c + (zs_n (T 12 (13 * (3 * i + c) + (j + 1))))) - T 13 ((13 * ((3 * i) + c)) + (j + 1)) else T 20 (18 * i + 6 * c + (zs_n (T 12 (13 * (3 * i + c) + (j + 1))))))) 7 ((3 * i) + c) (nI 4))) else (T)))) else (T)) else (if w = 0 then (if zr_Mo_notReceived T i c j h = 0 then (if T 8 ((3 * i) + c) = 0 then (zs_w (zs_w (zs_w T 17 ((13 * ((3 * i) + c)) + (j + 1)) (nI 3)) 19 (24 * i + 6 * ((zs_n (T 14 (13 * (3 * i + c) + (j + 1)))) / 4) + (zs_n (T 12 (13 * (3 * i + c) + (j + 1))))) (T 19 (24 * i + 6 * ((zs_n (T 14 (13 * (3 * i + c) + (j + 1)))) / 4) + (zs_n (T 12 (13 * (3 * i + c) + (j + 1))))) + T 13 ((13 * ((3 * i) + c)) + (j + 1)))) 20 (18 * i + 6 * c + (zs_n (T 12 (13 * (3 * i + c) + (j + 1))))) (if T 16 ((13 * ((3 * i) + c)) + (j + 1)) = 0 then T 20 (18 * i + 6 * c + (zs_n (T 12 (13 * (3 * i + c) + (j + 1))))) - T 13 ((13 * ((3 * i) + c)) + (j + 1)) else T 20 (18 * i + 6 * c + (zs_n (T 12 (13 * (3 * i + c) + (j + 1))))))) else (zs_w (zs_w (zs_w (zs_w T 17 ((13 * ((3 * i) + c)) + (j + 1)) (nI 3)) 19 (24 * i + 6 * ((zs_n (T 14 (13 * (3 * i + c) + (j + 1)))) / 4) + (zs_n (T 12 (13 * (3 * i + c) + (j + 1))))) (T 19 (24 * i + 6 * ((zs_n (T 14 (13 * (3 * i + c) + (j + 1)))) / 4) + (zs_n (T 12 (13 * (3 * i + c) + (j + 1))))) + T 13 ((13 * ((3 * i) + c)) + (j + 1)))) 20 (18 * i + 6 * c + (zs_n (T 12 (13 * (3 * i + c) + (j + 1))))) (if T 16 ((13 * ((3 * i) + c)) + (j + 1)) = 0 then T 20 (18 * i + 6 * c + (zs_n (T 12 (13 * (3 * i + c) + (j + 1))))) - T 13 ((13 * ((3 * i) + c)) + (j + 1)) else T 20 (18 * i + 6 * c + (zs_n (T 12 (13 * (3 * i + c) + (j + 1))))))) 7 ((3 * i) + c) (nI 4))) else (T)) else (if zs_pf T i h (nI (4096 + c)) (nI 0) ((nI 8) + (zs_fl (T 8 ((3 * i) + c)))) = 0 then (if zr_Mo_notReceived T i c j h = 0 then (if T 8 ((3 * i) + c) = 0 then (zs_w (zs_w (zs_w T 17 ((13 * ((3 * i) + c)) + (j + 1)) (nI 3)) 19 (24 * i + 6 * ((zs_n (T 14 (13 * (3 * i + c) + (j + 1)))) / 4) + (zs_n (T 12 (13 * (3 * i + c) + (j + 1))))) (T 19 (24 * i + 6 * ((zs_n (T 14 (13 * (3 * i + c) + (j + 1)))) / 4) + (zs_n (T 12 (13 * (3 * i + c) + (j + 1))))) + T 13 ((13 * ((3 * i) + c)) + (j + 1)))) 20 (18 * i + 6 * c + (zs_n (T 12 (13 * (3 * i + c) + (j + 1))))) (if T 16 ((13 * ((3 * i) + c)) + (j + 1)) = 0 then T 20 (18 * i + 6 * c + (zs_n (T 12 (13 * (3 * i + c) + (j + 1))))) - T 13 ((13 * ((3 * i) + c)) + (j + 1)) else T 20 (18 * i + 6 * c + (zs_n (T 12 (13 * (3 * i + c) + (j + 1))))))) else (zs_w (zs_w (zs_w (zs_w T 17 ((13 * ((3 * i) + c)) + (j + 1)) (nI 3)) 19 (24 * i + 6 * ((zs_n (T 14 (13 * (3 * i + c) + (j + 1)))) / 4) + (zs_n (T 12 (13 * (3 * i + c) + (j + 1))))) (T 19 (24 * i + 6 * ((zs_n (T 14 (13 * (3 * i + c) + (j + 1)))) / 4) + (zs_n (T 12 (13 * (3 * i + c) + (j + 1))))) + T 13 ((13 * ((3 * i) + c)) + (j + 1)))) 20 (18 * i + 6 * c + (zs_n (T 12 (13 * (3 * i + c) + (j + 1))))) (if T 16 ((13 * ((3 * i) + c)) + (j + 1)) = 0 then T 20 (18 * i + 6 * c + (zs_n (T 12 (13 * (3 * i + c) + (j + 1))))) - T 13 ((13 * ((3 * i) + c)) + (j + 1)) else T 20 (18 * i + 6 * c + (zs_n (T 12 (13 * (3 * i + c) + (j + 1))))))) 7 ((3 * i) + c) (nI 4))) else (T)) else (if zs_pf T i h (nI (4096 + c)) (nI 0) ((nI 8) + (zs_fl (T 8 ((3 * i) + c)))) = 0 then (if T 8 ((3 * i) + c) = 0 then (zs_w (zs_w (zs_w T 17 ((13 * ((3 * i) + c)) + (j + 1)) (nI 3)) 19 (24 * i + 6 * ((zs_n (T 14 (13 * (3 * i + c) + (j + 1)))) / 4) + (zs_n (T 12 (13 * (3 * i + c) + (j + 1))))) (T 19 (24 * i + 6 * ((zs_n (T 14 (13 * (3 * i + c) + (j + 1)))) / 4) + (zs_n (T 12 (13 * (3 * i + c) + (j + 1))))) + T 13 ((13 * ((3 * i) + c)) + (j + 1)))) 20 (18 * i + 6 * c + (zs_n (T 12 (13 * (3 * i + c) + (j + 1))))) (if T 16 ((13 * ((3 * i) + c)) + (j + 1)) = 0 then T 20 (18 * i + 6 * c + (zs_n (T 12 (13 * (3 * i + c) + (j + 1))))) - T 13 ((13 * ((3 * i) + c)) + (j + 1)) else T 20 (18 * i + 6 * c + (zs_n (T 12 (13 * (3 * i + c) + (j + 1))))))) else (zs_w (zs_w (zs_w (zs_w T 17 ((13 * ((3 * i) + c)) + (j + 1)) (nI 3)) 19 (24 * i + 6 * ((zs_n (T 14 (13 * (3 * i + c) + (j + 1)))) / 4) + (zs_n (T 12 (13 * (3 * i + c) + (j + 1))))) (T 19 (24 * i + 6 * ((zs_n (T 14 (13 * (3 * i + c) + (j + 1)))) / 4) + (zs_n (T 12 (13 * (3 * i + c) + (j + 1))))) + T 13 ((13 * ((3 * i) + c)) + (j + 1)))) 20 (18 * i + 6 * c + (zs_n (T 12 (13 * (3 * i + c) + (j + 1))))) (if T 16 ((13 * ((3 * i) + c)) + (j + 1)) = 0 then T 20 (18 * i + 6 * c + (zs_n (T 12 (13 * (3 * i + c) + (j + 1))))) - T 13 ((13 * ((3 * i) + c)) + (j + 1)) else T 20 (18 * i + 6 * c + (zs_n (T 12 (13 * (3 * i + c) + (j + 1))))))) 7 ((3 * i) + c) (nI 4))) else (T))))) else (T)
set_option maxHeartbeats 4000000 in
set_option maxRecDepth 100000 in
theorem zc_Mo_timeout (lc : Launch) (G : zw_G) (b0 : Nat) (T : zs_T) (i : Nat) (c : Nat) (j : Nat) (h : Int32) (w : Int32) (hi : i < 2) (hc : c < 3) (hj : j < 12) (hs : ¬ (nI (j + 1) < nI 1 ∨ T 9 (3 * i + c) < nI (j + 1))) (hpk : zs_MP T (13 * (3 * i + c) + (j + 1))) (hz : ∀ q, T 4 q = nI (zs_n (T 4 q)) ∧ zs_n (T 4 q) ≤ 128) : zw_M lc ym_Mo_timeout bm_Mo_timeout 9 (some .int) { frames := 4, cells := 0, slots := 0, locals := 101 } G b0 26 (zq_p G b0 T) [.ref (b0 + 0), .int (nI i), .int (nI c), .int (nI (j + 1)), .int h, .int w] (zw_Qi G b0 26 (zq_p G b0 (zu_Mo_timeout T i c j h w)) (zr_Mo_timeout T i c j h w)) := by
  refine zw_of (by decide) (Nat.le_of_ble_eq_true rfl) ?_
  intro p e s m below meth cx ls F hr hlk hE hP hS hl
  have hl : lv_has ls 9 [(0, .ref (b0 + 0)), (1, .int (nI i)), (2, .int (nI c)), (3, .int (nI (j + 1))), (4, .int h), (5, .int w)] := hl
  refine lv_iload_n F.1 F.2.1 dd_Mo_timeout_0 rfl (lv_at hl 1 rfl) ?_
  refine lv_iload_n F.1 F.2.1 dd_Mo_timeout_1 rfl (lv_at hl 2 rfl) ?_
  refine zw_goi (zw_rS F hE hP (zc_Mo_isEnd lc G b0 T i c (by first | omega | assumption) (by first | omega | assumption)) zk_Mo_isEnd za_Mo_isEnd wl_Mo_121 ⟨rfl, rfl, Nat.le_of_ble_eq_true rfl, Nat.le_of_ble_eq_true rfl⟩ hl.1 rfl (Nat.le_of_ble_eq_true rfl) ⟨Nat.zero_le _, Nat.zero_le _⟩ dd_Mo_timeout_2) hS (fun _ h => h) (fun H locs hP _ _ hS => ?_)
  refine lv_if_eq F.1 F.2.1 dd_Mo_timeout_5 (tgt := 26) rfl (fun h5 => absurd h5 (by decide)) (fun h5 => ?_)
  refine lv_iload_n F.1 F.2.1 dd_Mo_timeout_8 rfl (lv_at hl 3 rfl) ?_
  refine lv_iconst (v := nI 1) F.1 F.2.1 dd_Mo_timeout_9 (by decide) ?_
  refine lv_aload_n F.1 F.2.1 dd_Mo_timeout_10 rfl (lv_at hl 0 rfl) ?_
  refine zm_gF F hE hP rfl rfl zi_Mo 9 (by decide) rfl wf_Mo_35 rfl dd_Mo_timeout_11 ?_
  refine lv_iconst (v := nI 3) F.1 F.2.1 dd_Mo_timeout_14 (by decide) ?_
  refine lv_iload_n F.1 F.2.1 dd_Mo_timeout_15 rfl (lv_at hl 1 rfl) ?_
  refine zn_imul F dd_Mo_timeout_16 ?_
  refine lv_iload_n F.1 F.2.1 dd_Mo_timeout_17 rfl (lv_at hl 2 rfl) ?_
  refine zn_iadd F dd_Mo_timeout_18 ?_
  refine zm_iald (x := 9) (k := (3 * i) + c) (N := 6) F hE hP (by decide) (fun _ => rfl) (by omega) (by decide) dd_Mo_timeout_19 ?_
  refine zw_goi (zw_rS F hE hP (zc_Mo_outside lc G b0 T (nI (j + 1)) (nI 1) (T 9 ((3 * i) + c))) zk_Mo_outside za_Mo_outside wl_Mo_91 ⟨rfl, rfl, Nat.le_of_ble_eq_true rfl, Nat.le_of_ble_eq_true rfl⟩ hl.1 rfl (Nat.le_of_ble_eq_true rfl) ⟨Nat.zero_le _, Nat.zero_le _⟩ dd_Mo_timeout_20) hS (fun _ h => h) (fun H locs hP _ _ hS => ?_)
  refine zn_beq F dd_Mo_timeout_23 (tgt := 28) rfl (fun h23 => ?_) (fun h23 => absurd h23 hs)
  refine lv_iconst (v := nI 3) F.1 F.2.1 dd_Mo_timeout_28 (by decide) ?_
  refine lv_iload_n F.1 F.2.1 dd_Mo_timeout_29 rfl (lv_at hl 1 rfl) ?_
  refine zn_imul F dd_Mo_timeout_30 ?_
  refine lv_iload_n F.1 F.2.1 dd_Mo_timeout_31 rfl (lv_at hl 2 rfl) ?_
  refine zn_iadd F dd_Mo_timeout_32 ?_
  refine lv_istore F.1 F.2.1 dd_Mo_timeout_33 hl (by decide) (lv' := [(6, .int (nI ((3 * i) + c))), (0, .ref (b0 + 0)), (1, .int (nI i)), (2, .int (nI c)), (3, .int (nI (j + 1))), (4, .int h), (5, .int w)]) rfl (fun ls hl => ?_)
  refine lv_bipush (v := nI 13) F.1 F.2.1 dd_Mo_timeout_35 (by decide) ?_
  refine lv_iload F.1 F.2.1 dd_Mo_timeout_37 (lv_at hl 0 rfl) ?_
  refine zn_imul F dd_Mo_timeout_39 ?_
  refine lv_iload_n F.1 F.2.1 dd_Mo_timeout_40 rfl (lv_at hl 4 rfl) ?_
  refine zn_iadd F dd_Mo_timeout_41 ?_
  refine lv_istore F.1 F.2.1 dd_Mo_timeout_42 hl (by decide) (lv' := [(7, .int (nI ((13 * ((3 * i) + c)) + (j + 1)))), (6, .int (nI ((3 * i) + c))), (0, .ref (b0 + 0)), (1, .int (nI i)), (2, .int (nI c)), (3, .int (nI (j + 1))), (4, .int h), (5, .int w)]) rfl (fun ls hl => ?_)
  refine lv_aload_n F.1 F.2.1 dd_Mo_timeout_44 rfl (lv_at hl 2 rfl) ?_
  refine zm_gF F hE hP rfl rfl zi_Mo 17 (by decide) rfl wf_Mo_59 rfl dd_Mo_timeout_45 ?_
  refine lv_iload F.1 F.2.1 dd_Mo_timeout_48 (lv_at hl 0 rfl) ?_
  refine zm_iald (x := 17) (k := (13 * ((3 * i) + c)) + (j + 1)) (N := 78) F hE hP (by decide) (fun _ => rfl) (by omega) (by decide) dd_Mo_timeout_50 ?_
  refine lv_if_eq F.1 F.2.1 dd_Mo_timeout_51 (tgt := 57) rfl (fun h51 => ?_) (fun h51 => ?_)
  · refine lv_iload F.1 F.2.1 dd_Mo_timeout_57 (lv_at hl 7 rfl) ?_
    refine lv_if_ne F.1 F.2.1 dd_Mo_timeout_59 (tgt := 77) rfl (fun h59 => ?_) (fun h59 => ?_)
    · refine lv_iload F.1 F.2.1 dd_Mo_timeout_77 (lv_at hl 7 rfl) ?_
      refine lv_if_eq F.1 F.2.1 dd_Mo_timeout_79 (tgt := 111) rfl (fun h79 => ?_) (fun h79 => ?_)
      · refine lv_iconst (v := nI 0) F.1 F.2.1 dd_Mo_timeout_111 (by decide) ?_
        refine lv_istore F.1 F.2.1 dd_Mo_timeout_112 hl (by decide) (lv' := [(8, .int (nI 0)), (7, .int (nI ((13 * ((3 * i) + c)) + (j + 1)))), (6, .int (nI ((3 * i) + c))), (0, .ref (b0 + 0)), (1, .int (nI i)), (2, .int (nI c)), (3, .int (nI (j + 1))), (4, .int h), (5, .int w)]) rfl (fun ls hl => ?_)
        refine lv_iload F.1 F.2.1 dd_Mo_timeout_114 (lv_at hl 0 rfl) ?_
        refine lv_if_ne F.1 F.2.1 dd_Mo_timeout_116 (tgt := 131) rfl (fun h116 => absurd h116 (by decide)) (fun h116 => ?_)
        refine lv_aload_n F.1 F.2.1 dd_Mo_timeout_119 rfl (lv_at hl 3 rfl) ?_
        refine lv_iload_n F.1 F.2.1 dd_Mo_timeout_120 rfl (lv_at hl 4 rfl) ?_
        refine lv_iload_n F.1 F.2.1 dd_Mo_timeout_121 rfl (lv_at hl 5 rfl) ?_
        refine lv_iload_n F.1 F.2.1 dd_Mo_timeout_122 rfl (lv_at hl 6 rfl) ?_
        refine lv_iload F.1 F.2.1 dd_Mo_timeout_123 (lv_at hl 7 rfl) ?_
        refine zw_goi (zw_rV F hE hP (zc_Mo_notReceived lc G b0 T i c j h (by first | omega | assumption) (by first | omega | assumption) (by first | omega | assumption) (by assumption)) zk_Mo_notReceived za_Mo_notReceived zb_Mo_notReceived wl_Mo_143 ⟨rfl, rfl, Nat.le_of_ble_eq_true rfl, Nat.le_of_ble_eq_true rfl⟩ (zm_recv hE hP rfl rfl) hl.1 rfl (Nat.le_of_ble_eq_true rfl) ⟨Nat.zero_le _, Nat.zero_le _⟩ dd_Mo_timeout_125) hS (fun _ h => h) (fun H locs hP _ _ hS => ?_)
        refine lv_goto F.1 F.2.1 dd_Mo_timeout_128 (tgt := 133) rfl ?_
        refine lv_istore F.1 F.2.1 dd_Mo_timeout_133 hl (by decide) (lv' := [(8, .int (zr_Mo_notReceived T i c j h)), (7, .int (nI ((13 * ((3 * i) + c)) + (j + 1)))), (6, .int (nI ((3 * i) + c))), (0, .ref (b0 + 0)), (1, .int (nI i)), (2, .int (nI c)), (3, .int (nI (j + 1))), (4, .int h), (5, .int w)]) rfl (fun ls hl => ?_)
        refine lv_iload F.1 F.2.1 dd_Mo_timeout_135 (lv_at hl 0 rfl) ?_
        refine lv_if_eq F.1 F.2.1 dd_Mo_timeout_137 (tgt := 143) rfl (fun h137 => ?_) (fun h137 => ?_)
        · refine lv_aload_n F.1 F.2.1 dd_Mo_timeout_143 rfl (lv_at hl 3 rfl) ?_
          refine zm_gF F hE hP rfl rfl zi_Mo 17 (by decide) rfl wf_Mo_59 rfl dd_Mo_timeout_144 ?_
          refine lv_iload F.1 F.2.1 dd_Mo_timeout_147 (lv_at hl 1 rfl) ?_
          refine lv_iconst (v := nI 3) F.1 F.2.1 dd_Mo_timeout_149 (by decide) ?_
          refine zm_iast (x := 17) (k := (13 * ((3 * i) + c)) + (j + 1)) (N := 78) F hE hP hS (fun _ h => h) (by decide) (fun _ => rfl) (by omega) (by decide)  dd_Mo_timeout_150 (fun H locs hP hS => ?_)
          refine lv_aload_n F.1 F.2.1 dd_Mo_timeout_151 rfl (lv_at hl 3 rfl) ?_
          refine lv_iload_n F.1 F.2.1 dd_Mo_timeout_152 rfl (lv_at hl 4 rfl) ?_
          refine lv_iload_n F.1 F.2.1 dd_Mo_timeout_153 rfl (lv_at hl 5 rfl) ?_
          refine lv_iload F.1 F.2.1 dd_Mo_timeout_154 (lv_at hl 1 rfl) ?_
          refine zw_gov (zw_rV F hE hP (zc_Mo_refund lc G b0 (zs_w T 17 ((13 * ((3 * i) + c)) + (j + 1)) (nI 3)) i c ((13 * ((3 * i) + c)) + (j + 1)) (zs_n (T 14 (13 * (3 * i + c) + (j + 1)))) (zs_n (T 12 (13 * (3 * i + c) + (j + 1)))) (by first | omega | assumption) (by first | omega | assumption) (by first | omega | assumption) (by rw [zs_wx (by decide)]; exact hpk.2.1.1) hpk.2.1.2 (by rw [zs_wx (by decide)]; exact hpk.1.1) hpk.1.2) zk_Mo_refund za_Mo_refund zb_Mo_refund wl_Mo_140 ⟨rfl, rfl, Nat.le_of_ble_eq_true rfl, Nat.le_of_ble_eq_true rfl⟩ (zm_recv hE hP rfl rfl) hl.1 rfl (Nat.le_of_ble_eq_true rfl) ⟨Nat.zero_le _, Nat.zero_le _⟩ dd_Mo_timeout_156) hS (fun _ h => h) (fun H locs hP _ _ hS => ?_)
          rw [zs_wx (by decide)] at hP
          rw [zs_wx (by decide)] at hP
          rw [zs_wx (by decide)] at hP
          rw [zs_wx (by decide)] at hP
          refine lv_aload_n F.1 F.2.1 dd_Mo_timeout_159 rfl (lv_at hl 3 rfl) ?_
          refine zm_gF F hE hP rfl rfl zi_Mo 8 (by decide) rfl wf_Mo_32 rfl dd_Mo_timeout_160 ?_
          refine lv_iload F.1 F.2.1 dd_Mo_timeout_163 (lv_at hl 2 rfl) ?_
          refine zm_zald (x := 8) (k := (3 * i) + c) (N := 6) F hE hP (by decide) (fun _ => rfl) (by omega) (by decide) dd_Mo_timeout_165 ?_
          refine zn_top (y := T 8 ((3 * i) + c)) (by rw [zs_wx (by decide), zs_wx (by decide), zs_wx (by decide)]) ?_
          refine lv_if_eq F.1 F.2.1 dd_Mo_timeout_166 (tgt := 177) rfl (fun h166 => ?_) (fun h166 => ?_)
          · refine lv_iconst (v := nI 0) F.1 F.2.1 dd_Mo_timeout_177 (by decide) ?_
            exact zw_iret F hr hlk hP hS (congrArg (zq_p G b0) (by rw [zu_Mo_timeout, if_pos h51, if_neg h59, if_pos h79, if_pos h137, if_pos h166])) (by rw [zr_Mo_timeout, if_pos h51, if_neg h59, if_pos h79, if_pos h137, if_pos h166]) dd_Mo_timeout_178
          · refine lv_aload_n F.1 F.2.1 dd_Mo_timeout_169 rfl (lv_at hl 3 rfl) ?_
            refine zm_gF F hE hP rfl rfl zi_Mo 7 (by decide) rfl wf_Mo_29 rfl dd_Mo_timeout_170 ?_
            refine lv_iload F.1 F.2.1 dd_Mo_timeout_173 (lv_at hl 2 rfl) ?_
            refine lv_iconst (v := nI 4) F.1 F.2.1 dd_Mo_timeout_175 (by decide) ?_
            refine zm_iast (x := 7) (k := (3 * i) + c) (N := 6) F hE hP hS (fun _ h => h) (by decide) (fun _ => rfl) (by omega) (by decide)  dd_Mo_timeout_176 (fun H locs hP hS => ?_)
            refine lv_iconst (v := nI 0) F.1 F.2.1 dd_Mo_timeout_177 (by decide) ?_
            exact zw_iret F hr hlk hP hS (congrArg (zq_p G b0) (by rw [zu_Mo_timeout, if_pos h51, if_neg h59, if_pos h79, if_pos h137, if_neg h166])) (by rw [zr_Mo_timeout, if_pos h51, if_neg h59, if_pos h79, if_pos h137, if_neg h166]) dd_Mo_timeout_178
        · refine lv_iload F.1 F.2.1 dd_Mo_timeout_140 (lv_at hl 0 rfl) ?_
          exact zw_iret F hr hlk hP hS (congrArg (zq_p G b0) (by rw [zu_Mo_timeout, if_pos h51, if_neg h59, if_pos h79, if_neg h137])) (by rw [zr_Mo_timeout, if_pos h51, if_neg h59, if_pos h79, if_neg h137]) dd_Mo_timeout_142
      · refine lv_aload_n F.1 F.2.1 dd_Mo_timeout_82 rfl (lv_at hl 2 rfl) ?_
        refine lv_iload_n F.1 F.2.1 dd_Mo_timeout_83 rfl (lv_at hl 3 rfl) ?_
        refine lv_iload F.1 F.2.1 dd_Mo_timeout_84 (lv_at hl 6 rfl) ?_
        refine lv_sipush (v := nI 4096) F.1 F.2.1 dd_Mo_timeout_86 (by decide) ?_
        refine lv_iload_n F.1 F.2.1 dd_Mo_timeout_89 rfl (lv_at hl 4 rfl) ?_
        refine zn_iadd F dd_Mo_timeout_90 ?_
        refine lv_iconst (v := nI 0) F.1 F.2.1 dd_Mo_timeout_91 (by decide) ?_
        refine lv_bipush (v := nI 8) F.1 F.2.1 dd_Mo_timeout_92 (by decide) ?_
        refine lv_aload_n F.1 F.2.1 dd_Mo_timeout_94 rfl (lv_at hl 2 rfl) ?_
        refine zm_gF F hE hP rfl rfl zi_Mo 8 (by decide) rfl wf_Mo_32 rfl dd_Mo_timeout_95 ?_
        refine lv_iload F.1 F.2.1 dd_Mo_timeout_98 (lv_at hl 1 rfl) ?_
        refine zm_zald (x := 8) (k := (3 * i) + c) (N := 6) F hE hP (by decide) (fun _ => rfl) (by omega) (by decide) dd_Mo_timeout_100 ?_
        refine zw_goi (zw_rS F hE hP (zc_Mo_flag lc G b0 T (T 8 ((3 * i) + c))) zk_Mo_flag za_Mo_flag wl_Mo_124 ⟨rfl, rfl, Nat.le_of_ble_eq_true rfl, Nat.le_of_ble_eq_true rfl⟩ hl.1 rfl (Nat.le_of_ble_eq_true rfl) ⟨Nat.zero_le _, Nat.zero_le _⟩ dd_Mo_timeout_101) hS (fun _ h => h) (fun H locs hP _ _ hS => ?_)
        refine lv_iadd F.1 F.2.1 dd_Mo_timeout_104 ?_
        refine zw_goi (zw_rV F hE hP (zc_Mo_proof lc G b0 T i h (nI (4096 + c)) (nI 0) ((nI 8) + (zs_fl (T 8 ((3 * i) + c)))) (by first | omega | assumption) (by assumption)) zk_Mo_proof za_Mo_proof zb_Mo_proof wl_Mo_128 ⟨rfl, rfl, Nat.le_of_ble_eq_true rfl, Nat.le_of_ble_eq_true rfl⟩ (zm_recv hE hP rfl rfl) hl.1 rfl (Nat.le_of_ble_eq_true rfl) ⟨Nat.zero_le _, Nat.zero_le _⟩ dd_Mo_timeout_105) hS (fun _ h => h) (fun H locs hP _ _ hS => ?_)
        refine lv_goto F.1 F.2.1 dd_Mo_timeout_108 (tgt := 112) rfl ?_
        refine lv_istore F.1 F.2.1 dd_Mo_timeout_112 hl (by decide) (lv' := [(8, .int (zs_pf T i h (nI (4096 + c)) (nI 0) ((nI 8) + (zs_fl (T 8 ((3 * i) + c)))))), (7, .int (nI ((13 * ((3 * i) + c)) + (j + 1)))), (6, .int (nI ((3 * i) + c))), (0, .ref (b0 + 0)), (1, .int (nI i)), (2, .int (nI c)), (3, .int (nI (j + 1))), (4, .int h), (5, .int w)]) rfl (fun ls hl => ?_)
        refine lv_iload F.1 F.2.1 dd_Mo_timeout_114 (lv_at hl 0 rfl) ?_
        refine lv_if_ne F.1 F.2.1 dd_Mo_timeout_116 (tgt := 131) rfl (fun h116 => ?_) (fun h116 => ?_)
        · refine lv_iload F.1 F.2.1 dd_Mo_timeout_131 (lv_at hl 0 rfl) ?_
          refine lv_istore F.1 F.2.1 dd_Mo_timeout_133 hl (by decide) (lv' := [(8, .int (zs_pf T i h (nI (4096 + c)) (nI 0) ((nI 8) + (zs_fl (T 8 ((3 * i) + c)))))), (7, .int (nI ((13 * ((3 * i) + c)) + (j + 1)))), (6, .int (nI ((3 * i) + c))), (0, .ref (b0 + 0)), (1, .int (nI i)), (2, .int (nI c)), (3, .int (nI (j + 1))), (4, .int h), (5, .int w)]) rfl (fun ls hl => ?_)
          refine lv_iload F.1 F.2.1 dd_Mo_timeout_135 (lv_at hl 0 rfl) ?_
          refine lv_if_eq F.1 F.2.1 dd_Mo_timeout_137 (tgt := 143) rfl (fun h137 => ?_) (fun h137 => ?_)
          · refine lv_aload_n F.1 F.2.1 dd_Mo_timeout_143 rfl (lv_at hl 3 rfl) ?_
            refine zm_gF F hE hP rfl rfl zi_Mo 17 (by decide) rfl wf_Mo_59 rfl dd_Mo_timeout_144 ?_
            refine lv_iload F.1 F.2.1 dd_Mo_timeout_147 (lv_at hl 1 rfl) ?_
            refine lv_iconst (v := nI 3) F.1 F.2.1 dd_Mo_timeout_149 (by decide) ?_
            refine zm_iast (x := 17) (k := (13 * ((3 * i) + c)) + (j + 1)) (N := 78) F hE hP hS (fun _ h => h) (by decide) (fun _ => rfl) (by omega) (by decide)  dd_Mo_timeout_150 (fun H locs hP hS => ?_)
            refine lv_aload_n F.1 F.2.1 dd_Mo_timeout_151 rfl (lv_at hl 3 rfl) ?_
            refine lv_iload_n F.1 F.2.1 dd_Mo_timeout_152 rfl (lv_at hl 4 rfl) ?_
            refine lv_iload_n F.1 F.2.1 dd_Mo_timeout_153 rfl (lv_at hl 5 rfl) ?_
            refine lv_iload F.1 F.2.1 dd_Mo_timeout_154 (lv_at hl 1 rfl) ?_
            refine zw_gov (zw_rV F hE hP (zc_Mo_refund lc G b0 (zs_w T 17 ((13 * ((3 * i) + c)) + (j + 1)) (nI 3)) i c ((13 * ((3 * i) + c)) + (j + 1)) (zs_n (T 14 (13 * (3 * i + c) + (j + 1)))) (zs_n (T 12 (13 * (3 * i + c) + (j + 1)))) (by first | omega | assumption) (by first | omega | assumption) (by first | omega | assumption) (by rw [zs_wx (by decide)]; exact hpk.2.1.1) hpk.2.1.2 (by rw [zs_wx (by decide)]; exact hpk.1.1) hpk.1.2) zk_Mo_refund za_Mo_refund zb_Mo_refund wl_Mo_140 ⟨rfl, rfl, Nat.le_of_ble_eq_true rfl, Nat.le_of_ble_eq_true rfl⟩ (zm_recv hE hP rfl rfl) hl.1 rfl (Nat.le_of_ble_eq_true rfl) ⟨Nat.zero_le _, Nat.zero_le _⟩ dd_Mo_timeout_156) hS (fun _ h => h) (fun H locs hP _ _ hS => ?_)
            rw [zs_wx (by decide)] at hP
            rw [zs_wx (by decide)] at hP
            rw [zs_wx (by decide)] at hP
            rw [zs_wx (by decide)] at hP
            refine lv_aload_n F.1 F.2.1 dd_Mo_timeout_159 rfl (lv_at hl 3 rfl) ?_
            refine zm_gF F hE hP rfl rfl zi_Mo 8 (by decide) rfl wf_Mo_32 rfl dd_Mo_timeout_160 ?_
            refine lv_iload F.1 F.2.1 dd_Mo_timeout_163 (lv_at hl 2 rfl) ?_
            refine zm_zald (x := 8) (k := (3 * i) + c) (N := 6) F hE hP (by decide) (fun _ => rfl) (by omega) (by decide) dd_Mo_timeout_165 ?_
            refine zn_top (y := T 8 ((3 * i) + c)) (by rw [zs_wx (by decide), zs_wx (by decide), zs_wx (by decide)]) ?_
            refine lv_if_eq F.1 F.2.1 dd_Mo_timeout_166 (tgt := 177) rfl (fun h166 => ?_) (fun h166 => ?_)
            · refine lv_iconst (v := nI 0) F.1 F.2.1 dd_Mo_timeout_177 (by decide) ?_
              exact zw_iret F hr hlk hP hS (congrArg (zq_p G b0) (by rw [zu_Mo_timeout, if_pos h51, if_neg h59, if_neg h79, if_neg h116, if_pos h137, if_pos h166])) (by rw [zr_Mo_timeout, if_pos h51, if_neg h59, if_neg h79, if_neg h116, if_pos h137, if_pos h166]) dd_Mo_timeout_178
            · refine lv_aload_n F.1 F.2.1 dd_Mo_timeout_169 rfl (lv_at hl 3 rfl) ?_
              refine zm_gF F hE hP rfl rfl zi_Mo 7 (by decide) rfl wf_Mo_29 rfl dd_Mo_timeout_170 ?_
              refine lv_iload F.1 F.2.1 dd_Mo_timeout_173 (lv_at hl 2 rfl) ?_
              refine lv_iconst (v := nI 4) F.1 F.2.1 dd_Mo_timeout_175 (by decide) ?_
              refine zm_iast (x := 7) (k := (3 * i) + c) (N := 6) F hE hP hS (fun _ h => h) (by decide) (fun _ => rfl) (by omega) (by decide)  dd_Mo_timeout_176 (fun H locs hP hS => ?_)
              refine lv_iconst (v := nI 0) F.1 F.2.1 dd_Mo_timeout_177 (by decide) ?_
              exact zw_iret F hr hlk hP hS (congrArg (zq_p G b0) (by rw [zu_Mo_timeout, if_pos h51, if_neg h59, if_neg h79, if_neg h116, if_pos h137, if_neg h166])) (by rw [zr_Mo_timeout, if_pos h51, if_neg h59, if_neg h79, if_neg h116, if_pos h137, if_neg h166]) dd_Mo_timeout_178
          · refine lv_iload F.1 F.2.1 dd_Mo_timeout_140 (lv_at hl 0 rfl) ?_
            exact zw_iret F hr hlk hP hS (congrArg (zq_p G b0) (by rw [zu_Mo_timeout, if_pos h51, if_neg h59, if_neg h79, if_neg h116, if_neg h137])) (by rw [zr_Mo_timeout, if_pos h51, if_neg h59, if_neg h79, if_neg h116, if_neg h137]) dd_Mo_timeout_142
        · refine lv_aload_n F.1 F.2.1 dd_Mo_timeout_119 rfl (lv_at hl 3 rfl) ?_
          refine lv_iload_n F.1 F.2.1 dd_Mo_timeout_120 rfl (lv_at hl 4 rfl) ?_
          refine lv_iload_n F.1 F.2.1 dd_Mo_timeout_121 rfl (lv_at hl 5 rfl) ?_
          refine lv_iload_n F.1 F.2.1 dd_Mo_timeout_122 rfl (lv_at hl 6 rfl) ?_
          refine lv_iload F.1 F.2.1 dd_Mo_timeout_123 (lv_at hl 7 rfl) ?_
          refine zw_goi (zw_rV F hE hP (zc_Mo_notReceived lc G b0 T i c j h (by first | omega | assumption) (by first | omega | assumption) (by first | omega | assumption) (by assumption)) zk_Mo_notReceived za_Mo_notReceived zb_Mo_notReceived wl_Mo_143 ⟨rfl, rfl, Nat.le_of_ble_eq_true rfl, Nat.le_of_ble_eq_true rfl⟩ (zm_recv hE hP rfl rfl) hl.1 rfl (Nat.le_of_ble_eq_true rfl) ⟨Nat.zero_le _, Nat.zero_le _⟩ dd_Mo_timeout_125) hS (fun _ h => h) (fun H locs hP _ _ hS => ?_)
          refine lv_goto F.1 F.2.1 dd_Mo_timeout_128 (tgt := 133) rfl ?_
          refine lv_istore F.1 F.2.1 dd_Mo_timeout_133 hl (by decide) (lv' := [(8, .int (zr_Mo_notReceived T i c j h)), (7, .int (nI ((13 * ((3 * i) + c)) + (j + 1)))), (6, .int (nI ((3 * i) + c))), (0, .ref (b0 + 0)), (1, .int (nI i)), (2, .int (nI c)), (3, .int (nI (j + 1))), (4, .int h), (5, .int w)]) rfl (fun ls hl => ?_)
          refine lv_iload F.1 F.2.1 dd_Mo_timeout_135 (lv_at hl 0 rfl) ?_
          refine lv_if_eq F.1 F.2.1 dd_Mo_timeout_137 (tgt := 143) rfl (fun h137 => ?_) (fun h137 => ?_)
          · refine lv_aload_n F.1 F.2.1 dd_Mo_timeout_143 rfl (lv_at hl 3 rfl) ?_
            refine zm_gF F hE hP rfl rfl zi_Mo 17 (by decide) rfl wf_Mo_59 rfl dd_Mo_timeout_144 ?_
            refine lv_iload F.1 F.2.1 dd_Mo_timeout_147 (lv_at hl 1 rfl) ?_
            refine lv_iconst (v := nI 3) F.1 F.2.1 dd_Mo_timeout_149 (by decide) ?_
            refine zm_iast (x := 17) (k := (13 * ((3 * i) + c)) + (j + 1)) (N := 78) F hE hP hS (fun _ h => h) (by decide) (fun _ => rfl) (by omega) (by decide)  dd_Mo_timeout_150 (fun H locs hP hS => ?_)
            refine lv_aload_n F.1 F.2.1 dd_Mo_timeout_151 rfl (lv_at hl 3 rfl) ?_
            refine lv_iload_n F.1 F.2.1 dd_Mo_timeout_152 rfl (lv_at hl 4 rfl) ?_
            refine lv_iload_n F.1 F.2.1 dd_Mo_timeout_153 rfl (lv_at hl 5 rfl) ?_
            refine lv_iload F.1 F.2.1 dd_Mo_timeout_154 (lv_at hl 1 rfl) ?_
            refine zw_gov (zw_rV F hE hP (zc_Mo_refund lc G b0 (zs_w T 17 ((13 * ((3 * i) + c)) + (j + 1)) (nI 3)) i c ((13 * ((3 * i) + c)) + (j + 1)) (zs_n (T 14 (13 * (3 * i + c) + (j + 1)))) (zs_n (T 12 (13 * (3 * i + c) + (j + 1)))) (by first | omega | assumption) (by first | omega | assumption) (by first | omega | assumption) (by rw [zs_wx (by decide)]; exact hpk.2.1.1) hpk.2.1.2 (by rw [zs_wx (by decide)]; exact hpk.1.1) hpk.1.2) zk_Mo_refund za_Mo_refund zb_Mo_refund wl_Mo_140 ⟨rfl, rfl, Nat.le_of_ble_eq_true rfl, Nat.le_of_ble_eq_true rfl⟩ (zm_recv hE hP rfl rfl) hl.1 rfl (Nat.le_of_ble_eq_true rfl) ⟨Nat.zero_le _, Nat.zero_le _⟩ dd_Mo_timeout_156) hS (fun _ h => h) (fun H locs hP _ _ hS => ?_)
            rw [zs_wx (by decide)] at hP
            rw [zs_wx (by decide)] at hP
            rw [zs_wx (by decide)] at hP
            rw [zs_wx (by decide)] at hP
            refine lv_aload_n F.1 F.2.1 dd_Mo_timeout_159 rfl (lv_at hl 3 rfl) ?_
            refine zm_gF F hE hP rfl rfl zi_Mo 8 (by decide) rfl wf_Mo_32 rfl dd_Mo_timeout_160 ?_
            refine lv_iload F.1 F.2.1 dd_Mo_timeout_163 (lv_at hl 2 rfl) ?_
            refine zm_zald (x := 8) (k := (3 * i) + c) (N := 6) F hE hP (by decide) (fun _ => rfl) (by omega) (by decide) dd_Mo_timeout_165 ?_
            refine zn_top (y := T 8 ((3 * i) + c)) (by rw [zs_wx (by decide), zs_wx (by decide), zs_wx (by decide)]) ?_
            refine lv_if_eq F.1 F.2.1 dd_Mo_timeout_166 (tgt := 177) rfl (fun h166 => ?_) (fun h166 => ?_)
            · refine lv_iconst (v := nI 0) F.1 F.2.1 dd_Mo_timeout_177 (by decide) ?_
              exact zw_iret F hr hlk hP hS (congrArg (zq_p G b0) (by rw [zu_Mo_timeout, if_pos h51, if_neg h59, if_neg h79, if_pos h116, if_pos h137, if_pos h166])) (by rw [zr_Mo_timeout, if_pos h51, if_neg h59, if_neg h79, if_pos h116, if_pos h137, if_pos h166]) dd_Mo_timeout_178
            · refine lv_aload_n F.1 F.2.1 dd_Mo_timeout_169 rfl (lv_at hl 3 rfl) ?_
              refine zm_gF F hE hP rfl rfl zi_Mo 7 (by decide) rfl wf_Mo_29 rfl dd_Mo_timeout_170 ?_
              refine lv_iload F.1 F.2.1 dd_Mo_timeout_173 (lv_at hl 2 rfl) ?_
              refine lv_iconst (v := nI 4) F.1 F.2.1 dd_Mo_timeout_175 (by decide) ?_
              refine zm_iast (x := 7) (k := (3 * i) + c) (N := 6) F hE hP hS (fun _ h => h) (by decide) (fun _ => rfl) (by omega) (by decide)  dd_Mo_timeout_176 (fun H locs hP hS => ?_)
              refine lv_iconst (v := nI 0) F.1 F.2.1 dd_Mo_timeout_177 (by decide) ?_
              exact zw_iret F hr hlk hP hS (congrArg (zq_p G b0) (by rw [zu_Mo_timeout, if_pos h51, if_neg h59, if_neg h79, if_pos h116, if_pos h137, if_neg h166])) (by rw [zr_Mo_timeout, if_pos h51, if_neg h59, if_neg h79, if_pos h116, if_pos h137, if_neg h166]) dd_Mo_timeout_178
          · refine lv_iload F.1 F.2.1 dd_Mo_timeout_140 (lv_at hl 0 rfl) ?_
            exact zw_iret F hr hlk hP hS (congrArg (zq_p G b0) (by rw [zu_Mo_timeout, if_pos h51, if_neg h59, if_neg h79, if_pos h116, if_neg h137])) (by rw [zr_Mo_timeout, if_pos h51, if_neg h59, if_neg h79, if_pos h116, if_neg h137]) dd_Mo_timeout_142
    · refine lv_iload F.1 F.2.1 dd_Mo_timeout_62 (lv_at hl 6 rfl) ?_
      refine lv_aload_n F.1 F.2.1 dd_Mo_timeout_64 rfl (lv_at hl 2 rfl) ?_
      refine zm_gF F hE hP rfl rfl zi_Mo 15 (by decide) rfl wf_Mo_53 rfl dd_Mo_timeout_65 ?_
      refine lv_iload F.1 F.2.1 dd_Mo_timeout_68 (lv_at hl 0 rfl) ?_
      refine zm_iald (x := 15) (k := (13 * ((3 * i) + c)) + (j + 1)) (N := 78) F hE hP (by decide) (fun _ => rfl) (by omega) (by decide) dd_Mo_timeout_70 ?_
      refine lv_icmp_ge F.1 F.2.1 dd_Mo_timeout_71 (tgt := 77) rfl (fun h71 => ?_) (fun h71 => ?_)
      · refine lv_iload F.1 F.2.1 dd_Mo_timeout_77 (lv_at hl 7 rfl) ?_
        refine lv_if_eq F.1 F.2.1 dd_Mo_timeout_79 (tgt := 111) rfl (fun h79 => ?_) (fun h79 => ?_)
        · refine lv_iconst (v := nI 0) F.1 F.2.1 dd_Mo_timeout_111 (by decide) ?_
          refine lv_istore F.1 F.2.1 dd_Mo_timeout_112 hl (by decide) (lv' := [(8, .int (nI 0)), (7, .int (nI ((13 * ((3 * i) + c)) + (j + 1)))), (6, .int (nI ((3 * i) + c))), (0, .ref (b0 + 0)), (1, .int (nI i)), (2, .int (nI c)), (3, .int (nI (j + 1))), (4, .int h), (5, .int w)]) rfl (fun ls hl => ?_)
          refine lv_iload F.1 F.2.1 dd_Mo_timeout_114 (lv_at hl 0 rfl) ?_
          refine lv_if_ne F.1 F.2.1 dd_Mo_timeout_116 (tgt := 131) rfl (fun h116 => absurd h116 (by decide)) (fun h116 => ?_)
          refine lv_aload_n F.1 F.2.1 dd_Mo_timeout_119 rfl (lv_at hl 3 rfl) ?_
          refine lv_iload_n F.1 F.2.1 dd_Mo_timeout_120 rfl (lv_at hl 4 rfl) ?_
          refine lv_iload_n F.1 F.2.1 dd_Mo_timeout_121 rfl (lv_at hl 5 rfl) ?_
          refine lv_iload_n F.1 F.2.1 dd_Mo_timeout_122 rfl (lv_at hl 6 rfl) ?_
          refine lv_iload F.1 F.2.1 dd_Mo_timeout_123 (lv_at hl 7 rfl) ?_
          refine zw_goi (zw_rV F hE hP (zc_Mo_notReceived lc G b0 T i c j h (by first | omega | assumption) (by first | omega | assumption) (by first | omega | assumption) (by assumption)) zk_Mo_notReceived za_Mo_notReceived zb_Mo_notReceived wl_Mo_143 ⟨rfl, rfl, Nat.le_of_ble_eq_true rfl, Nat.le_of_ble_eq_true rfl⟩ (zm_recv hE hP rfl rfl) hl.1 rfl (Nat.le_of_ble_eq_true rfl) ⟨Nat.zero_le _, Nat.zero_le _⟩ dd_Mo_timeout_125) hS (fun _ h => h) (fun H locs hP _ _ hS => ?_)
          refine lv_goto F.1 F.2.1 dd_Mo_timeout_128 (tgt := 133) rfl ?_
          refine lv_istore F.1 F.2.1 dd_Mo_timeout_133 hl (by decide) (lv' := [(8, .int (zr_Mo_notReceived T i c j h)), (7, .int (nI ((13 * ((3 * i) + c)) + (j + 1)))), (6, .int (nI ((3 * i) + c))), (0, .ref (b0 + 0)), (1, .int (nI i)), (2, .int (nI c)), (3, .int (nI (j + 1))), (4, .int h), (5, .int w)]) rfl (fun ls hl => ?_)
          refine lv_iload F.1 F.2.1 dd_Mo_timeout_135 (lv_at hl 0 rfl) ?_
          refine lv_if_eq F.1 F.2.1 dd_Mo_timeout_137 (tgt := 143) rfl (fun h137 => ?_) (fun h137 => ?_)
          · refine lv_aload_n F.1 F.2.1 dd_Mo_timeout_143 rfl (lv_at hl 3 rfl) ?_
            refine zm_gF F hE hP rfl rfl zi_Mo 17 (by decide) rfl wf_Mo_59 rfl dd_Mo_timeout_144 ?_
            refine lv_iload F.1 F.2.1 dd_Mo_timeout_147 (lv_at hl 1 rfl) ?_
            refine lv_iconst (v := nI 3) F.1 F.2.1 dd_Mo_timeout_149 (by decide) ?_
            refine zm_iast (x := 17) (k := (13 * ((3 * i) + c)) + (j + 1)) (N := 78) F hE hP hS (fun _ h => h) (by decide) (fun _ => rfl) (by omega) (by decide)  dd_Mo_timeout_150 (fun H locs hP hS => ?_)
            refine lv_aload_n F.1 F.2.1 dd_Mo_timeout_151 rfl (lv_at hl 3 rfl) ?_
            refine lv_iload_n F.1 F.2.1 dd_Mo_timeout_152 rfl (lv_at hl 4 rfl) ?_
            refine lv_iload_n F.1 F.2.1 dd_Mo_timeout_153 rfl (lv_at hl 5 rfl) ?_
            refine lv_iload F.1 F.2.1 dd_Mo_timeout_154 (lv_at hl 1 rfl) ?_
            refine zw_gov (zw_rV F hE hP (zc_Mo_refund lc G b0 (zs_w T 17 ((13 * ((3 * i) + c)) + (j + 1)) (nI 3)) i c ((13 * ((3 * i) + c)) + (j + 1)) (zs_n (T 14 (13 * (3 * i + c) + (j + 1)))) (zs_n (T 12 (13 * (3 * i + c) + (j + 1)))) (by first | omega | assumption) (by first | omega | assumption) (by first | omega | assumption) (by rw [zs_wx (by decide)]; exact hpk.2.1.1) hpk.2.1.2 (by rw [zs_wx (by decide)]; exact hpk.1.1) hpk.1.2) zk_Mo_refund za_Mo_refund zb_Mo_refund wl_Mo_140 ⟨rfl, rfl, Nat.le_of_ble_eq_true rfl, Nat.le_of_ble_eq_true rfl⟩ (zm_recv hE hP rfl rfl) hl.1 rfl (Nat.le_of_ble_eq_true rfl) ⟨Nat.zero_le _, Nat.zero_le _⟩ dd_Mo_timeout_156) hS (fun _ h => h) (fun H locs hP _ _ hS => ?_)
            rw [zs_wx (by decide)] at hP
            rw [zs_wx (by decide)] at hP
            rw [zs_wx (by decide)] at hP
            rw [zs_wx (by decide)] at hP
            refine lv_aload_n F.1 F.2.1 dd_Mo_timeout_159 rfl (lv_at hl 3 rfl) ?_
            refine zm_gF F hE hP rfl rfl zi_Mo 8 (by decide) rfl wf_Mo_32 rfl dd_Mo_timeout_160 ?_
            refine lv_iload F.1 F.2.1 dd_Mo_timeout_163 (lv_at hl 2 rfl) ?_
            refine zm_zald (x := 8) (k := (3 * i) + c) (N := 6) F hE hP (by decide) (fun _ => rfl) (by omega) (by decide) dd_Mo_timeout_165 ?_
            refine zn_top (y := T 8 ((3 * i) + c)) (by rw [zs_wx (by decide), zs_wx (by decide), zs_wx (by decide)]) ?_
            refine lv_if_eq F.1 F.2.1 dd_Mo_timeout_166 (tgt := 177) rfl (fun h166 => ?_) (fun h166 => ?_)
            · refine lv_iconst (v := nI 0) F.1 F.2.1 dd_Mo_timeout_177 (by decide) ?_
              exact zw_iret F hr hlk hP hS (congrArg (zq_p G b0) (by rw [zu_Mo_timeout, if_pos h51, if_pos h59, if_pos h71, if_pos h79, if_pos h137, if_pos h166])) (by rw [zr_Mo_timeout, if_pos h51, if_pos h59, if_pos h71, if_pos h79, if_pos h137, if_pos h166]) dd_Mo_timeout_178
            · refine lv_aload_n F.1 F.2.1 dd_Mo_timeout_169 rfl (lv_at hl 3 rfl) ?_
              refine zm_gF F hE hP rfl rfl zi_Mo 7 (by decide) rfl wf_Mo_29 rfl dd_Mo_timeout_170 ?_
              refine lv_iload F.1 F.2.1 dd_Mo_timeout_173 (lv_at hl 2 rfl) ?_
              refine lv_iconst (v := nI 4) F.1 F.2.1 dd_Mo_timeout_175 (by decide) ?_
              refine zm_iast (x := 7) (k := (3 * i) + c) (N := 6) F hE hP hS (fun _ h => h) (by decide) (fun _ => rfl) (by omega) (by decide)  dd_Mo_timeout_176 (fun H locs hP hS => ?_)
              refine lv_iconst (v := nI 0) F.1 F.2.1 dd_Mo_timeout_177 (by decide) ?_
              exact zw_iret F hr hlk hP hS (congrArg (zq_p G b0) (by rw [zu_Mo_timeout, if_pos h51, if_pos h59, if_pos h71, if_pos h79, if_pos h137, if_neg h166])) (by rw [zr_Mo_timeout, if_pos h51, if_pos h59, if_pos h71, if_pos h79, if_pos h137, if_neg h166]) dd_Mo_timeout_178
          · refine lv_iload F.1 F.2.1 dd_Mo_timeout_140 (lv_at hl 0 rfl) ?_
            exact zw_iret F hr hlk hP hS (congrArg (zq_p G b0) (by rw [zu_Mo_timeout, if_pos h51, if_pos h59, if_pos h71, if_pos h79, if_neg h137])) (by rw [zr_Mo_timeout, if_pos h51, if_pos h59, if_pos h71, if_pos h79, if_neg h137]) dd_Mo_timeout_142
        · refine lv_aload_n F.1 F.2.1 dd_Mo_timeout_82 rfl (lv_at hl 2 rfl) ?_
          refine lv_iload_n F.1 F.2.1 dd_Mo_timeout_83 rfl (lv_at hl 3 rfl) ?_
          refine lv_iload F.1 F.2.1 dd_Mo_timeout_84 (lv_at hl 6 rfl) ?_
          refine lv_sipush (v := nI 4096) F.1 F.2.1 dd_Mo_timeout_86 (by decide) ?_
          refine lv_iload_n F.1 F.2.1 dd_Mo_timeout_89 rfl (lv_at hl 4 rfl) ?_
          refine zn_iadd F dd_Mo_timeout_90 ?_
          refine lv_iconst (v := nI 0) F.1 F.2.1 dd_Mo_timeout_91 (by decide) ?_
          refine lv_bipush (v := nI 8) F.1 F.2.1 dd_Mo_timeout_92 (by decide) ?_
          refine lv_aload_n F.1 F.2.1 dd_Mo_timeout_94 rfl (lv_at hl 2 rfl) ?_
          refine zm_gF F hE hP rfl rfl zi_Mo 8 (by decide) rfl wf_Mo_32 rfl dd_Mo_timeout_95 ?_
          refine lv_iload F.1 F.2.1 dd_Mo_timeout_98 (lv_at hl 1 rfl) ?_
          refine zm_zald (x := 8) (k := (3 * i) + c) (N := 6) F hE hP (by decide) (fun _ => rfl) (by omega) (by decide) dd_Mo_timeout_100 ?_
          refine zw_goi (zw_rS F hE hP (zc_Mo_flag lc G b0 T (T 8 ((3 * i) + c))) zk_Mo_flag za_Mo_flag wl_Mo_124 ⟨rfl, rfl, Nat.le_of_ble_eq_true rfl, Nat.le_of_ble_eq_true rfl⟩ hl.1 rfl (Nat.le_of_ble_eq_true rfl) ⟨Nat.zero_le _, Nat.zero_le _⟩ dd_Mo_timeout_101) hS (fun _ h => h) (fun H locs hP _ _ hS => ?_)
          refine lv_iadd F.1 F.2.1 dd_Mo_timeout_104 ?_
          refine zw_goi (zw_rV F hE hP (zc_Mo_proof lc G b0 T i h (nI (4096 + c)) (nI 0) ((nI 8) + (zs_fl (T 8 ((3 * i) + c)))) (by first | omega | assumption) (by assumption)) zk_Mo_proof za_Mo_proof zb_Mo_proof wl_Mo_128 ⟨rfl, rfl, Nat.le_of_ble_eq_true rfl, Nat.le_of_ble_eq_true rfl⟩ (zm_recv hE hP rfl rfl) hl.1 rfl (Nat.le_of_ble_eq_true rfl) ⟨Nat.zero_le _, Nat.zero_le _⟩ dd_Mo_timeout_105) hS (fun _ h => h) (fun H locs hP _ _ hS => ?_)
          refine lv_goto F.1 F.2.1 dd_Mo_timeout_108 (tgt := 112) rfl ?_
          refine lv_istore F.1 F.2.1 dd_Mo_timeout_112 hl (by decide) (lv' := [(8, .int (zs_pf T i h (nI (4096 + c)) (nI 0) ((nI 8) + (zs_fl (T 8 ((3 * i) + c)))))), (7, .int (nI ((13 * ((3 * i) + c)) + (j + 1)))), (6, .int (nI ((3 * i) + c))), (0, .ref (b0 + 0)), (1, .int (nI i)), (2, .int (nI c)), (3, .int (nI (j + 1))), (4, .int h), (5, .int w)]) rfl (fun ls hl => ?_)
          refine lv_iload F.1 F.2.1 dd_Mo_timeout_114 (lv_at hl 0 rfl) ?_
          refine lv_if_ne F.1 F.2.1 dd_Mo_timeout_116 (tgt := 131) rfl (fun h116 => ?_) (fun h116 => ?_)
          · refine lv_iload F.1 F.2.1 dd_Mo_timeout_131 (lv_at hl 0 rfl) ?_
            refine lv_istore F.1 F.2.1 dd_Mo_timeout_133 hl (by decide) (lv' := [(8, .int (zs_pf T i h (nI (4096 + c)) (nI 0) ((nI 8) + (zs_fl (T 8 ((3 * i) + c)))))), (7, .int (nI ((13 * ((3 * i) + c)) + (j + 1)))), (6, .int (nI ((3 * i) + c))), (0, .ref (b0 + 0)), (1, .int (nI i)), (2, .int (nI c)), (3, .int (nI (j + 1))), (4, .int h), (5, .int w)]) rfl (fun ls hl => ?_)
            refine lv_iload F.1 F.2.1 dd_Mo_timeout_135 (lv_at hl 0 rfl) ?_
            refine lv_if_eq F.1 F.2.1 dd_Mo_timeout_137 (tgt := 143) rfl (fun h137 => ?_) (fun h137 => ?_)
            · refine lv_aload_n F.1 F.2.1 dd_Mo_timeout_143 rfl (lv_at hl 3 rfl) ?_
              refine zm_gF F hE hP rfl rfl zi_Mo 17 (by decide) rfl wf_Mo_59 rfl dd_Mo_timeout_144 ?_
              refine lv_iload F.1 F.2.1 dd_Mo_timeout_147 (lv_at hl 1 rfl) ?_
              refine lv_iconst (v := nI 3) F.1 F.2.1 dd_Mo_timeout_149 (by decide) ?_
              refine zm_iast (x := 17) (k := (13 * ((3 * i) + c)) + (j + 1)) (N := 78) F hE hP hS (fun _ h => h) (by decide) (fun _ => rfl) (by omega) (by decide)  dd_Mo_timeout_150 (fun H locs hP hS => ?_)
              refine lv_aload_n F.1 F.2.1 dd_Mo_timeout_151 rfl (lv_at hl 3 rfl) ?_
              refine lv_iload_n F.1 F.2.1 dd_Mo_timeout_152 rfl (lv_at hl 4 rfl) ?_
              refine lv_iload_n F.1 F.2.1 dd_Mo_timeout_153 rfl (lv_at hl 5 rfl) ?_
              refine lv_iload F.1 F.2.1 dd_Mo_timeout_154 (lv_at hl 1 rfl) ?_
              refine zw_gov (zw_rV F hE hP (zc_Mo_refund lc G b0 (zs_w T 17 ((13 * ((3 * i) + c)) + (j + 1)) (nI 3)) i c ((13 * ((3 * i) + c)) + (j + 1)) (zs_n (T 14 (13 * (3 * i + c) + (j + 1)))) (zs_n (T 12 (13 * (3 * i + c) + (j + 1)))) (by first | omega | assumption) (by first | omega | assumption) (by first | omega | assumption) (by rw [zs_wx (by decide)]; exact hpk.2.1.1) hpk.2.1.2 (by rw [zs_wx (by decide)]; exact hpk.1.1) hpk.1.2) zk_Mo_refund za_Mo_refund zb_Mo_refund wl_Mo_140 ⟨rfl, rfl, Nat.le_of_ble_eq_true rfl, Nat.le_of_ble_eq_true rfl⟩ (zm_recv hE hP rfl rfl) hl.1 rfl (Nat.le_of_ble_eq_true rfl) ⟨Nat.zero_le _, Nat.zero_le _⟩ dd_Mo_timeout_156) hS (fun _ h => h) (fun H locs hP _ _ hS => ?_)
              rw [zs_wx (by decide)] at hP
              rw [zs_wx (by decide)] at hP
              rw [zs_wx (by decide)] at hP
              rw [zs_wx (by decide)] at hP
              refine lv_aload_n F.1 F.2.1 dd_Mo_timeout_159 rfl (lv_at hl 3 rfl) ?_
              refine zm_gF F hE hP rfl rfl zi_Mo 8 (by decide) rfl wf_Mo_32 rfl dd_Mo_timeout_160 ?_
              refine lv_iload F.1 F.2.1 dd_Mo_timeout_163 (lv_at hl 2 rfl) ?_
              refine zm_zald (x := 8) (k := (3 * i) + c) (N := 6) F hE hP (by decide) (fun _ => rfl) (by omega) (by decide) dd_Mo_timeout_165 ?_
              refine zn_top (y := T 8 ((3 * i) + c)) (by rw [zs_wx (by decide), zs_wx (by decide), zs_wx (by decide)]) ?_
              refine lv_if_eq F.1 F.2.1 dd_Mo_timeout_166 (tgt := 177) rfl (fun h166 => ?_) (fun h166 => ?_)
              · refine lv_iconst (v := nI 0) F.1 F.2.1 dd_Mo_timeout_177 (by decide) ?_
                exact zw_iret F hr hlk hP hS (congrArg (zq_p G b0) (by rw [zu_Mo_timeout, if_pos h51, if_pos h59, if_pos h71, if_neg h79, if_neg h116, if_pos h137, if_pos h166])) (by rw [zr_Mo_timeout, if_pos h51, if_pos h59, if_pos h71, if_neg h79, if_neg h116, if_pos h137, if_pos h166]) dd_Mo_timeout_178
              · refine lv_aload_n F.1 F.2.1 dd_Mo_timeout_169 rfl (lv_at hl 3 rfl) ?_
                refine zm_gF F hE hP rfl rfl zi_Mo 7 (by decide) rfl wf_Mo_29 rfl dd_Mo_timeout_170 ?_
                refine lv_iload F.1 F.2.1 dd_Mo_timeout_173 (lv_at hl 2 rfl) ?_
                refine lv_iconst (v := nI 4) F.1 F.2.1 dd_Mo_timeout_175 (by decide) ?_
                refine zm_iast (x := 7) (k := (3 * i) + c) (N := 6) F hE hP hS (fun _ h => h) (by decide) (fun _ => rfl) (by omega) (by decide)  dd_Mo_timeout_176 (fun H locs hP hS => ?_)
                refine lv_iconst (v := nI 0) F.1 F.2.1 dd_Mo_timeout_177 (by decide) ?_
                exact zw_iret F hr hlk hP hS (congrArg (zq_p G b0) (by rw [zu_Mo_timeout, if_pos h51, if_pos h59, if_pos h71, if_neg h79, if_neg h116, if_pos h137, if_neg h166])) (by rw [zr_Mo_timeout, if_pos h51, if_pos h59, if_pos h71, if_neg h79, if_neg h116, if_pos h137, if_neg h166]) dd_Mo_timeout_178
            · refine lv_iload F.1 F.2.1 dd_Mo_timeout_140 (lv_at hl 0 rfl) ?_
              exact zw_iret F hr hlk hP hS (congrArg (zq_p G b0) (by rw [zu_Mo_timeout, if_pos h51, if_pos h59, if_pos h71, if_neg h79, if_neg h116, if_neg h137])) (by rw [zr_Mo_timeout, if_pos h51, if_pos h59, if_pos h71, if_neg h79, if_neg h116, if_neg h137]) dd_Mo_timeout_142
          · refine lv_aload_n F.1 F.2.1 dd_Mo_timeout_119 rfl (lv_at hl 3 rfl) ?_
            refine lv_iload_n F.1 F.2.1 dd_Mo_timeout_120 rfl (lv_at hl 4 rfl) ?_
            refine lv_iload_n F.1 F.2.1 dd_Mo_timeout_121 rfl (lv_at hl 5 rfl) ?_
            refine lv_iload_n F.1 F.2.1 dd_Mo_timeout_122 rfl (lv_at hl 6 rfl) ?_
            refine lv_iload F.1 F.2.1 dd_Mo_timeout_123 (lv_at hl 7 rfl) ?_
            refine zw_goi (zw_rV F hE hP (zc_Mo_notReceived lc G b0 T i c j h (by first | omega | assumption) (by first | omega | assumption) (by first | omega | assumption) (by assumption)) zk_Mo_notReceived za_Mo_notReceived zb_Mo_notReceived wl_Mo_143 ⟨rfl, rfl, Nat.le_of_ble_eq_true rfl, Nat.le_of_ble_eq_true rfl⟩ (zm_recv hE hP rfl rfl) hl.1 rfl (Nat.le_of_ble_eq_true rfl) ⟨Nat.zero_le _, Nat.zero_le _⟩ dd_Mo_timeout_125) hS (fun _ h => h) (fun H locs hP _ _ hS => ?_)
            refine lv_goto F.1 F.2.1 dd_Mo_timeout_128 (tgt := 133) rfl ?_
            refine lv_istore F.1 F.2.1 dd_Mo_timeout_133 hl (by decide) (lv' := [(8, .int (zr_Mo_notReceived T i c j h)), (7, .int (nI ((13 * ((3 * i) + c)) + (j + 1)))), (6, .int (nI ((3 * i) + c))), (0, .ref (b0 + 0)), (1, .int (nI i)), (2, .int (nI c)), (3, .int (nI (j + 1))), (4, .int h), (5, .int w)]) rfl (fun ls hl => ?_)
            refine lv_iload F.1 F.2.1 dd_Mo_timeout_135 (lv_at hl 0 rfl) ?_
            refine lv_if_eq F.1 F.2.1 dd_Mo_timeout_137 (tgt := 143) rfl (fun h137 => ?_) (fun h137 => ?_)
            · refine lv_aload_n F.1 F.2.1 dd_Mo_timeout_143 rfl (lv_at hl 3 rfl) ?_
              refine zm_gF F hE hP rfl rfl zi_Mo 17 (by decide) rfl wf_Mo_59 rfl dd_Mo_timeout_144 ?_
              refine lv_iload F.1 F.2.1 dd_Mo_timeout_147 (lv_at hl 1 rfl) ?_
              refine lv_iconst (v := nI 3) F.1 F.2.1 dd_Mo_timeout_149 (by decide) ?_
              refine zm_iast (x := 17) (k := (13 * ((3 * i) + c)) + (j + 1)) (N := 78) F hE hP hS (fun _ h => h) (by decide) (fun _ => rfl) (by omega) (by decide)  dd_Mo_timeout_150 (fun H locs hP hS => ?_)
              refine lv_aload_n F.1 F.2.1 dd_Mo_timeout_151 rfl (lv_at hl 3 rfl) ?_
              refine lv_iload_n F.1 F.2.1 dd_Mo_timeout_152 rfl (lv_at hl 4 rfl) ?_
              refine lv_iload_n F.1 F.2.1 dd_Mo_timeout_153 rfl (lv_at hl 5 rfl) ?_
              refine lv_iload F.1 F.2.1 dd_Mo_timeout_154 (lv_at hl 1 rfl) ?_
              refine zw_gov (zw_rV F hE hP (zc_Mo_refund lc G b0 (zs_w T 17 ((13 * ((3 * i) + c)) + (j + 1)) (nI 3)) i c ((13 * ((3 * i) + c)) + (j + 1)) (zs_n (T 14 (13 * (3 * i + c) + (j + 1)))) (zs_n (T 12 (13 * (3 * i + c) + (j + 1)))) (by first | omega | assumption) (by first | omega | assumption) (by first | omega | assumption) (by rw [zs_wx (by decide)]; exact hpk.2.1.1) hpk.2.1.2 (by rw [zs_wx (by decide)]; exact hpk.1.1) hpk.1.2) zk_Mo_refund za_Mo_refund zb_Mo_refund wl_Mo_140 ⟨rfl, rfl, Nat.le_of_ble_eq_true rfl, Nat.le_of_ble_eq_true rfl⟩ (zm_recv hE hP rfl rfl) hl.1 rfl (Nat.le_of_ble_eq_true rfl) ⟨Nat.zero_le _, Nat.zero_le _⟩ dd_Mo_timeout_156) hS (fun _ h => h) (fun H locs hP _ _ hS => ?_)
              rw [zs_wx (by decide)] at hP
              rw [zs_wx (by decide)] at hP
              rw [zs_wx (by decide)] at hP
              rw [zs_wx (by decide)] at hP
              refine lv_aload_n F.1 F.2.1 dd_Mo_timeout_159 rfl (lv_at hl 3 rfl) ?_
              refine zm_gF F hE hP rfl rfl zi_Mo 8 (by decide) rfl wf_Mo_32 rfl dd_Mo_timeout_160 ?_
              refine lv_iload F.1 F.2.1 dd_Mo_timeout_163 (lv_at hl 2 rfl) ?_
              refine zm_zald (x := 8) (k := (3 * i) + c) (N := 6) F hE hP (by decide) (fun _ => rfl) (by omega) (by decide) dd_Mo_timeout_165 ?_
              refine zn_top (y := T 8 ((3 * i) + c)) (by rw [zs_wx (by decide), zs_wx (by decide), zs_wx (by decide)]) ?_
              refine lv_if_eq F.1 F.2.1 dd_Mo_timeout_166 (tgt := 177) rfl (fun h166 => ?_) (fun h166 => ?_)
              · refine lv_iconst (v := nI 0) F.1 F.2.1 dd_Mo_timeout_177 (by decide) ?_
                exact zw_iret F hr hlk hP hS (congrArg (zq_p G b0) (by rw [zu_Mo_timeout, if_pos h51, if_pos h59, if_pos h71, if_neg h79, if_pos h116, if_pos h137, if_pos h166])) (by rw [zr_Mo_timeout, if_pos h51, if_pos h59, if_pos h71, if_neg h79, if_pos h116, if_pos h137, if_pos h166]) dd_Mo_timeout_178
              · refine lv_aload_n F.1 F.2.1 dd_Mo_timeout_169 rfl (lv_at hl 3 rfl) ?_
                refine zm_gF F hE hP rfl rfl zi_Mo 7 (by decide) rfl wf_Mo_29 rfl dd_Mo_timeout_170 ?_
                refine lv_iload F.1 F.2.1 dd_Mo_timeout_173 (lv_at hl 2 rfl) ?_
                refine lv_iconst (v := nI 4) F.1 F.2.1 dd_Mo_timeout_175 (by decide) ?_
                refine zm_iast (x := 7) (k := (3 * i) + c) (N := 6) F hE hP hS (fun _ h => h) (by decide) (fun _ => rfl) (by omega) (by decide)  dd_Mo_timeout_176 (fun H locs hP hS => ?_)
                refine lv_iconst (v := nI 0) F.1 F.2.1 dd_Mo_timeout_177 (by decide) ?_
                exact zw_iret F hr hlk hP hS (congrArg (zq_p G b0) (by rw [zu_Mo_timeout, if_pos h51, if_pos h59, if_pos h71, if_neg h79, if_pos h116, if_pos h137, if_neg h166])) (by rw [zr_Mo_timeout, if_pos h51, if_pos h59, if_pos h71, if_neg h79, if_pos h116, if_pos h137, if_neg h166]) dd_Mo_timeout_178
            · refine lv_iload F.1 F.2.1 dd_Mo_timeout_140 (lv_at hl 0 rfl) ?_
              exact zw_iret F hr hlk hP hS (congrArg (zq_p G b0) (by rw [zu_Mo_timeout, if_pos h51, if_pos h59, if_pos h71, if_neg h79, if_pos h116, if_neg h137])) (by rw [zr_Mo_timeout, if_pos h51, if_pos h59, if_pos h71, if_neg h79, if_pos h116, if_neg h137]) dd_Mo_timeout_142
      · refine lv_bipush (v := (-9)) F.1 F.2.1 dd_Mo_timeout_74 (by decide) ?_
        exact zw_iret F hr hlk hP hS (congrArg (zq_p G b0) (by rw [zu_Mo_timeout, if_pos h51, if_pos h59, if_neg h71])) (by rw [zr_Mo_timeout, if_pos h51, if_pos h59, if_neg h71]) dd_Mo_timeout_76
  · refine lv_bipush (v := (-8)) F.1 F.2.1 dd_Mo_timeout_54 (by decide) ?_
    exact zw_iret F hr hlk hP hS (congrArg (zq_p G b0) (by rw [zu_Mo_timeout, if_neg h51])) (by rw [zr_Mo_timeout, if_neg h51]) dd_Mo_timeout_56
