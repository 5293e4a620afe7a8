set_option maxHeartbeats 4000000 in
set_option maxRecDepth 100000 in
theorem zc_Mo_timeout_bad (lc : Launch) (G : zw_G) (b0 : Nat) (T : zs_T) (l : Int32) (d : Int32) (x : Int32) (h : Int32) (w : Int32) (hb : ¬ (zs_v l 2 ∧ zs_v d 3)) : zw_M lc ym_Mo_timeout bm_Mo_timeout 9 (some .int) { frames := 2, cells := 0, slots := 0, locals := 43 } G b0 26 (zq_p G b0 T) [.ref (b0 + 0), .int l, .int d, .int x, .int h, .int w] (zw_Qi G b0 26 (zq_p G b0 T) (-1)) := by
  refine zw_of (by decide) (Nat.le_of_ble_eq_true rfl) ?_
  intro p e s m below meth cx ls F hr hlk hE hP hS hl
  have hl : lv_has ls 9 [(0, .ref (b0 + 0)), (1, .int l), (2, .int d), (3, .int x), (4, .int h), (5, .int w)] := hl
  refine lv_iload_n F.1 F.2.1 dd_Mo_timeout_0 rfl (lv_at hl 1 rfl) ?_
  refine lv_iload_n F.1 F.2.1 dd_Mo_timeout_1 rfl (lv_at hl 2 rfl) ?_
  refine zw_goi (zw_rS F hE hP (zc_Mo_isEnd_bad lc G b0 T l d (by first | omega | assumption)) zk_Mo_isEnd za_Mo_isEnd wl_Mo_121 ⟨rfl, rfl, Nat.le_of_ble_eq_true rfl, Nat.le_of_ble_eq_true rfl⟩ hl.1 rfl (Nat.le_of_ble_eq_true rfl) ⟨Nat.zero_le _, Nat.zero_le _⟩ dd_Mo_timeout_2) hS (fun _ h => h) (fun H locs hP _ _ hS => ?_)
  refine lv_if_eq F.1 F.2.1 dd_Mo_timeout_5 (tgt := 26) rfl (fun h5 => ?_) (fun h5 => absurd h5 (by decide))
  refine lv_iconst (v := (-1)) F.1 F.2.1 dd_Mo_timeout_26 (by decide) ?_
  exact zw_iret F hr hlk hP hS rfl rfl dd_Mo_timeout_27
set_option maxHeartbeats 4000000 in
set_option maxRecDepth 100000 in
theorem zc_Mo_timeout_bad2 (lc : Launch) (G : zw_G) (b0 : Nat) (T : zs_T) (i : Nat) (c : Nat) (x : Int32) (h : Int32) (w : Int32) (hi : i < 2) (hc : c < 3) (hb : x < nI 1 ∨ T 9 (3 * i + c) < x) : zw_M lc ym_Mo_timeout bm_Mo_timeout 9 (some .int) { frames := 2, cells := 0, slots := 0, locals := 43 } G b0 26 (zq_p G b0 T) [.ref (b0 + 0), .int (nI i), .int (nI c), .int x, .int h, .int w] (zw_Qi G b0 26 (zq_p G b0 T) (-1)) := by
  refine zw_of (by decide) (Nat.le_of_ble_eq_true rfl) ?_
  intro p e s m below meth cx ls F hr hlk hE hP hS hl
  have hl : lv_has ls 9 [(0, .ref (b0 + 0)), (1, .int (nI i)), (2, .int (nI c)), (3, .int x), (4, .int h), (5, .int w)] := hl
  refine lv_iload_n F.1 F.2.1 dd_Mo_timeout_0 rfl (lv_at hl 1 rfl) ?_
  refine lv_iload_n F.1 F.2.1 dd_Mo_timeout_1 rfl (lv_at hl 2 rfl) ?_
  refine zw_goi (zw_rS F hE hP (zc_Mo_isEnd lc G b0 T i c (by first | omega | assumption) (by first | omega | assumption)) zk_Mo_isEnd za_Mo_isEnd wl_Mo_121 ⟨rfl, rfl, Nat.le_of_ble_eq_true rfl, Nat.le_of_ble_eq_true rfl⟩ hl.1 rfl (Nat.le_of_ble_eq_true rfl) ⟨Nat.zero_le _, Nat.zero_le _⟩ dd_Mo_timeout_2) hS (fun _ h => h) (fun H locs hP _ _ hS => ?_)
  refine lv_if_eq F.1 F.2.1 dd_Mo_timeout_5 (tgt := 26) rfl (fun h5 => absurd h5 (by decide)) (fun h5 => ?_)
  refine lv_iload_n F.1 F.2.1 dd_Mo_timeout_8 rfl (lv_at hl 3 rfl) ?_
  refine lv_iconst (v := nI 1) F.1 F.2.1 dd_Mo_timeout_9 (by decide) ?_
  refine lv_aload_n F.1 F.2.1 dd_Mo_timeout_10 rfl (lv_at hl 0 rfl) ?_
  refine zm_gF F hE hP rfl rfl zi_Mo 9 (by decide) rfl wf_Mo_35 rfl dd_Mo_timeout_11 ?_
  refine lv_iconst (v := nI 3) F.1 F.2.1 dd_Mo_timeout_14 (by decide) ?_
  refine lv_iload_n F.1 F.2.1 dd_Mo_timeout_15 rfl (lv_at hl 1 rfl) ?_
  refine zn_imul F dd_Mo_timeout_16 ?_
  refine lv_iload_n F.1 F.2.1 dd_Mo_timeout_17 rfl (lv_at hl 2 rfl) ?_
  refine zn_iadd F dd_Mo_timeout_18 ?_
  refine zm_iald (x := 9) (k := (3 * i) + c) (N := 6) F hE hP (by decide) (fun _ => rfl) (by omega) (by decide) dd_Mo_timeout_19 ?_
  refine zw_goi (zw_rS F hE hP (zc_Mo_outside lc G b0 T x (nI 1) (T 9 ((3 * i) + c))) zk_Mo_outside za_Mo_outside wl_Mo_91 ⟨rfl, rfl, Nat.le_of_ble_eq_true rfl, Nat.le_of_ble_eq_true rfl⟩ hl.1 rfl (Nat.le_of_ble_eq_true rfl) ⟨Nat.zero_le _, Nat.zero_le _⟩ dd_Mo_timeout_20) hS (fun _ h => h) (fun H locs hP _ _ hS => ?_)
  refine zn_beq F dd_Mo_timeout_23 (tgt := 28) rfl (fun h23 => absurd hb h23) (fun h23 => ?_)
  refine lv_iconst (v := (-1)) F.1 F.2.1 dd_Mo_timeout_26 (by decide) ?_
  exact zw_iret F hr hlk hP hS rfl rfl dd_Mo_timeout_27
set_option maxHeartbeats 4000000 in
set_option maxRecDepth 100000 in
theorem zc_Mo_height (lc : Launch) (G : zw_G) (b0 : Nat) (T : zs_T) (i : Nat) (hi : i < 2) : zw_M lc ym_Mo_height bm_Mo_height 2 (some .int) { frames := 1, cells := 0, slots := 0, locals := 22 } G b0 26 (zq_p G b0 T) [.ref (b0 + 0), .int (nI i)] (zw_Qi G b0 26 (zq_p G b0 T) (T 1 i)) := by
  refine zw_of (by decide) (Nat.le_of_ble_eq_true rfl) ?_
  intro p e s m below meth cx ls F hr hlk hE hP hS hl
  have hl : lv_has ls 2 [(0, .ref (b0 + 0)), (1, .int (nI i))] := hl
  refine lv_iload_n F.1 F.2.1 dd_Mo_height_0 rfl (lv_at hl 1 rfl) ?_
  refine lv_iconst (v := nI 0) F.1 F.2.1 dd_Mo_height_1 (by decide) ?_
  refine lv_iconst (v := nI 1) F.1 F.2.1 dd_Mo_height_2 (by decide) ?_
  refine zw_goi (zw_rS F hE hP (zc_Mo_outside lc G b0 T (nI i) (nI 0) (nI 1)) zk_Mo_outside za_Mo_outside wl_Mo_91 ⟨rfl, rfl, Nat.le_of_ble_eq_true rfl, Nat.le_of_ble_eq_true rfl⟩ hl.1 rfl (Nat.le_of_ble_eq_true rfl) ⟨Nat.zero_le _, Nat.zero_le _⟩ dd_Mo_height_3) hS (fun _ h => h) (fun H locs hP _ _ hS => ?_)
  refine zn_beq F dd_Mo_height_6 (tgt := 13) rfl (fun h6 => ?_) (fun h6 => absurd h6 (zn_ins (by omega) (by omega) (by decide)))
  refine lv_aload_n F.1 F.2.1 dd_Mo_height_13 rfl (lv_at hl 0 rfl) ?_
  refine zm_gF F hE hP rfl rfl zi_Mo 1 (by decide) rfl wf_Mo_7 rfl dd_Mo_height_14 ?_
  refine lv_iload_n F.1 F.2.1 dd_Mo_height_17 rfl (lv_at hl 1 rfl) ?_
  refine zm_iald (x := 1) (k := i) (N := 2) F hE hP (by decide) (fun _ => rfl) (by omega) (by decide) dd_Mo_height_18 ?_
  exact zw_iret F hr hlk hP hS rfl rfl dd_Mo_height_19
set_option maxHeartbeats 4000000 in
set_option maxRecDepth 100000 in
theorem zc_Mo_height_bad (lc : Launch) (G : zw_G) (b0 : Nat) (T : zs_T) (l : Int32) (hb : ¬ zs_v l 2) : zw_M lc ym_Mo_height bm_Mo_height 2 (some .int) { frames := 1, cells := 0, slots := 0, locals := 22 } G b0 26 (zq_p G b0 T) [.ref (b0 + 0), .int l] (zw_Qi G b0 26 (zq_p G b0 T) (-1)) := by
  refine zw_of (by decide) (Nat.le_of_ble_eq_true rfl) ?_
  intro p e s m below meth cx ls F hr hlk hE hP hS hl
  have hl : lv_has ls 2 [(0, .ref (b0 + 0)), (1, .int l)] := hl
  refine lv_iload_n F.1 F.2.1 dd_Mo_height_0 rfl (lv_at hl 1 rfl) ?_
  refine lv_iconst (v := nI 0) F.1 F.2.1 dd_Mo_height_1 (by decide) ?_
  refine lv_iconst (v := nI 1) F.1 F.2.1 dd_Mo_height_2 (by decide) ?_
  refine zw_goi (zw_rS F hE hP (zc_Mo_outside lc G b0 T l (nI 0) (nI 1)) zk_Mo_outside za_Mo_outside wl_Mo_91 ⟨rfl, rfl, Nat.le_of_ble_eq_true rfl, Nat.le_of_ble_eq_true rfl⟩ hl.1 rfl (Nat.le_of_ble_eq_true rfl) ⟨Nat.zero_le _, Nat.zero_le _⟩ dd_Mo_height_3) hS (fun _ h => h) (fun H locs hP _ _ hS => ?_)
  refine zn_beq F dd_Mo_height_6 (tgt := 13) rfl (fun h6 => absurd (zs_vo (n := 1) (by decide) h6) hb) (fun h6 => ?_)
  refine lv_iconst (v := (-1)) F.1 F.2.1 dd_Mo_height_9 (by decide) ?_
  refine lv_goto F.1 F.2.1 dd_Mo_height_10 (tgt := 19) rfl ?_
  exact zw_iret F hr hlk hP hS rfl rfl dd_Mo_height_19
def zr_Mo_end (T : zs_T) (i : Nat) (c : Nat) (x : Int32) : Int32 := if x < (nI 0) ∨ (nI 4) < x then ((-1)) else (if x = 0 then (T 7 ((3 * i) + c)) else (if x = nI 1 then (zs_fl (T 8 ((3 * i) + c))) else (if x = nI 2 then (T 9 ((3 * i) + c)) else (if x = nI 3 then (T 10 ((3 * i) + c)) else (T 11 ((3 * i) + c))))))
set_option maxHeartbeats 4000000 in
set_option maxRecDepth 100000 in
theorem zc_Mo_end (lc : Launch) (G : zw_G) (b0 : Nat) (T : zs_T) (i : Nat) (c : Nat) (x : Int32) (hi : i < 2) (hc : c < 3) : zw_M lc ym_Mo_end bm_Mo_end 5 (some .int) { frames := 2, cells := 0, slots := 0, locals := 43 } G b0 26 (zq_p G b0 T) [.ref (b0 + 0), .int (nI i), .int (nI c), .int x] (zw_Qi G b0 26 (zq_p G b0 T) (zr_Mo_end T i c x)) := by
  refine zw_of (by decide) (Nat.le_of_ble_eq_true rfl) ?_
  intro p e s m below meth cx ls F hr hlk hE hP hS hl
  have hl : lv_has ls 5 [(0, .ref (b0 + 0)), (1, .int (nI i)), (2, .int (nI c)), (3, .int x)] := hl
  refine lv_iload_n F.1 F.2.1 dd_Mo_end_0 rfl (lv_at hl 1 rfl) ?_
  refine lv_iload_n F.1 F.2.1 dd_Mo_end_1 rfl (lv_at hl 2 rfl) ?_
  refine zw_goi (zw_rS F hE hP (zc_Mo_isEnd lc G b0 T i c (by first | omega | assumption) (by first | omega | assumption)) zk_Mo_isEnd za_Mo_isEnd wl_Mo_121 ⟨rfl, rfl, Nat.le_of_ble_eq_true rfl, Nat.le_of_ble_eq_true rfl⟩ hl.1 rfl (Nat.le_of_ble_eq_true rfl) ⟨Nat.zero_le _, Nat.zero_le _⟩ dd_Mo_end_2) hS (fun _ h => h) (fun H locs hP _ _ hS => ?_)
  refine lv_if_eq F.1 F.2.1 dd_Mo_end_5 (tgt := 17) rfl (fun h5 => absurd h5 (by decide)) (fun h5 => ?_)
  refine lv_iload_n F.1 F.2.1 dd_Mo_end_8 rfl (lv_at hl 3 rfl) ?_
  refine lv_iconst (v := nI 0) F.1 F.2.1 dd_Mo_end_9 (by decide) ?_
  refine lv_iconst (v := nI 4) F.1 F.2.1 dd_Mo_end_10 (by decide) ?_
  refine zw_goi (zw_rS F hE hP (zc_Mo_outside lc G b0 T x (nI 0) (nI 4)) zk_Mo_outside za_Mo_outside wl_Mo_91 ⟨rfl, rfl, Nat.le_of_ble_eq_true rfl, Nat.le_of_ble_eq_true rfl⟩ hl.1 rfl (Nat.le_of_ble_eq_true rfl) ⟨Nat.zero_le _, Nat.zero_le _⟩ dd_Mo_end_11) hS (fun _ h => h) (fun H locs hP _ _ hS => ?_)
  refine zn_beq F dd_Mo_end_14 (tgt := 19) rfl (fun h14 => ?_) (fun h14 => ?_)
  · refine lv_iconst (v := nI 3) F.1 F.2.1 dd_Mo_end_19 (by decide) ?_
    refine lv_iload_n F.1 F.2.1 dd_Mo_end_20 rfl (lv_at hl 1 rfl) ?_
    refine zn_imul F dd_Mo_end_21 ?_
    refine lv_iload_n F.1 F.2.1 dd_Mo_end_22 rfl (lv_at hl 2 rfl) ?_
    refine zn_iadd F dd_Mo_end_23 ?_
    refine lv_istore F.1 F.2.1 dd_Mo_end_24 hl (by decide) (lv' := [(4, .int (nI ((3 * i) + c))), (0, .ref (b0 + 0)), (1, .int (nI i)), (2, .int (nI c)), (3, .int x)]) rfl (fun ls hl => ?_)
    refine lv_iload_n F.1 F.2.1 dd_Mo_end_26 rfl (lv_at hl 4 rfl) ?_
    refine lv_if_ne F.1 F.2.1 dd_Mo_end_27 (tgt := 40) rfl (fun h27 => ?_) (fun h27 => ?_)
    · refine lv_iload_n F.1 F.2.1 dd_Mo_end_40 rfl (lv_at hl 4 rfl) ?_
      refine lv_iconst (v := nI 1) F.1 F.2.1 dd_Mo_end_41 (by decide) ?_
      refine lv_icmp_ne F.1 F.2.1 dd_Mo_end_42 (tgt := 58) rfl (fun h42 => ?_) (fun h42 => ?_)
      · refine lv_iload_n F.1 F.2.1 dd_Mo_end_58 rfl (lv_at hl 4 rfl) ?_
        refine lv_iconst (v := nI 2) F.1 F.2.1 dd_Mo_end_59 (by decide) ?_
        refine lv_icmp_ne F.1 F.2.1 dd_Mo_end_60 (tgt := 73) rfl (fun h60 => ?_) (fun h60 => ?_)
        · refine lv_iload_n F.1 F.2.1 dd_Mo_end_73 rfl (lv_at hl 4 rfl) ?_
          refine lv_iconst (v := nI 3) F.1 F.2.1 dd_Mo_end_74 (by decide) ?_
          refine lv_icmp_ne F.1 F.2.1 dd_Mo_end_75 (tgt := 88) rfl (fun h75 => ?_) (fun h75 => ?_)
          · refine lv_aload_n F.1 F.2.1 dd_Mo_end_88 rfl (lv_at hl 1 rfl) ?_
            refine zm_gF F hE hP rfl rfl zi_Mo 11 (by decide) rfl wf_Mo_41 rfl dd_Mo_end_89 ?_
            refine lv_iload F.1 F.2.1 dd_Mo_end_92 (lv_at hl 0 rfl) ?_
            refine zm_iald (x := 11) (k := (3 * i) + c) (N := 6) F hE hP (by decide) (fun _ => rfl) (by omega) (by decide) dd_Mo_end_94 ?_
            exact zw_iret F hr hlk hP hS rfl (by rw [zr_Mo_end, if_neg h14, if_neg h27, if_neg h42, if_neg h60, if_neg h75]) dd_Mo_end_95
          · refine lv_aload_n F.1 F.2.1 dd_Mo_end_78 rfl (lv_at hl 1 rfl) ?_
            refine zm_gF F hE hP rfl rfl zi_Mo 10 (by decide) rfl wf_Mo_38 rfl dd_Mo_end_79 ?_
            refine lv_iload F.1 F.2.1 dd_Mo_end_82 (lv_at hl 0 rfl) ?_
            refine zm_iald (x := 10) (k := (3 * i) + c) (N := 6) F hE hP (by decide) (fun _ => rfl) (by omega) (by decide) dd_Mo_end_84 ?_
            refine lv_goto F.1 F.2.1 dd_Mo_end_85 (tgt := 95) rfl ?_
            exact zw_iret F hr hlk hP hS rfl (by rw [zr_Mo_end, if_neg h14, if_neg h27, if_neg h42, if_neg h60, if_pos h75]) dd_Mo_end_95
        · refine lv_aload_n F.1 F.2.1 dd_Mo_end_63 rfl (lv_at hl 1 rfl) ?_
          refine zm_gF F hE hP rfl rfl zi_Mo 9 (by decide) rfl wf_Mo_35 rfl dd_Mo_end_64 ?_
          refine lv_iload F.1 F.2.1 dd_Mo_end_67 (lv_at hl 0 rfl) ?_
          refine zm_iald (x := 9) (k := (3 * i) + c) (N := 6) F hE hP (by decide) (fun _ => rfl) (by omega) (by decide) dd_Mo_end_69 ?_
          refine lv_goto F.1 F.2.1 dd_Mo_end_70 (tgt := 95) rfl ?_
          exact zw_iret F hr hlk hP hS rfl (by rw [zr_Mo_end, if_neg h14, if_neg h27, if_neg h42, if_pos h60]) dd_Mo_end_95
      · refine lv_aload_n F.1 F.2.1 dd_Mo_end_45 rfl (lv_at hl 1 rfl) ?_
        refine zm_gF F hE hP rfl rfl zi_Mo 8 (by decide) rfl wf_Mo_32 rfl dd_Mo_end_46 ?_
        refine lv_iload F.1 F.2.1 dd_Mo_end_49 (lv_at hl 0 rfl) ?_
        refine zm_zald (x := 8) (k := (3 * i) + c) (N := 6) F hE hP (by decide) (fun _ => rfl) (by omega) (by decide) dd_Mo_end_51 ?_
        refine zw_goi (zw_rS F hE hP (zc_Mo_flag lc G b0 T (T 8 ((3 * i) + c))) zk_Mo_flag za_Mo_flag wl_Mo_124 ⟨rfl, rfl, Nat.le_of_ble_eq_true rfl, Nat.le_of_ble_eq_true rfl⟩ hl.1 rfl (Nat.le_of_ble_eq_true rfl) ⟨Nat.zero_le _, Nat.zero_le _⟩ dd_Mo_end_52) hS (fun _ h => h) (fun H locs hP _ _ hS => ?_)
        refine lv_goto F.1 F.2.1 dd_Mo_end_55 (tgt := 95) rfl ?_
        exact zw_iret F hr hlk hP hS rfl (by rw [zr_Mo_end, if_neg h14, if_neg h27, if_pos h42]) dd_Mo_end_95
    · refine lv_aload_n F.1 F.2.1 dd_Mo_end_30 rfl (lv_at hl 1 rfl) ?_
      refine zm_gF F hE hP rfl rfl zi_Mo 7 (by decide) rfl wf_Mo_29 rfl dd_Mo_end_31 ?_
      refine lv_iload F.1 F.2.1 dd_Mo_end_34 (lv_at hl 0 rfl) ?_
      refine zm_iald (x := 7) (k := (3 * i) + c) (N := 6) F hE hP (by decide) (fun _ => rfl) (by omega) (by decide) dd_Mo_end_36 ?_
      refine lv_goto F.1 F.2.1 dd_Mo_end_37 (tgt := 95) rfl ?_
      exact zw_iret F hr hlk hP hS rfl (by rw [zr_Mo_end, if_neg h14, if_pos h27]) dd_Mo_end_95
  · refine lv_iconst (v := (-1)) F.1 F.2.1 dd_Mo_end_17 (by decide) ?_
    exact zw_iret F hr hlk hP hS rfl (by rw [zr_Mo_end, if_pos h14]) dd_Mo_end_18
set_option maxHeartbeats 4000000 in
set_option maxRecDepth 100000 in
theorem zc_Mo_end_bad (lc : Launch) (G : zw_G) (b0 : Nat) (T : zs_T) (l : Int32) (d : Int32) (x : Int32) (hb : ¬ (zs_v l 2 ∧ zs_v d 3)) : zw_M lc ym_Mo_end bm_Mo_end 5 (some .int) { frames := 2, cells := 0, slots := 0, locals := 43 } G b0 26 (zq_p G b0 T) [.ref (b0 + 0), .int l, .int d, .int x] (zw_Qi G b0 26 (zq_p G b0 T) (-1)) := by
  refine zw_of (by decide) (Nat.le_of_ble_eq_true rfl) ?_
  intro p e s m below meth cx ls F hr hlk hE hP hS hl
  have hl : lv_has ls 5 [(0, .ref (b0 + 0)), (1, .int l), (2, .int d), (3, .int x)] := hl
  refine lv_iload_n F.1 F.2.1 dd_Mo_end_0 rfl (lv_at hl 1 rfl) ?_
  refine lv_iload_n F.1 F.2.1 dd_Mo_end_1 rfl (lv_at hl 2 rfl) ?_
  refine zw_goi (zw_rS F hE hP (zc_Mo_isEnd_bad lc G b0 T l d (by first | omega | assumption)) zk_Mo_isEnd za_Mo_isEnd wl_Mo_121 ⟨rfl, rfl, Nat.le_of_ble_eq_true rfl, Nat.le_of_ble_eq_true rfl⟩ hl.1 rfl (Nat.le_of_ble_eq_true rfl) ⟨Nat.zero_le _, Nat.zero_le _⟩ dd_Mo_end_2) hS (fun _ h => h) (fun H locs hP _ _ hS => ?_)
  refine lv_if_eq F.1 F.2.1 dd_Mo_end_5 (tgt := 17) rfl (fun h5 => ?_) (fun h5 => absurd h5 (by decide))
  refine lv_iconst (v := (-1)) F.1 F.2.1 dd_Mo_end_17 (by decide) ?_
  exact zw_iret F hr hlk hP hS rfl rfl dd_Mo_end_18
set_option maxHeartbeats 4000000 in
set_option maxRecDepth 100000 in
theorem zc_Mo_isPacket (lc : Launch) (G : zw_G) (b0 : Nat) (T : zs_T) (i : Nat) (c : Nat) (j : Nat) (hi : i < 2) (hc : c < 3) (hs : ¬ (nI (j + 1) < nI 1 ∨ T 9 (3 * i + c) < nI (j + 1))) : zw_M lc ym_Mo_isPacket bm_Mo_isPacket 4 (some .boolean) { frames := 2, cells := 0, slots := 0, locals := 43 } G b0 26 (zq_p G b0 T) [.ref (b0 + 0), .int (nI i), .int (nI c), .int (nI (j + 1))] (zw_Qi G b0 26 (zq_p G b0 T) (nI 1)) := by
  refine zw_of (by decide) (Nat.le_of_ble_eq_true rfl) ?_
  intro p e s m below meth cx ls F hr hlk hE hP hS hl
  have hl : lv_has ls 4 [(0, .ref (b0 + 0)), (1, .int (nI i)), (2, .int (nI c)), (3, .int (nI (j + 1)))] := hl
  refine lv_iload_n F.1 F.2.1 dd_Mo_isPacket_0 rfl (lv_at hl 1 rfl) ?_
  refine lv_iload_n F.1 F.2.1 dd_Mo_isPacket_1 rfl (lv_at hl 2 rfl) ?_
  refine zw_goi (zw_rS F hE hP (zc_Mo_isEnd lc G b0 T i c (by first | omega | assumption) (by first | omega | assumption)) zk_Mo_isEnd za_Mo_isEnd wl_Mo_121 ⟨rfl, rfl, Nat.le_of_ble_eq_true rfl, Nat.le_of_ble_eq_true rfl⟩ hl.1 rfl (Nat.le_of_ble_eq_true rfl) ⟨Nat.zero_le _, Nat.zero_le _⟩ dd_Mo_isPacket_2) hS (fun _ h => h) (fun H locs hP _ _ hS => ?_)
  refine lv_if_eq F.1 F.2.1 dd_Mo_isPacket_5 (tgt := 30) rfl (fun h5 => absurd h5 (by decide)) (fun h5 => ?_)
  refine lv_iload_n F.1 F.2.1 dd_Mo_isPacket_8 rfl (lv_at hl 3 rfl) ?_
  refine lv_iconst (v := nI 1) F.1 F.2.1 dd_Mo_isPacket_9 (by decide) ?_
  refine lv_aload_n F.1 F.2.1 dd_Mo_isPacket_10 rfl (lv_at hl 0 rfl) ?_
  refine zm_gF F hE hP rfl rfl zi_Mo 9 (by decide) rfl wf_Mo_35 rfl dd_Mo_isPacket_11 ?_
  refine lv_iconst (v := nI 3) F.1 F.2.1 dd_Mo_isPacket_14 (by decide) ?_
  refine lv_iload_n F.1 F.2.1 dd_Mo_isPacket_15 rfl (lv_at hl 1 rfl) ?_
  refine zn_imul F dd_Mo_isPacket_16 ?_
  refine lv_iload_n F.1 F.2.1 dd_Mo_isPacket_17 rfl (lv_at hl 2 rfl) ?_
  refine zn_iadd F dd_Mo_isPacket_18 ?_
  refine zm_iald (x := 9) (k := (3 * i) + c) (N := 6) F hE hP (by decide) (fun _ => rfl) (by omega) (by decide) dd_Mo_isPacket_19 ?_
  refine zw_goi (zw_rS F hE hP (zc_Mo_outside lc G b0 T (nI (j + 1)) (nI 1) (T 9 ((3 * i) + c))) zk_Mo_outside za_Mo_outside wl_Mo_91 ⟨rfl, rfl, Nat.le_of_ble_eq_true rfl, Nat.le_of_ble_eq_true rfl⟩ hl.1 rfl (Nat.le_of_ble_eq_true rfl) ⟨Nat.zero_le _, Nat.zero_le _⟩ dd_Mo_isPacket_20) hS (fun _ h => h) (fun H locs hP _ _ hS => ?_)
  refine zn_bne F dd_Mo_isPacket_23 (tgt := 30) rfl (fun h23 => absurd h23 hs) (fun h23 => ?_)
  refine lv_iconst (v := nI 1) F.1 F.2.1 dd_Mo_isPacket_26 (by decide) ?_
  refine lv_goto F.1 F.2.1 dd_Mo_isPacket_27 (tgt := 31) rfl ?_
  exact zw_zret F hr hlk hP hS rfl (by decide) rfl dd_Mo_isPacket_31
set_option maxHeartbeats 4000000 in
set_option maxRecDepth 100000 in
theorem zc_Mo_isPacket_bad (lc : Launch) (G : zw_G) (b0 : Nat) (T : zs_T) (l : Int32) (d : Int32) (x : Int32) (hb : ¬ (zs_v l 2 ∧ zs_v d 3)) : zw_M lc ym_Mo_isPacket bm_Mo_isPacket 4 (some .boolean) { frames := 2, cells := 0, slots := 0, locals := 43 } G b0 26 (zq_p G b0 T) [.ref (b0 + 0), .int l, .int d, .int x] (zw_Qi G b0 26 (zq_p G b0 T) (nI 0)) := by
  refine zw_of (by decide) (Nat.le_of_ble_eq_true rfl) ?_
  intro p e s m below meth cx ls F hr hlk hE hP hS hl
  have hl : lv_has ls 4 [(0, .ref (b0 + 0)), (1, .int l), (2, .int d), (3, .int x)] := hl
  refine lv_iload_n F.1 F.2.1 dd_Mo_isPacket_0 rfl (lv_at hl 1 rfl) ?_
  refine lv_iload_n F.1 F.2.1 dd_Mo_isPacket_1 rfl (lv_at hl 2 rfl) ?_
  refine zw_goi (zw_rS F hE hP (zc_Mo_isEnd_bad lc G b0 T l d (by first | omega | assumption)) zk_Mo_isEnd za_Mo_isEnd wl_Mo_121 ⟨rfl, rfl, Nat.le_of_ble_eq_true rfl, Nat.le_of_ble_eq_true rfl⟩ hl.1 rfl (Nat.le_of_ble_eq_true rfl) ⟨Nat.zero_le _, Nat.zero_le _⟩ dd_Mo_isPacket_2) hS (fun _ h => h) (fun H locs hP _ _ hS => ?_)
  refine lv_if_eq F.1 F.2.1 dd_Mo_isPacket_5 (tgt := 30) rfl (fun h5 => ?_) (fun h5 => absurd h5 (by decide))
  refine lv_iconst (v := nI 0) F.1 F.2.1 dd_Mo_isPacket_30 (by decide) ?_
  exact zw_zret F hr hlk hP hS rfl (by decide) rfl dd_Mo_isPacket_31
set_option maxHeartbeats 4000000 in
set_option maxRecDepth 100000 in
theorem zc_Mo_isPacket_bad2 (lc : Launch) (G : zw_G) (b0 : Nat) (T : zs_T) (i : Nat) (c : Nat) (x : Int32) (hi : i < 2) (hc : c < 3) (hb : x < nI 1 ∨ T 9 (3 * i + c) < x) : zw_M lc ym_Mo_isPacket bm_Mo_isPacket 4 (some .boolean) { frames := 2, cells := 0, slots := 0, locals := 43 } G b0 26 (zq_p G b0 T) [.ref (b0 + 0), .int (nI i), .int (nI c), .int x] (zw_Qi G b0 26 (zq_p G b0 T) (nI 0)) := by
  refine zw_of (by decide) (Nat.le_of_ble_eq_true rfl) ?_
  intro p e s m below meth cx ls F hr hlk hE hP hS hl
  have hl : lv_has ls 4 [(0, .ref (b0 + 0)), (1, .int (nI i)), (2, .int (nI c)), (3, .int x)] := hl
  refine lv_iload_n F.1 F.2.1 dd_Mo_isPacket_0 rfl (lv_at hl 1 rfl) ?_
  refine lv_iload_n F.1 F.2.1 dd_Mo_isPacket_1 rfl (lv_at hl 2 rfl) ?_
  refine zw_goi (zw_rS F hE hP (zc_Mo_isEnd lc G b0 T i c (by first | omega | assumption) (by first | omega | assumption)) zk_Mo_isEnd za_Mo_isEnd wl_Mo_121 ⟨rfl, rfl, Nat.le_of_ble_eq_true rfl, Nat.le_of_ble_eq_true rfl⟩ hl.1 rfl (Nat.le_of_ble_eq_true rfl) ⟨Nat.zero_le _, Nat.zero_le _⟩ dd_Mo_isPacket_2) hS (fun _ h => h) (fun H locs hP _ _ hS => ?_)
  refine lv_if_eq F.1 F.2.1 dd_Mo_isPacket_5 (tgt := 30) rfl (fun h5 => absurd h5 (by decide)) (fun h5 => ?_)
  refine lv_iload_n F.1 F.2.1 dd_Mo_isPacket_8 rfl (lv_at hl 3 rfl) ?_
  refine lv_iconst (v := nI 1) F.1 F.2.1 dd_Mo_isPacket_9 (by decide) ?_
  refine lv_aload_n F.1 F.2.1 dd_Mo_isPacket_10 rfl (lv_at hl 0 rfl) ?_
  refine zm_gF F hE hP rfl rfl zi_Mo 9 (by decide) rfl wf_Mo_35 rfl dd_Mo_isPacket_11 ?_
  refine lv_iconst (v := nI 3) F.1 F.2.1 dd_Mo_isPacket_14 (by decide) ?_
  refine lv_iload_n F.1 F.2.1 dd_Mo_isPacket_15 rfl (lv_at hl 1 rfl) ?_
  refine zn_imul F dd_Mo_isPacket_16 ?_
  refine lv_iload_n F.1 F.2.1 dd_Mo_isPacket_17 rfl (lv_at hl 2 rfl) ?_
  refine zn_iadd F dd_Mo_isPacket_18 ?_
  refine zm_iald (x := 9) (k := (3 * i) + c) (N := 6) F hE hP (by decide) (fun _ => rfl) (by omega) (by decide) dd_Mo_isPacket_19 ?_
  refine zw_goi (zw_rS F hE hP (zc_Mo_outside lc G b0 T x (nI 1) (T 9 ((3 * i) + c))) zk_Mo_outside za_Mo_outside wl_Mo_91 ⟨rfl, rfl, Nat.le_of_ble_eq_true rfl, Nat.le_of_ble_eq_true rfl⟩ hl.1 rfl (Nat.le_of_ble_eq_true rfl) ⟨Nat.zero_le _, Nat.zero_le _⟩ dd_Mo_isPacket_20) hS (fun _ h => h) (fun H locs hP _ _ hS => ?_)
  refine zn_bne F dd_Mo_isPacket_23 (tgt := 30) rfl (fun h23 => ?_) (fun h23 => absurd hb h23)
  refine lv_iconst (v := nI 0) F.1 F.2.1 dd_Mo_isPacket_30 (by decide) ?_
  exact zw_zret F hr hlk hP hS rfl (by decide) rfl dd_Mo_isPacket_31
set_option maxHeartbeats 4000000 in
set_option maxRecDepth 100000 in
theorem zc_Mo_packet (lc : Launch) (G : zw_G) (b0 : Nat) (T : zs_T) (i : Nat) (c : Nat) (j : Nat) (hi : i < 2) (hc : c < 3) (hj : j < 12) (hs : ¬ (nI (j + 1) < nI 1 ∨ T 9 (3 * i + c) < nI (j + 1))) : zw_M lc ym_Mo_packet bm_Mo_packet 4 (some .int) { frames := 3, cells := 0, slots := 0, locals := 66 } G b0 26 (zq_p G b0 T) [.ref (b0 + 0), .int (nI i), .int (nI c), .int (nI (j + 1))] (zw_Qi G b0 26 (zq_p G b0 T) (T 17 (13 * (3 * i + c) + (j + 1)))) := by
  refine zw_of (by decide) (Nat.le_of_ble_eq_true rfl) ?_
  intro p e s m below meth cx ls F hr hlk hE hP hS hl
  have hl : lv_has ls 4 [(0, .ref (b0 + 0)), (1, .int (nI i)), (2, .int (nI c)), (3, .int (nI (j + 1)))] := hl
  refine lv_aload_n F.1 F.2.1 dd_Mo_packet_0 rfl (lv_at hl 0 rfl) ?_
  refine lv_iload_n F.1 F.2.1 dd_Mo_packet_1 rfl (lv_at hl 1 rfl) ?_
  refine lv_iload_n F.1 F.2.1 dd_Mo_packet_2 rfl (lv_at hl 2 rfl) ?_
  refine lv_iload_n F.1 F.2.1 dd_Mo_packet_3 rfl (lv_at hl 3 rfl) ?_
  refine zw_goi (zw_rV F hE hP (zc_Mo_isPacket lc G b0 T i c j (by first | omega | assumption) (by first | omega | assumption) (by assumption)) zk_Mo_isPacket za_Mo_isPacket zb_Mo_isPacket wl_Mo_167 ⟨rfl, rfl, Nat.le_of_ble_eq_true rfl, Nat.le_of_ble_eq_true rfl⟩ (zm_recv hE hP rfl rfl) hl.1 rfl (Nat.le_of_ble_eq_true rfl) ⟨Nat.zero_le _, Nat.zero_le _⟩ dd_Mo_packet_4) hS (fun _ h => h) (fun H locs hP _ _ hS => ?_)
  refine lv_if_eq F.1 F.2.1 dd_Mo_packet_7 (tgt := 28) rfl (fun h7 => absurd h7 (by decide)) (fun h7 => ?_)
  refine lv_aload_n F.1 F.2.1 dd_Mo_packet_10 rfl (lv_at hl 0 rfl) ?_
  refine zm_gF F hE hP rfl rfl zi_Mo 17 (by decide) rfl wf_Mo_59 rfl dd_Mo_packet_11 ?_
  refine lv_bipush (v := nI 13) F.1 F.2.1 dd_Mo_packet_14 (by decide) ?_
  refine lv_iconst (v := nI 3) F.1 F.2.1 dd_Mo_packet_16 (by decide) ?_
  refine lv_iload_n F.1 F.2.1 dd_Mo_packet_17 rfl (lv_at hl 1 rfl) ?_
  refine zn_imul F dd_Mo_packet_18 ?_
  refine lv_iload_n F.1 F.2.1 dd_Mo_packet_19 rfl (lv_at hl 2 rfl) ?_
  refine zn_iadd F dd_Mo_packet_20 ?_
  refine zn_imul F dd_Mo_packet_21 ?_
  refine lv_iload_n F.1 F.2.1 dd_Mo_packet_22 rfl (lv_at hl 3 rfl) ?_
  refine zn_iadd F dd_Mo_packet_23 ?_
  refine zm_iald (x := 17) (k := (13 * ((3 * i) + c)) + (j + 1)) (N := 78) F hE hP (by decide) (fun _ => rfl) (by omega) (by decide) dd_Mo_packet_24 ?_
  refine lv_goto F.1 F.2.1 dd_Mo_packet_25 (tgt := 29) rfl ?_
  exact zw_iret F hr hlk hP hS rfl rfl dd_Mo_packet_29
set_option maxHeartbeats 4000000 in
set_option maxRecDepth 100000 in
theorem zc_Mo_packet_bad (lc : Launch) (G : zw_G) (b0 : Nat) (T : zs_T) (l : Int32) (d : Int32) (x : Int32) (hb : ¬ (zs_v l 2 ∧ zs_v d 3)) : zw_M lc ym_Mo_packet bm_Mo_packet 4 (some .int) { frames := 3, cells := 0, slots := 0, locals := 66 } G b0 26 (zq_p G b0 T) [.ref (b0 + 0), .int l, .int d, .int x] (zw_Qi G b0 26 (zq_p G b0 T) (-1)) := by
  refine zw_of (by decide) (Nat.le_of_ble_eq_true rfl) ?_
  intro p e s m below meth cx ls F hr hlk hE hP hS hl
  have hl : lv_has ls 4 [(0, .ref (b0 + 0)), (1, .int l), (2, .int d), (3, .int x)] := hl
  refine lv_aload_n F.1 F.2.1 dd_Mo_packet_0 rfl (lv_at hl 0 rfl) ?_
  refine lv_iload_n F.1 F.2.1 dd_Mo_packet_1 rfl (lv_at hl 1 rfl) ?_
  refine lv_iload_n F.1 F.2.1 dd_Mo_packet_2 rfl (lv_at hl 2 rfl) ?_
  refine lv_iload_n F.1 F.2.1 dd_Mo_packet_3 rfl (lv_at hl 3 rfl) ?_
  refine zw_goi (zw_rV F hE hP (zc_Mo_isPacket_bad lc G b0 T l d x (by first | omega | assumption)) zk_Mo_isPacket za_Mo_isPacket zb_Mo_isPacket wl_Mo_167 ⟨rfl, rfl, Nat.le_of_ble_eq_true rfl, Nat.le_of_ble_eq_true rfl⟩ (zm_recv hE hP rfl rfl) hl.1 rfl (Nat.le_of_ble_eq_true rfl) ⟨Nat.zero_le _, Nat.zero_le _⟩ dd_Mo_packet_4) hS (fun _ h => h) (fun H locs hP _ _ hS => ?_)
  refine lv_if_eq F.1 F.2.1 dd_Mo_packet_7 (tgt := 28) rfl (fun h7 => ?_) (fun h7 => absurd h7 (by decide))
  refine lv_iconst (v := (-1)) F.1 F.2.1 dd_Mo_packet_28 (by decide) ?_
  exact zw_iret F hr hlk hP hS rfl rfl dd_Mo_packet_29
set_option maxHeartbeats 4000000 in
set_option maxRecDepth 100000 in
theorem zc_Mo_packet_bad2 (lc : Launch) (G : zw_G) (b0 : Nat) (T : zs_T) (i : Nat) (c : Nat) (x : Int32) (hi : i < 2) (hc : c < 3) (hb : x < nI 1 ∨ T 9 (3 * i + c) < x) : zw_M lc ym_Mo_packet bm_Mo_packet 4 (some .int) { frames := 3, cells := 0, slots := 0, locals := 66 } G b0 26 (zq_p G b0 T) [.ref (b0 + 0), .int (nI i), .int (nI c), .int x] (zw_Qi G b0 26 (zq_p G b0 T) (-1)) := by
  refine zw_of (by decide) (Nat.le_of_ble_eq_true rfl) ?_
  intro p e s m below meth cx ls F hr hlk hE hP hS hl
  have hl : lv_has ls 4 [(0, .ref (b0 + 0)), (1, .int (nI i)), (2, .int (nI c)), (3, .int x)] := hl
  refine lv_aload_n F.1 F.2.1 dd_Mo_packet_0 rfl (lv_at hl 0 rfl) ?_
  refine lv_iload_n F.1 F.2.1 dd_Mo_packet_1 rfl (lv_at hl 1 rfl) ?_
  refine lv_iload_n F.1 F.2.1 dd_Mo_packet_2 rfl (lv_at hl 2 rfl) ?_
  refine lv_iload_n F.1 F.2.1 dd_Mo_packet_3 rfl (lv_at hl 3 rfl) ?_
  refine zw_goi (zw_rV F hE hP (zc_Mo_isPacket_bad2 lc G b0 T i c x (by first | omega | assumption) (by first | omega | assumption) (by assumption)) zk_Mo_isPacket za_Mo_isPacket zb_Mo_isPacket wl_Mo_167 ⟨rfl, rfl, Nat.le_of_ble_eq_true rfl, Nat.le_of_ble_eq_true rfl⟩ (zm_recv hE hP rfl rfl) hl.1 rfl (Nat.le_of_ble_eq_true rfl) ⟨Nat.zero_le _, Nat.zero_le _⟩ dd_Mo_packet_4) hS (fun _ h => h) (fun H locs hP _ _ hS => ?_)
  refine lv_if_eq F.1 F.2.1 dd_Mo_packet_7 (tgt := 28) rfl (fun h7 => ?_) (fun h7 => absurd h7 (by decide))
  refine lv_iconst (v := (-1)) F.1 F.2.1 dd_Mo_packet_28 (by decide) ?_
  exact zw_iret F hr hlk hP hS rfl rfl dd_Mo_packet_29
set_option maxHeartbeats 4000000 in
set_option maxRecDepth 100000 in
theorem zc_Mo_limit (lc : Launch) (G : zw_G) (b0 : Nat) (T : zs_T) (i : Nat) (c : Nat) (j : Nat) (hi : i < 2) (hc : c < 3) (hj : j < 12) (hs : ¬ (nI (j + 1) < nI 1 ∨ T 9 (3 * i + c) < nI (j + 1))) : zw_M lc ym_Mo_limit bm_Mo_limit 4 (some .int) { frames := 3, cells := 0, slots := 0, locals := 66 } G b0 26 (zq_p G b0 T) [.ref (b0 + 0), .int (nI i), .int (nI c), .int (nI (j + 1))] (zw_Qi G b0 26 (zq_p G b0 T) (T 15 (13 * (3 * i + c) + (j + 1)))) := by
  refine zw_of (by decide) (Nat.le_of_ble_eq_true rfl) ?_
  intro p e s m below meth cx ls F hr hlk hE hP hS hl
  have hl : lv_has ls 4 [(0, .ref (b0 + 0)), (1, .int (nI i)), (2, .int (nI c)), (3, .int (nI (j + 1)))] := hl
  refine lv_aload_n F.1 F.2.1 dd_Mo_limit_0 rfl (lv_at hl 0 rfl) ?_
  refine lv_iload_n F.1 F.2.1 dd_Mo_limit_1 rfl (lv_at hl 1 rfl) ?_
  refine lv_iload_n F.1 F.2.1 dd_Mo_limit_2 rfl (lv_at hl 2 rfl) ?_
  refine lv_iload_n F.1 F.2.1 dd_Mo_limit_3 rfl (lv_at hl 3 rfl) ?_
  refine zw_goi (zw_rV F hE hP (zc_Mo_isPacket lc G b0 T i c j (by first | omega | assumption) (by first | omega | assumption) (by assumption)) zk_Mo_isPacket za_Mo_isPacket zb_Mo_isPacket wl_Mo_167 ⟨rfl, rfl, Nat.le_of_ble_eq_true rfl, Nat.le_of_ble_eq_true rfl⟩ (zm_recv hE hP rfl rfl) hl.1 rfl (Nat.le_of_ble_eq_true rfl) ⟨Nat.zero_le _, Nat.zero_le _⟩ dd_Mo_limit_4) hS (fun _ h => h) (fun H locs hP _ _ hS => ?_)
  refine lv_if_eq F.1 F.2.1 dd_Mo_limit_7 (tgt := 28) rfl (fun h7 => absurd h7 (by decide)) (fun h7 => ?_)
  refine lv_aload_n F.1 F.2.1 dd_Mo_limit_10 rfl (lv_at hl 0 rfl) ?_
  refine zm_gF F hE hP rfl rfl zi_Mo 15 (by decide) rfl wf_Mo_53 rfl dd_Mo_limit_11 ?_
  refine lv_bipush (v := nI 13) F.1 F.2.1 dd_Mo_limit_14 (by decide) ?_
  refine lv_iconst (v := nI 3) F.1 F.2.1 dd_Mo_limit_16 (by decide) ?_
  refine lv_iload_n F.1 F.2.1 dd_Mo_limit_17 rfl (lv_at hl 1 rfl) ?_
  refine zn_imul F dd_Mo_limit_18 ?_
  refine lv_iload_n F.1 F.2.1 dd_Mo_limit_19 rfl (lv_at hl 2 rfl) ?_
  refine zn_iadd F dd_Mo_limit_20 ?_
  refine zn_imul F dd_Mo_limit_21 ?_
  refine lv_iload_n F.1 F.2.1 dd_Mo_limit_22 rfl (lv_at hl 3 rfl) ?_
  refine zn_iadd F dd_Mo_limit_23 ?_
  refine zm_iald (x := 15) (k := (13 * ((3 * i) + c)) + (j + 1)) (N := 78) F hE hP (by decide) (fun _ => rfl) (by omega) (by decide) dd_Mo_limit_24 ?_
  refine lv_goto F.1 F.2.1 dd_Mo_limit_25 (tgt := 29) rfl ?_
  exact zw_iret F hr hlk hP hS rfl rfl dd_Mo_limit_29
set_option maxHeartbeats 4000000 in
set_option maxRecDepth 100000 in
theorem zc_Mo_limit_bad (lc : Launch) (G : zw_G) (b0 : Nat) (T : zs_T) (l : Int32) (d : Int32) (x : Int32) (hb : ¬ (zs_v l 2 ∧ zs_v d 3)) : zw_M lc ym_Mo_limit bm_Mo_limit 4 (some .int) { frames := 3, cells := 0, slots := 0, locals := 66 } G b0 26 (zq_p G b0 T) [.ref (b0 + 0), .int l, .int d, .int x] (zw_Qi G b0 26 (zq_p G b0 T) (-1)) := by
  refine zw_of (by decide) (Nat.le_of_ble_eq_true rfl) ?_
  intro p e s m below meth cx ls F hr hlk hE hP hS hl
  have hl : lv_has ls 4 [(0, .ref (b0 + 0)), (1, .int l), (2, .int d), (3, .int x)] := hl
  refine lv_aload_n F.1 F.2.1 dd_Mo_limit_0 rfl (lv_at hl 0 rfl) ?_
  refine lv_iload_n F.1 F.2.1 dd_Mo_limit_1 rfl (lv_at hl 1 rfl) ?_
  refine lv_iload_n F.1 F.2.1 dd_Mo_limit_2 rfl (lv_at hl 2 rfl) ?_
  refine lv_iload_n F.1 F.2.1 dd_Mo_limit_3 rfl (lv_at hl 3 rfl) ?_
  refine zw_goi (zw_rV F hE hP (zc_Mo_isPacket_bad lc G b0 T l d x (by first | omega | assumption)) zk_Mo_isPacket za_Mo_isPacket zb_Mo_isPacket wl_Mo_167 ⟨rfl, rfl, Nat.le_of_ble_eq_true rfl, Nat.le_of_ble_eq_true rfl⟩ (zm_recv hE hP rfl rfl) hl.1 rfl (Nat.le_of_ble_eq_true rfl) ⟨Nat.zero_le _, Nat.zero_le _⟩ dd_Mo_limit_4) hS (fun _ h => h) (fun H locs hP _ _ hS => ?_)
  refine lv_if_eq F.1 F.2.1 dd_Mo_limit_7 (tgt := 28) rfl (fun h7 => ?_) (fun h7 => absurd h7 (by decide))
  refine lv_iconst (v := (-1)) F.1 F.2.1 dd_Mo_limit_28 (by decide) ?_
  exact zw_iret F hr hlk hP hS rfl rfl dd_Mo_limit_29
set_option maxHeartbeats 4000000 in
set_option maxRecDepth 100000 in
theorem zc_Mo_limit_bad2 (lc : Launch) (G : zw_G) (b0 : Nat) (T : zs_T) (i : Nat) (c : Nat) (x : Int32) (hi : i < 2) (hc : c < 3) (hb : x < nI 1 ∨ T 9 (3 * i + c) < x) : zw_M lc ym_Mo_limit bm_Mo_limit 4 (some .int) { frames := 3, cells := 0, slots := 0, locals := 66 } G b0 26 (zq_p G b0 T) [.ref (b0 + 0), .int (nI i), .int (nI c), .int x] (zw_Qi G b0 26 (zq_p G b0 T) (-1)) := by
  refine zw_of (by decide) (Nat.le_of_ble_eq_true rfl) ?_
  intro p e s m below meth cx ls F hr hlk hE hP hS hl
  have hl : lv_has ls 4 [(0, .ref (b0 + 0)), (1, .int (nI i)), (2, .int (nI c)), (3, .int x)] := hl
  refine lv_aload_n F.1 F.2.1 dd_Mo_limit_0 rfl (lv_at hl 0 rfl) ?_
  refine lv_iload_n F.1 F.2.1 dd_Mo_limit_1 rfl (lv_at hl 1 rfl) ?_
  refine lv_iload_n F.1 F.2.1 dd_Mo_limit_2 rfl (lv_at hl 2 rfl) ?_
  refine lv_iload_n F.1 F.2.1 dd_Mo_limit_3 rfl (lv_at hl 3 rfl) ?_
  refine zw_goi (zw_rV F hE hP (zc_Mo_isPacket_bad2 lc G b0 T i c x (by first | omega | assumption) (by first | omega | assumption) (by assumption)) zk_Mo_isPacket za_Mo_isPacket zb_Mo_isPacket wl_Mo_167 ⟨rfl, rfl, Nat.le_of_ble_eq_true rfl, Nat.le_of_ble_eq_true rfl⟩ (zm_recv hE hP rfl rfl) hl.1 rfl (Nat.le_of_ble_eq_true rfl) ⟨Nat.zero_le _, Nat.zero_le _⟩ dd_Mo_limit_4) hS (fun _ h => h) (fun H locs hP _ _ hS => ?_)
  refine lv_if_eq F.1 F.2.1 dd_Mo_limit_7 (tgt := 28) rfl (fun h7 => ?_) (fun h7 => absurd h7 (by decide))
  refine lv_iconst (v := (-1)) F.1 F.2.1 dd_Mo_limit_28 (by decide) ?_
  exact zw_iret F hr hlk hP hS rfl rfl dd_Mo_limit_29
set_option maxHeartbeats 4000000 in
set_option maxRecDepth 100000 in
theorem zc_Mo_balance (lc : Launch) (G : zw_G) (b0 : Nat) (T : zs_T) (i : Nat) (u : Nat) (k : Nat) (hi : i < 2) (hu : u < 4) (hk : k < 6) : zw_M lc ym_Mo_balance bm_Mo_balance 4 (some .int) { frames := 1, cells := 0, slots := 0, locals := 22 } G b0 26 (zq_p G b0 T) [.ref (b0 + 0), .int (nI i), .int (nI u), .int (nI k)] (zw_Qi G b0 26 (zq_p G b0 T) (T 19 (24 * i + 6 * u + k))) := by
  refine zw_of (by decide) (Nat.le_of_ble_eq_true rfl) ?_
  intro p e s m below meth cx ls F hr hlk hE hP hS hl
  have hl : lv_has ls 4 [(0, .ref (b0 + 0)), (1, .int (nI i)), (2, .int (nI u)), (3, .int (nI k))] := hl
  refine lv_iload_n F.1 F.2.1 dd_Mo_balance_0 rfl (lv_at hl 1 rfl) ?_
  refine lv_iconst (v := nI 0) F.1 F.2.1 dd_Mo_balance_1 (by decide) ?_
  refine lv_iconst (v := nI 1) F.1 F.2.1 dd_Mo_balance_2 (by decide) ?_
  refine zw_goi (zw_rS F hE hP (zc_Mo_outside lc G b0 T (nI i) (nI 0) (nI 1)) zk_Mo_outside za_Mo_outside wl_Mo_91 ⟨rfl, rfl, Nat.le_of_ble_eq_true rfl, Nat.le_of_ble_eq_true rfl⟩ hl.1 rfl (Nat.le_of_ble_eq_true rfl) ⟨Nat.zero_le _, Nat.zero_le _⟩ dd_Mo_balance_3) hS (fun _ h => h) (fun H locs hP _ _ hS => ?_)
  refine zn_bne F dd_Mo_balance_6 (tgt := 27) rfl (fun h6 => absurd h6 (zn_ins (by omega) (by omega) (by decide))) (fun h6 => ?_)
  refine lv_iload_n F.1 F.2.1 dd_Mo_balance_9 rfl (lv_at hl 2 rfl) ?_
  refine lv_iconst (v := nI 0) F.1 F.2.1 dd_Mo_balance_10 (by decide) ?_
  refine lv_iconst (v := nI 3) F.1 F.2.1 dd_Mo_balance_11 (by decide) ?_
  refine zw_goi (zw_rS F hE hP (zc_Mo_outside lc G b0 T (nI u) (nI 0) (nI 3)) zk_Mo_outside za_Mo_outside wl_Mo_91 ⟨rfl, rfl, Nat.le_of_ble_eq_true rfl, Nat.le_of_ble_eq_true rfl⟩ hl.1 rfl (Nat.le_of_ble_eq_true rfl) ⟨Nat.zero_le _, Nat.zero_le _⟩ dd_Mo_balance_12) hS (fun _ h => h) (fun H locs hP _ _ hS => ?_)
  refine zn_bne F dd_Mo_balance_15 (tgt := 27) rfl (fun h15 => absurd h15 (zn_ins (by omega) (by omega) (by decide))) (fun h15 => ?_)
  refine lv_iload_n F.1 F.2.1 dd_Mo_balance_18 rfl (lv_at hl 3 rfl) ?_
  refine lv_iconst (v := nI 0) F.1 F.2.1 dd_Mo_balance_19 (by decide) ?_
  refine lv_iconst (v := nI 5) F.1 F.2.1 dd_Mo_balance_20 (by decide) ?_
  refine zw_goi (zw_rS F hE hP (zc_Mo_outside lc G b0 T (nI k) (nI 0) (nI 5)) zk_Mo_outside za_Mo_outside wl_Mo_91 ⟨rfl, rfl, Nat.le_of_ble_eq_true rfl, Nat.le_of_ble_eq_true rfl⟩ hl.1 rfl (Nat.le_of_ble_eq_true rfl) ⟨Nat.zero_le _, Nat.zero_le _⟩ dd_Mo_balance_21) hS (fun _ h => h) (fun H locs hP _ _ hS => ?_)
  refine zn_beq F dd_Mo_balance_24 (tgt := 31) rfl (fun h24 => ?_) (fun h24 => absurd h24 (zn_ins (by omega) (by omega) (by decide)))
  refine lv_aload_n F.1 F.2.1 dd_Mo_balance_31 rfl (lv_at hl 0 rfl) ?_
  refine zm_gF F hE hP rfl rfl zi_Mo 19 (by decide) rfl wf_Mo_65 rfl dd_Mo_balance_32 ?_
  refine lv_bipush (v := nI 24) F.1 F.2.1 dd_Mo_balance_35 (by decide) ?_
  refine lv_iload_n F.1 F.2.1 dd_Mo_balance_37 rfl (lv_at hl 1 rfl) ?_
  refine zn_imul F dd_Mo_balance_38 ?_
  refine lv_bipush (v := nI 6) F.1 F.2.1 dd_Mo_balance_39 (by decide) ?_
  refine lv_iload_n F.1 F.2.1 dd_Mo_balance_41 rfl (lv_at hl 2 rfl) ?_
  refine zn_imul F dd_Mo_balance_42 ?_
  refine zn_iadd F dd_Mo_balance_43 ?_
  refine lv_iload_n F.1 F.2.1 dd_Mo_balance_44 rfl (lv_at hl 3 rfl) ?_
  refine zn_iadd F dd_Mo_balance_45 ?_
  refine zm_iald (x := 19) (k := ((24 * i) + (6 * u)) + k) (N := 48) F hE hP (by decide) (fun _ => rfl) (by omega) (by decide) dd_Mo_balance_46 ?_
  exact zw_iret F hr hlk hP hS rfl rfl dd_Mo_balance_47
set_option maxHeartbeats 4000000 in
set_option maxRecDepth 100000 in
theorem zc_Mo_balance_bad (lc : Launch) (G : zw_G) (b0 : Nat) (T : zs_T) (l : Int32) (u : Int32) (k : Int32) (hb : ¬ zs_v l 2) : zw_M lc ym_Mo_balance bm_Mo_balance 4 (some .int) { frames := 1, cells := 0, slots := 0, locals := 22 } G b0 26 (zq_p G b0 T) [.ref (b0 + 0), .int l, .int u, .int k] (zw_Qi G b0 26 (zq_p G b0 T) (nI 0)) := by
  refine zw_of (by decide) (Nat.le_of_ble_eq_true rfl) ?_
  intro p e s m below meth cx ls F hr hlk hE hP hS hl
  have hl : lv_has ls 4 [(0, .ref (b0 + 0)), (1, .int l), (2, .int u), (3, .int k)] := hl
  refine lv_iload_n F.1 F.2.1 dd_Mo_balance_0 rfl (lv_at hl 1 rfl) ?_
  refine lv_iconst (v := nI 0) F.1 F.2.1 dd_Mo_balance_1 (by decide) ?_
  refine lv_iconst (v := nI 1) F.1 F.2.1 dd_Mo_balance_2 (by decide) ?_
  refine zw_goi (zw_rS F hE hP (zc_Mo_outside lc G b0 T l (nI 0) (nI 1)) zk_Mo_outside za_Mo_outside wl_Mo_91 ⟨rfl, rfl, Nat.le_of_ble_eq_true rfl, Nat.le_of_ble_eq_true rfl⟩ hl.1 rfl (Nat.le_of_ble_eq_true rfl) ⟨Nat.zero_le _, Nat.zero_le _⟩ dd_Mo_balance_3) hS (fun _ h => h) (fun H locs hP _ _ hS => ?_)
  refine zn_bne F dd_Mo_balance_6 (tgt := 27) rfl (fun h6 => ?_) (fun h6 => absurd (zs_vo (n := 1) (by decide) h6) hb)
  refine lv_iconst (v := nI 0) F.1 F.2.1 dd_Mo_balance_27 (by decide) ?_
  refine lv_goto F.1 F.2.1 dd_Mo_balance_28 (tgt := 47) rfl ?_
  exact zw_iret F hr hlk hP hS rfl rfl dd_Mo_balance_47
set_option maxHeartbeats 4000000 in
set_option maxRecDepth 100000 in
theorem zc_Mo_balance_bad2 (lc : Launch) (G : zw_G) (b0 : Nat) (T : zs_T) (i : Nat) (u : Int32) (k : Int32) (hi : i < 2) (hb : ¬ (zs_v u 4 ∧ zs_v k 6)) : zw_M lc ym_Mo_balance bm_Mo_balance 4 (some .int) { frames := 1, cells := 0, slots := 0, locals := 22 } G b0 26 (zq_p G b0 T) [.ref (b0 + 0), .int (nI i), .int u, .int k] (zw_Qi G b0 26 (zq_p G b0 T) (nI 0)) := by
  refine zw_of (by decide) (Nat.le_of_ble_eq_true rfl) ?_
  intro p e s m below meth cx ls F hr hlk hE hP hS hl
  have hl : lv_has ls 4 [(0, .ref (b0 + 0)), (1, .int (nI i)), (2, .int u), (3, .int k)] := hl
  refine lv_iload_n F.1 F.2.1 dd_Mo_balance_0 rfl (lv_at hl 1 rfl) ?_
  refine lv_iconst (v := nI 0) F.1 F.2.1 dd_Mo_balance_1 (by decide) ?_
  refine lv_iconst (v := nI 1) F.1 F.2.1 dd_Mo_balance_2 (by decide) ?_
  refine zw_goi (zw_rS F hE hP (zc_Mo_outside lc G b0 T (nI i) (nI 0) (nI 1)) zk_Mo_outside za_Mo_outside wl_Mo_91 ⟨rfl, rfl, Nat.le_of_ble_eq_true rfl, Nat.le_of_ble_eq_true rfl⟩ hl.1 rfl (Nat.le_of_ble_eq_true rfl) ⟨Nat.zero_le _, Nat.zero_le _⟩ dd_Mo_balance_3) hS (fun _ h => h) (fun H locs hP _ _ hS => ?_)
  refine zn_bne F dd_Mo_balance_6 (tgt := 27) rfl (fun h6 => absurd h6 (zn_ins (by omega) (by omega) (by decide))) (fun h6 => ?_)
  refine lv_iload_n F.1 F.2.1 dd_Mo_balance_9 rfl (lv_at hl 2 rfl) ?_
  refine lv_iconst (v := nI 0) F.1 F.2.1 dd_Mo_balance_10 (by decide) ?_
  refine lv_iconst (v := nI 3) F.1 F.2.1 dd_Mo_balance_11 (by decide) ?_
  refine zw_goi (zw_rS F hE hP (zc_Mo_outside lc G b0 T u (nI 0) (nI 3)) zk_Mo_outside za_Mo_outside wl_Mo_91 ⟨rfl, rfl, Nat.le_of_ble_eq_true rfl, Nat.le_of_ble_eq_true rfl⟩ hl.1 rfl (Nat.le_of_ble_eq_true rfl) ⟨Nat.zero_le _, Nat.zero_le _⟩ dd_Mo_balance_12) hS (fun _ h => h) (fun H locs hP _ _ hS => ?_)
  refine zn_bne F dd_Mo_balance_15 (tgt := 27) rfl (fun h15 => ?_) (fun h15 => ?_)
  · refine lv_iconst (v := nI 0) F.1 F.2.1 dd_Mo_balance_27 (by decide) ?_
    refine lv_goto F.1 F.2.1 dd_Mo_balance_28 (tgt := 47) rfl ?_
    exact zw_iret F hr hlk hP hS rfl rfl dd_Mo_balance_47
  · refine lv_iload_n F.1 F.2.1 dd_Mo_balance_18 rfl (lv_at hl 3 rfl) ?_
    refine lv_iconst (v := nI 0) F.1 F.2.1 dd_Mo_balance_19 (by decide) ?_
    refine lv_iconst (v := nI 5) F.1 F.2.1 dd_Mo_balance_20 (by decide) ?_
    refine zw_goi (zw_rS F hE hP (zc_Mo_outside lc G b0 T k (nI 0) (nI 5)) zk_Mo_outside za_Mo_outside wl_Mo_91 ⟨rfl, rfl, Nat.le_of_ble_eq_true rfl, Nat.le_of_ble_eq_true rfl⟩ hl.1 rfl (Nat.le_of_ble_eq_true rfl) ⟨Nat.zero_le _, Nat.zero_le _⟩ dd_Mo_balance_21) hS (fun _ h => h) (fun H locs hP _ _ hS => ?_)
    refine zn_beq F dd_Mo_balance_24 (tgt := 31) rfl (fun h24 => absurd ⟨zs_vo (n := 3) (by decide) h15, zs_vo (n := 5) (by decide) h24⟩ hb) (fun h24 => ?_)
    refine lv_iconst (v := nI 0) F.1 F.2.1 dd_Mo_balance_27 (by decide) ?_
    refine lv_goto F.1 F.2.1 dd_Mo_balance_28 (tgt := 47) rfl ?_
    exact zw_iret F hr hlk hP hS rfl rfl dd_Mo_balance_47
set_option maxHeartbeats 4000000 in
set_option maxRecDepth 100000 in
theorem zc_Mo_escrow (lc : Launch) (G : zw_G) (b0 : Nat) (T : zs_T) (i : Nat) (c : Nat) (k : Nat) (hi : i < 2) (hc : c < 3) (hk : k < 6) : zw_M lc ym_Mo_escrow bm_Mo_escrow 4 (some .int) { frames := 2, cells := 0, slots := 0, locals := 43 } G b0 26 (zq_p G b0 T) [.ref (b0 + 0), .int (nI i), .int (nI c), .int (nI k)] (zw_Qi G b0 26 (zq_p G b0 T) (T 20 (18 * i + 6 * c + k))) := by
  refine zw_of (by decide) (Nat.le_of_ble_eq_true rfl) ?_
  intro p e s m below meth cx ls F hr hlk hE hP hS hl
  have hl : lv_has ls 4 [(0, .ref (b0 + 0)), (1, .int (nI i)), (2, .int (nI c)), (3, .int (nI k))] := hl
  refine lv_iload_n F.1 F.2.1 dd_Mo_escrow_0 rfl (lv_at hl 1 rfl) ?_
  refine lv_iload_n F.1 F.2.1 dd_Mo_escrow_1 rfl (lv_at hl 2 rfl) ?_
  refine zw_goi (zw_rS F hE hP (zc_Mo_isEnd lc G b0 T i c (by first | omega | assumption) (by first | omega | assumption)) zk_Mo_isEnd za_Mo_isEnd wl_Mo_121 ⟨rfl, rfl, Nat.le_of_ble_eq_true rfl, Nat.le_of_ble_eq_true rfl⟩ hl.1 rfl (Nat.le_of_ble_eq_true rfl) ⟨Nat.zero_le _, Nat.zero_le _⟩ dd_Mo_escrow_2) hS (fun _ h => h) (fun H locs hP _ _ hS => ?_)
  refine lv_if_eq F.1 F.2.1 dd_Mo_escrow_5 (tgt := 17) rfl (fun h5 => absurd h5 (by decide)) (fun h5 => ?_)
  refine lv_iload_n F.1 F.2.1 dd_Mo_escrow_8 rfl (lv_at hl 3 rfl) ?_
  refine lv_iconst (v := nI 0) F.1 F.2.1 dd_Mo_escrow_9 (by decide) ?_
  refine lv_iconst (v := nI 5) F.1 F.2.1 dd_Mo_escrow_10 (by decide) ?_
  refine zw_goi (zw_rS F hE hP (zc_Mo_outside lc G b0 T (nI k) (nI 0) (nI 5)) zk_Mo_outside za_Mo_outside wl_Mo_91 ⟨rfl, rfl, Nat.le_of_ble_eq_true rfl, Nat.le_of_ble_eq_true rfl⟩ hl.1 rfl (Nat.le_of_ble_eq_true rfl) ⟨Nat.zero_le _, Nat.zero_le _⟩ dd_Mo_escrow_11) hS (fun _ h => h) (fun H locs hP _ _ hS => ?_)
  refine zn_beq F dd_Mo_escrow_14 (tgt := 21) rfl (fun h14 => ?_) (fun h14 => absurd h14 (zn_ins (by omega) (by omega) (by decide)))
  refine lv_aload_n F.1 F.2.1 dd_Mo_escrow_21 rfl (lv_at hl 0 rfl) ?_
  refine zm_gF F hE hP rfl rfl zi_Mo 20 (by decide) rfl wf_Mo_68 rfl dd_Mo_escrow_22 ?_
  refine lv_bipush (v := nI 18) F.1 F.2.1 dd_Mo_escrow_25 (by decide) ?_
  refine lv_iload_n F.1 F.2.1 dd_Mo_escrow_27 rfl (lv_at hl 1 rfl) ?_
  refine zn_imul F dd_Mo_escrow_28 ?_
  refine lv_bipush (v := nI 6) F.1 F.2.1 dd_Mo_escrow_29 (by decide) ?_
  refine lv_iload_n F.1 F.2.1 dd_Mo_escrow_31 rfl (lv_at hl 2 rfl) ?_
  refine zn_imul F dd_Mo_escrow_32 ?_
  refine zn_iadd F dd_Mo_escrow_33 ?_
  refine lv_iload_n F.1 F.2.1 dd_Mo_escrow_34 rfl (lv_at hl 3 rfl) ?_
  refine zn_iadd F dd_Mo_escrow_35 ?_
  refine zm_iald (x := 20) (k := ((18 * i) + (6 * c)) + k) (N := 36) F hE hP (by decide) (fun _ => rfl) (by omega) (by decide) dd_Mo_escrow_36 ?_
  exact zw_iret F hr hlk hP hS rfl rfl dd_Mo_escrow_37
set_option maxHeartbeats 4000000 in
set_option maxRecDepth 100000 in
theorem zc_Mo_escrow_bad (lc : Launch) (G : zw_G) (b0 : Nat) (T : zs_T) (l : Int32) (d : Int32) (k : Int32) (hb : ¬ (zs_v l 2 ∧ zs_v d 3)) : zw_M lc ym_Mo_escrow bm_Mo_escrow 4 (some .int) { frames := 2, cells := 0, slots := 0, locals := 43 } G b0 26 (zq_p G b0 T) [.ref (b0 + 0), .int l, .int d, .int k] (zw_Qi G b0 26 (zq_p G b0 T) (nI 0)) := by
  refine zw_of (by decide) (Nat.le_of_ble_eq_true rfl) ?_
  intro p e s m below meth cx ls F hr hlk hE hP hS hl
  have hl : lv_has ls 4 [(0, .ref (b0 + 0)), (1, .int l), (2, .int d), (3, .int k)] := hl
  refine lv_iload_n F.1 F.2.1 dd_Mo_escrow_0 rfl (lv_at hl 1 rfl) ?_
  refine lv_iload_n F.1 F.2.1 dd_Mo_escrow_1 rfl (lv_at hl 2 rfl) ?_
  refine zw_goi (zw_rS F hE hP (zc_Mo_isEnd_bad lc G b0 T l d (by first | omega | assumption)) zk_Mo_isEnd za_Mo_isEnd wl_Mo_121 ⟨rfl, rfl, Nat.le_of_ble_eq_true rfl, Nat.le_of_ble_eq_true rfl⟩ hl.1 rfl (Nat.le_of_ble_eq_true rfl) ⟨Nat.zero_le _, Nat.zero_le _⟩ dd_Mo_escrow_2) hS (fun _ h => h) (fun H locs hP _ _ hS => ?_)
  refine lv_if_eq F.1 F.2.1 dd_Mo_escrow_5 (tgt := 17) rfl (fun h5 => ?_) (fun h5 => absurd h5 (by decide))
  refine lv_iconst (v := nI 0) F.1 F.2.1 dd_Mo_escrow_17 (by decide) ?_
  refine lv_goto F.1 F.2.1 dd_Mo_escrow_18 (tgt := 37) rfl ?_
  exact zw_iret F hr hlk hP hS rfl rfl dd_Mo_escrow_37
set_option maxHeartbeats 4000000 in
set_option maxRecDepth 100000 in
theorem zc_Mo_escrow_bad2 (lc : Launch) (G : zw_G) (b0 : Nat) (T : zs_T) (i : Nat) (c : Nat) (k : Int32) (hi : i < 2) (hc : c < 3) (hb : ¬ zs_v k 6) : zw_M lc ym_Mo_escrow bm_Mo_escrow 4 (some .int) { frames := 2, cells := 0, slots := 0, locals := 43 } G b0 26 (zq_p G b0 T) [.ref (b0 + 0), .int (nI i), .int (nI c), .int k] (zw_Qi G b0 26 (zq_p G b0 T) (nI 0)) := by
  refine zw_of (by decide) (Nat.le_of_ble_eq_true rfl) ?_
  intro p e s m below meth cx ls F hr hlk hE hP hS hl
  have hl : lv_has ls 4 [(0, .ref (b0 + 0)), (1, .int (nI i)), (2, .int (nI c)), (3, .int k)] := hl
  refine lv_iload_n F.1 F.2.1 dd_Mo_escrow_0 rfl (lv_at hl 1 rfl) ?_
  refine lv_iload_n F.1 F.2.1 dd_Mo_escrow_1 rfl (lv_at hl 2 rfl) ?_
  refine zw_goi (zw_rS F hE hP (zc_Mo_isEnd lc G b0 T i c (by first | omega | assumption) (by first | omega | assumption)) zk_Mo_isEnd za_Mo_isEnd wl_Mo_121 ⟨rfl, rfl, Nat.le_of_ble_eq_true rfl, Nat.le_of_ble_eq_true rfl⟩ hl.1 rfl (Nat.le_of_ble_eq_true rfl) ⟨Nat.zero_le _, Nat.zero_le _⟩ dd_Mo_escrow_2) hS (fun _ h => h) (fun H locs hP _ _ hS => ?_)
  refine lv_if_eq F.1 F.2.1 dd_Mo_escrow_5 (tgt := 17) rfl (fun h5 => absurd h5 (by decide)) (fun h5 => ?_)
  refine lv_iload_n F.1 F.2.1 dd_Mo_escrow_8 rfl (lv_at hl 3 rfl) ?_
  refine lv_iconst (v := nI 0) F.1 F.2.1 dd_Mo_escrow_9 (by decide) ?_
  refine lv_iconst (v := nI 5) F.1 F.2.1 dd_Mo_escrow_10 (by decide) ?_
  refine zw_goi (zw_rS F hE hP (zc_Mo_outside lc G b0 T k (nI 0) (nI 5)) zk_Mo_outside za_Mo_outside wl_Mo_91 ⟨rfl, rfl, Nat.le_of_ble_eq_true rfl, Nat.le_of_ble_eq_true rfl⟩ hl.1 rfl (Nat.le_of_ble_eq_true rfl) ⟨Nat.zero_le _, Nat.zero_le _⟩ dd_Mo_escrow_11) hS (fun _ h => h) (fun H locs hP _ _ hS => ?_)
  refine zn_beq F dd_Mo_escrow_14 (tgt := 21) rfl (fun h14 => absurd (zs_vo (n := 5) (by decide) h14) hb) (fun h14 => ?_)
  refine lv_iconst (v := nI 0) F.1 F.2.1 dd_Mo_escrow_17 (by decide) ?_
  refine lv_goto F.1 F.2.1 dd_Mo_escrow_18 (tgt := 37) rfl ?_
  exact zw_iret F hr hlk hP hS rfl rfl dd_Mo_escrow_37
set_option maxHeartbeats 4000000 in
set_option maxRecDepth 100000 in
theorem zc_Mo_voucher (lc : Launch) (G : zw_G) (b0 : Nat) (T : zs_T) (i : Nat) (k : Nat) (hi : i < 2) (hk : k < 6) (hs : ¬ (nI k < nI 1 ∨ T 21 i < nI k)) : zw_M lc ym_Mo_voucher bm_Mo_voucher 3 (some .int) { frames := 1, cells := 0, slots := 0, locals := 22 } G b0 26 (zq_p G b0 T) [.ref (b0 + 0), .int (nI i), .int (nI k)] (zw_Qi G b0 26 (zq_p G b0 T) (nI 4 * T 22 (6 * i + k) + T 23 (6 * i + k))) := by
  refine zw_of (by decide) (Nat.le_of_ble_eq_true rfl) ?_
  intro p e s m below meth cx ls F hr hlk hE hP hS hl
  have hl : lv_has ls 3 [(0, .ref (b0 + 0)), (1, .int (nI i)), (2, .int (nI k))] := hl
  refine lv_iload_n F.1 F.2.1 dd_Mo_voucher_0 rfl (lv_at hl 1 rfl) ?_
  refine lv_iconst (v := nI 0) F.1 F.2.1 dd_Mo_voucher_1 (by decide) ?_
  refine lv_iconst (v := nI 1) F.1 F.2.1 dd_Mo_voucher_2 (by decide) ?_
  refine zw_goi (zw_rS F hE hP (zc_Mo_outside lc G b0 T (nI i) (nI 0) (nI 1)) zk_Mo_outside za_Mo_outside wl_Mo_91 ⟨rfl, rfl, Nat.le_of_ble_eq_true rfl, Nat.le_of_ble_eq_true rfl⟩ hl.1 rfl (Nat.le_of_ble_eq_true rfl) ⟨Nat.zero_le _, Nat.zero_le _⟩ dd_Mo_voucher_3) hS (fun _ h => h) (fun H locs hP _ _ hS => ?_)
  refine zn_bne F dd_Mo_voucher_6 (tgt := 23) rfl (fun h6 => absurd h6 (zn_ins (by omega) (by omega) (by decide))) (fun h6 => ?_)
  refine lv_iload_n F.1 F.2.1 dd_Mo_voucher_9 rfl (lv_at hl 2 rfl) ?_
  refine lv_iconst (v := nI 1) F.1 F.2.1 dd_Mo_voucher_10 (by decide) ?_
  refine lv_aload_n F.1 F.2.1 dd_Mo_voucher_11 rfl (lv_at hl 0 rfl) ?_
  refine zm_gF F hE hP rfl rfl zi_Mo 21 (by decide) rfl wf_Mo_71 rfl dd_Mo_voucher_12 ?_
  refine lv_iload_n F.1 F.2.1 dd_Mo_voucher_15 rfl (lv_at hl 1 rfl) ?_
  refine zm_iald (x := 21) (k := i) (N := 2) F hE hP (by decide) (fun _ => rfl) (by omega) (by decide) dd_Mo_voucher_16 ?_
  refine zw_goi (zw_rS F hE hP (zc_Mo_outside lc G b0 T (nI k) (nI 1) (T 21 i)) zk_Mo_outside za_Mo_outside wl_Mo_91 ⟨rfl, rfl, Nat.le_of_ble_eq_true rfl, Nat.le_of_ble_eq_true rfl⟩ hl.1 rfl (Nat.le_of_ble_eq_true rfl) ⟨Nat.zero_le _, Nat.zero_le _⟩ dd_Mo_voucher_17) hS (fun _ h => h) (fun H locs hP _ _ hS => ?_)
  refine zn_beq F dd_Mo_voucher_20 (tgt := 27) rfl (fun h20 => ?_) (fun h20 => absurd h20 hs)
  refine lv_iconst (v := nI 4) F.1 F.2.1 dd_Mo_voucher_27 (by decide) ?_
  refine lv_aload_n F.1 F.2.1 dd_Mo_voucher_28 rfl (lv_at hl 0 rfl) ?_
  refine zm_gF F hE hP rfl rfl zi_Mo 22 (by decide) rfl wf_Mo_74 rfl dd_Mo_voucher_29 ?_
  refine lv_bipush (v := nI 6) F.1 F.2.1 dd_Mo_voucher_32 (by decide) ?_
  refine lv_iload_n F.1 F.2.1 dd_Mo_voucher_34 rfl (lv_at hl 1 rfl) ?_
  refine zn_imul F dd_Mo_voucher_35 ?_
  refine lv_iload_n F.1 F.2.1 dd_Mo_voucher_36 rfl (lv_at hl 2 rfl) ?_
  refine zn_iadd F dd_Mo_voucher_37 ?_
  refine zm_iald (x := 22) (k := (6 * i) + k) (N := 12) F hE hP (by decide) (fun _ => rfl) (by omega) (by decide) dd_Mo_voucher_38 ?_
  refine lv_imul F.1 F.2.1 dd_Mo_voucher_39 ?_
  refine lv_aload_n F.1 F.2.1 dd_Mo_voucher_40 rfl (lv_at hl 0 rfl) ?_
  refine zm_gF F hE hP rfl rfl zi_Mo 23 (by decide) rfl wf_Mo_77 rfl dd_Mo_voucher_41 ?_
  refine lv_bipush (v := nI 6) F.1 F.2.1 dd_Mo_voucher_44 (by decide) ?_
  refine lv_iload_n F.1 F.2.1 dd_Mo_voucher_46 rfl (lv_at hl 1 rfl) ?_
  refine zn_imul F dd_Mo_voucher_47 ?_
  refine lv_iload_n F.1 F.2.1 dd_Mo_voucher_48 rfl (lv_at hl 2 rfl) ?_
  refine zn_iadd F dd_Mo_voucher_49 ?_
  refine zm_iald (x := 23) (k := (6 * i) + k) (N := 12) F hE hP (by decide) (fun _ => rfl) (by omega) (by decide) dd_Mo_voucher_50 ?_
  refine lv_iadd F.1 F.2.1 dd_Mo_voucher_51 ?_
  exact zw_iret F hr hlk hP hS rfl rfl dd_Mo_voucher_52
set_option maxHeartbeats 4000000 in
set_option maxRecDepth 100000 in
theorem zc_Mo_voucher_bad (lc : Launch) (G : zw_G) (b0 : Nat) (T : zs_T) (l : Int32) (k : Int32) (hb : ¬ zs_v l 2) : zw_M lc ym_Mo_voucher bm_Mo_voucher 3 (some .int) { frames := 1, cells := 0, slots := 0, locals := 22 } G b0 26 (zq_p G b0 T) [.ref (b0 + 0), .int l, .int k] (zw_Qi G b0 26 (zq_p G b0 T) (-1)) := by
  refine zw_of (by decide) (Nat.le_of_ble_eq_true rfl) ?_
  intro p e s m below meth cx ls F hr hlk hE hP hS hl
  have hl : lv_has ls 3 [(0, .ref (b0 + 0)), (1, .int l), (2, .int k)] := hl
  refine lv_iload_n F.1 F.2.1 dd_Mo_voucher_0 rfl (lv_at hl 1 rfl) ?_
  refine lv_iconst (v := nI 0) F.1 F.2.1 dd_Mo_voucher_1 (by decide) ?_
  refine lv_iconst (v := nI 1) F.1 F.2.1 dd_Mo_voucher_2 (by decide) ?_
  refine zw_goi (zw_rS F hE hP (zc_Mo_outside lc G b0 T l (nI 0) (nI 1)) zk_Mo_outside za_Mo_outside wl_Mo_91 ⟨rfl, rfl, Nat.le_of_ble_eq_true rfl, Nat.le_of_ble_eq_true rfl⟩ hl.1 rfl (Nat.le_of_ble_eq_true rfl) ⟨Nat.zero_le _, Nat.zero_le _⟩ dd_Mo_voucher_3) hS (fun _ h => h) (fun H locs hP _ _ hS => ?_)
  refine zn_bne F dd_Mo_voucher_6 (tgt := 23) rfl (fun h6 => ?_) (fun h6 => absurd (zs_vo (n := 1) (by decide) h6) hb)
  refine lv_iconst (v := (-1)) F.1 F.2.1 dd_Mo_voucher_23 (by decide) ?_
  refine lv_goto F.1 F.2.1 dd_Mo_voucher_24 (tgt := 52) rfl ?_
  exact zw_iret F hr hlk hP hS rfl rfl dd_Mo_voucher_52
set_option maxHeartbeats 4000000 in
set_option maxRecDepth 100000 in
theorem zc_Mo_voucher_bad2 (lc : Launch) (G : zw_G) (b0 : Nat) (T : zs_T) (i : Nat) (k : Int32) (hi : i < 2) (hb : k < nI 1 ∨ T 21 i < k) : zw_M lc ym_Mo_voucher bm_Mo_voucher 3 (some .int) { frames := 1, cells := 0, slots := 0, locals := 22 } G b0 26 (zq_p G b0 T) [.ref (b0 + 0), .int (nI i), .int k] (zw_Qi G b0 26 (zq_p G b0 T) (-1)) := by
  refine zw_of (by decide) (Nat.le_of_ble_eq_true rfl) ?_
  intro p e s m below meth cx ls F hr hlk hE hP hS hl
  have hl : lv_has ls 3 [(0, .ref (b0 + 0)), (1, .int (nI i)), (2, .int k)] := hl
  refine lv_iload_n F.1 F.2.1 dd_Mo_voucher_0 rfl (lv_at hl 1 rfl) ?_
  refine lv_iconst (v := nI 0) F.1 F.2.1 dd_Mo_voucher_1 (by decide) ?_
  refine lv_iconst (v := nI 1) F.1 F.2.1 dd_Mo_voucher_2 (by decide) ?_
  refine zw_goi (zw_rS F hE hP (zc_Mo_outside lc G b0 T (nI i) (nI 0) (nI 1)) zk_Mo_outside za_Mo_outside wl_Mo_91 ⟨rfl, rfl, Nat.le_of_ble_eq_true rfl, Nat.le_of_ble_eq_true rfl⟩ hl.1 rfl (Nat.le_of_ble_eq_true rfl) ⟨Nat.zero_le _, Nat.zero_le _⟩ dd_Mo_voucher_3) hS (fun _ h => h) (fun H locs hP _ _ hS => ?_)
  refine zn_bne F dd_Mo_voucher_6 (tgt := 23) rfl (fun h6 => absurd h6 (zn_ins (by omega) (by omega) (by decide))) (fun h6 => ?_)
  refine lv_iload_n F.1 F.2.1 dd_Mo_voucher_9 rfl (lv_at hl 2 rfl) ?_
  refine lv_iconst (v := nI 1) F.1 F.2.1 dd_Mo_voucher_10 (by decide) ?_
  refine lv_aload_n F.1 F.2.1 dd_Mo_voucher_11 rfl (lv_at hl 0 rfl) ?_
  refine zm_gF F hE hP rfl rfl zi_Mo 21 (by decide) rfl wf_Mo_71 rfl dd_Mo_voucher_12 ?_
  refine lv_iload_n F.1 F.2.1 dd_Mo_voucher_15 rfl (lv_at hl 1 rfl) ?_
  refine zm_iald (x := 21) (k := i) (N := 2) F hE hP (by decide) (fun _ => rfl) (by omega) (by decide) dd_Mo_voucher_16 ?_
  refine zw_goi (zw_rS F hE hP (zc_Mo_outside lc G b0 T k (nI 1) (T 21 i)) zk_Mo_outside za_Mo_outside wl_Mo_91 ⟨rfl, rfl, Nat.le_of_ble_eq_true rfl, Nat.le_of_ble_eq_true rfl⟩ hl.1 rfl (Nat.le_of_ble_eq_true rfl) ⟨Nat.zero_le _, Nat.zero_le _⟩ dd_Mo_voucher_17) hS (fun _ h => h) (fun H locs hP _ _ hS => ?_)
  refine zn_beq F dd_Mo_voucher_20 (tgt := 27) rfl (fun h20 => absurd hb h20) (fun h20 => ?_)
  refine lv_iconst (v := (-1)) F.1 F.2.1 dd_Mo_voucher_23 (by decide) ?_
  refine lv_goto F.1 F.2.1 dd_Mo_voucher_24 (tgt := 52) rfl ?_
  exact zw_iret F hr hlk hP hS rfl rfl dd_Mo_voucher_52
set_option maxHeartbeats 4000000 in
set_option maxRecDepth 100000 in
theorem zc_Mo_update (lc : Launch) (G : zw_G) (b0 : Nat) (T : zs_T) (i : Nat) (h : Int32) (x : Int32) (w : Int32) (hi : i < 2) (hh : T 1 (1 - i) = nI (zs_n (T 1 (1 - i)))) (hh2 : zs_n (T 1 (1 - i)) ≤ 1000) : zw_M lc ym_Mo_update bm_Mo_update 6 (some .int) { frames := 1, cells := 0, slots := 0, locals := 22 } G b0 26 (zq_p G b0 T) [.ref (b0 + 0), .int (nI i), .int h, .int x, .int w] (zw_Qi G b0 26 (zq_p G b0 (zs_mus T i h x w)) (zs_mur T i h x w)) := by
  refine zw_of (by decide) (Nat.le_of_ble_eq_true rfl) ?_
  intro p e s m below meth cx ls F hr hlk hE hP hS hl
  have hl : lv_has ls 6 [(0, .ref (b0 + 0)), (1, .int (nI i)), (2, .int h), (3, .int x), (4, .int w)] := hl
  refine lv_iload_n F.1 F.2.1 dd_Mo_update_0 rfl (lv_at hl 1 rfl) ?_
  refine lv_iconst (v := nI 0) F.1 F.2.1 dd_Mo_update_1 (by decide) ?_
  refine lv_iconst (v := nI 1) F.1 F.2.1 dd_Mo_update_2 (by decide) ?_
  refine zw_goi (zw_rS F hE hP (zc_Mo_outside lc G b0 T (nI i) (nI 0) (nI 1)) zk_Mo_outside za_Mo_outside wl_Mo_91 ⟨rfl, rfl, Nat.le_of_ble_eq_true rfl, Nat.le_of_ble_eq_true rfl⟩ hl.1 rfl (Nat.le_of_ble_eq_true rfl) ⟨Nat.zero_le _, Nat.zero_le _⟩ dd_Mo_update_3) hS (fun _ h => h) (fun H locs hP _ _ hS => ?_)
  refine zn_bne F dd_Mo_update_6 (tgt := 25) rfl (fun h6 => absurd h6 (zn_ins (by omega) (by omega) (by decide))) (fun h6 => ?_)
  refine lv_iload_n F.1 F.2.1 dd_Mo_update_9 rfl (lv_at hl 2 rfl) ?_
  refine lv_iconst (v := nI 1) F.1 F.2.1 dd_Mo_update_10 (by decide) ?_
  refine lv_aload_n F.1 F.2.1 dd_Mo_update_11 rfl (lv_at hl 0 rfl) ?_
  refine zm_gF F hE hP rfl rfl zi_Mo 1 (by decide) rfl wf_Mo_7 rfl dd_Mo_update_12 ?_
  refine lv_iconst (v := nI 1) F.1 F.2.1 dd_Mo_update_15 (by decide) ?_
  refine lv_iload_n F.1 F.2.1 dd_Mo_update_16 rfl (lv_at hl 1 rfl) ?_
  refine zn_isub F dd_Mo_update_17 (by omega) ?_
  refine zm_iald (x := 1) (k := 1 - i) (N := 2) F hE hP (by decide) (fun _ => rfl) (by omega) (by decide) dd_Mo_update_18 ?_
  refine zw_goi (zw_rS F hE hP (zc_Mo_outside lc G b0 T h (nI 1) (T 1 (1 - i))) zk_Mo_outside za_Mo_outside wl_Mo_91 ⟨rfl, rfl, Nat.le_of_ble_eq_true rfl, Nat.le_of_ble_eq_true rfl⟩ hl.1 rfl (Nat.le_of_ble_eq_true rfl) ⟨Nat.zero_le _, Nat.zero_le _⟩ dd_Mo_update_19) hS (fun _ h => h) (fun H locs hP _ _ hS => ?_)
  refine zn_beq F dd_Mo_update_22 (tgt := 27) rfl (fun h22 => ?_) (fun h22 => ?_)
  · obtain ⟨q, hq, hq1, rfl⟩ := zs_oq2 hh hh2 h22
    refine lv_iload_n F.1 F.2.1 dd_Mo_update_27 rfl (lv_at hl 3 rfl) ?_
    refine lv_iconst (v := nI 1) F.1 F.2.1 dd_Mo_update_28 (by decide) ?_
    refine lv_iand F.1 F.2.1 dd_Mo_update_29 ?_
    refine lv_iload_n F.1 F.2.1 dd_Mo_update_30 rfl (lv_at hl 3 rfl) ?_
    refine lv_iconst (v := nI 1) F.1 F.2.1 dd_Mo_update_31 (by decide) ?_
    refine lv_ishr F.1 F.2.1 dd_Mo_update_32 ?_
    refine lv_iconst (v := nI 1) F.1 F.2.1 dd_Mo_update_33 (by decide) ?_
    refine lv_iand F.1 F.2.1 dd_Mo_update_34 ?_
    refine lv_iadd F.1 F.2.1 dd_Mo_update_35 ?_
    refine lv_iload_n F.1 F.2.1 dd_Mo_update_36 rfl (lv_at hl 3 rfl) ?_
    refine lv_iconst (v := nI 2) F.1 F.2.1 dd_Mo_update_37 (by decide) ?_
    refine lv_ishr F.1 F.2.1 dd_Mo_update_38 ?_
    refine lv_iconst (v := nI 1) F.1 F.2.1 dd_Mo_update_39 (by decide) ?_
    refine lv_iand F.1 F.2.1 dd_Mo_update_40 ?_
    refine lv_iadd F.1 F.2.1 dd_Mo_update_41 ?_
    refine lv_iload_n F.1 F.2.1 dd_Mo_update_42 rfl (lv_at hl 3 rfl) ?_
    refine lv_iconst (v := nI 3) F.1 F.2.1 dd_Mo_update_43 (by decide) ?_
    refine lv_ishr F.1 F.2.1 dd_Mo_update_44 ?_
    refine lv_iconst (v := nI 1) F.1 F.2.1 dd_Mo_update_45 (by decide) ?_
    refine lv_iand F.1 F.2.1 dd_Mo_update_46 ?_
    refine lv_iadd F.1 F.2.1 dd_Mo_update_47 ?_
    refine zn_top (y := zs_sg x) (rfl) ?_
    refine lv_istore F.1 F.2.1 dd_Mo_update_48 hl (by decide) (lv' := [(5, .int (zs_sg x)), (0, .ref (b0 + 0)), (1, .int (nI i)), (2, .int (nI q)), (3, .int x), (4, .int w)]) rfl (fun ls hl => ?_)
    refine lv_iload F.1 F.2.1 dd_Mo_update_50 (lv_at hl 5 rfl) ?_
    refine lv_if_ne F.1 F.2.1 dd_Mo_update_52 (tgt := 61) rfl (fun h52 => ?_) (fun h52 => ?_)
    · refine lv_bipush (v := (-6)) F.1 F.2.1 dd_Mo_update_61 (by decide) ?_
      exact zw_iret F hr hlk hP hS (congrArg (zq_p G b0) (by rw [zs_mus, if_neg h22, if_neg h52])) (by rw [zs_mur, if_neg h22, if_neg h52]) dd_Mo_update_63
    · refine lv_iload F.1 F.2.1 dd_Mo_update_55 (lv_at hl 0 rfl) ?_
      refine lv_iconst (v := nI 3) F.1 F.2.1 dd_Mo_update_57 (by decide) ?_
      refine lv_icmp_ge F.1 F.2.1 dd_Mo_update_58 (tgt := 64) rfl (fun h58 => ?_) (fun h58 => ?_)
      · refine lv_aload_n F.1 F.2.1 dd_Mo_update_64 rfl (lv_at hl 1 rfl) ?_
        refine zm_gF F hE hP rfl rfl zi_Mo 2 (by decide) rfl wf_Mo_13 rfl dd_Mo_update_65 ?_
        refine lv_sipush (v := nI 1100) F.1 F.2.1 dd_Mo_update_68 (by decide) ?_
        refine lv_iload_n F.1 F.2.1 dd_Mo_update_71 rfl (lv_at hl 2 rfl) ?_
        refine zn_imul F dd_Mo_update_72 ?_
        refine lv_iload_n F.1 F.2.1 dd_Mo_update_73 rfl (lv_at hl 3 rfl) ?_
        refine zn_iadd F dd_Mo_update_74 ?_
        refine lv_iconst (v := nI 1) F.1 F.2.1 dd_Mo_update_75 (by decide) ?_
        refine zm_zast (x := 2) (k := (1100 * i) + q) (N := 2200) F hE hP hS (fun _ h => h) (by decide) (fun _ => rfl) (by omega) (by decide) (by decide) dd_Mo_update_76 (fun H locs hP hS => ?_)
        refine lv_aload_n F.1 F.2.1 dd_Mo_update_77 rfl (lv_at hl 1 rfl) ?_
        refine zm_gF F hE hP rfl rfl zi_Mo 3 (by decide) rfl wf_Mo_17 rfl dd_Mo_update_78 ?_
        refine lv_iload_n F.1 F.2.1 dd_Mo_update_81 rfl (lv_at hl 2 rfl) ?_
        refine lv_iload_n F.1 F.2.1 dd_Mo_update_82 rfl (lv_at hl 3 rfl) ?_
        refine lv_aload_n F.1 F.2.1 dd_Mo_update_83 rfl (lv_at hl 1 rfl) ?_
        refine zm_gF F hE hP rfl rfl zi_Mo 3 (by decide) rfl wf_Mo_17 rfl dd_Mo_update_84 ?_
        refine lv_iload_n F.1 F.2.1 dd_Mo_update_87 rfl (lv_at hl 2 rfl) ?_
        refine zm_iald (x := 3) (k := i) (N := 2) F hE hP (by decide) (fun _ => rfl) (by omega) (by decide) dd_Mo_update_88 ?_
        refine zn_top (y := T 3 i) (by rw [zs_wx (by decide)]) ?_
        refine lv_icmp_le F.1 F.2.1 dd_Mo_update_89 (tgt := 96) rfl (fun h89 => ?_) (fun h89 => ?_)
        · refine lv_aload_n F.1 F.2.1 dd_Mo_update_96 rfl (lv_at hl 1 rfl) ?_
          refine zm_gF F hE hP rfl rfl zi_Mo 3 (by decide) rfl wf_Mo_17 rfl dd_Mo_update_97 ?_
          refine lv_iload_n F.1 F.2.1 dd_Mo_update_100 rfl (lv_at hl 2 rfl) ?_
          refine zm_iald (x := 3) (k := i) (N := 2) F hE hP (by decide) (fun _ => rfl) (by omega) (by decide) dd_Mo_update_101 ?_
          refine zn_top (y := T 3 i) (by rw [zs_wx (by decide)]) ?_
          refine zm_iast (x := 3) (k := i) (N := 2) F hE hP hS (fun _ h => h) (by decide) (fun _ => rfl) (by omega) (by decide)  dd_Mo_update_102 (fun H locs hP hS => ?_)
          refine lv_iconst (v := nI 0) F.1 F.2.1 dd_Mo_update_103 (by decide) ?_
          exact zw_iret F hr hlk hP hS (congrArg (zq_p G b0) (by rw [zs_mus, if_neg h22, if_pos h52, if_pos h58]; rw [nI_clamp (by omega), zs_mw, if_pos h89])) (by rw [zs_mur, if_neg h22, if_pos h52, if_pos h58]) dd_Mo_update_104
        · refine lv_iload_n F.1 F.2.1 dd_Mo_update_92 rfl (lv_at hl 3 rfl) ?_
          refine lv_goto F.1 F.2.1 dd_Mo_update_93 (tgt := 102) rfl ?_
          refine zm_iast (x := 3) (k := i) (N := 2) F hE hP hS (fun _ h => h) (by decide) (fun _ => rfl) (by omega) (by decide)  dd_Mo_update_102 (fun H locs hP hS => ?_)
          refine lv_iconst (v := nI 0) F.1 F.2.1 dd_Mo_update_103 (by decide) ?_
          exact zw_iret F hr hlk hP hS (congrArg (zq_p G b0) (by rw [zs_mus, if_neg h22, if_pos h52, if_pos h58]; rw [nI_clamp (by omega), zs_mw, if_neg h89])) (by rw [zs_mur, if_neg h22, if_pos h52, if_pos h58]) dd_Mo_update_104
      · refine lv_bipush (v := (-6)) F.1 F.2.1 dd_Mo_update_61 (by decide) ?_
        exact zw_iret F hr hlk hP hS (congrArg (zq_p G b0) (by rw [zs_mus, if_neg h22, if_pos h52, if_neg h58])) (by rw [zs_mur, if_neg h22, if_pos h52, if_neg h58]) dd_Mo_update_63
  · refine lv_iconst (v := (-1)) F.1 F.2.1 dd_Mo_update_25 (by decide) ?_
    exact zw_iret F hr hlk hP hS (congrArg (zq_p G b0) (by rw [zs_mus, if_pos h22])) (by rw [zs_mur, if_pos h22]) dd_Mo_update_26
