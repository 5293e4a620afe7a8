set_option maxHeartbeats 4000000 in
set_option maxRecDepth 100000 in
theorem zc_Mo_send_bad (lc : Launch) (G : zw_G) (b0 : Nat) (T : zs_T) (l : Int32) (d : Int32) (w : Int32) (k : Int32) (a : Int32) (hb : ¬ (zs_v l 2 ∧ zs_v d 3)) : zw_M lc ym_Mo_send bm_Mo_send 10 (some .int) { frames := 2, cells := 0, slots := 0, locals := 43 } G b0 26 (zq_p G b0 T) [.ref (b0 + 0), .int l, .int d, .int w, .int k, .int a] (zw_Qi G b0 26 (zq_p G b0 T) (-1)) := by
  refine zw_of (by decide) (Nat.le_of_ble_eq_true rfl) ?_
  intro p e s m below meth cx ls F hr hlk hE hP hS hl
  have hl : lv_has ls 10 [(0, .ref (b0 + 0)), (1, .int l), (2, .int d), (3, .int w), (4, .int k), (5, .int a)] := hl
  refine lv_iload_n F.1 F.2.1 dd_Mo_send_0 rfl (lv_at hl 1 rfl) ?_
  refine lv_iload_n F.1 F.2.1 dd_Mo_send_1 rfl (lv_at hl 2 rfl) ?_
  refine zw_goi (zw_rS F hE hP (zc_Mo_isEnd_bad lc G b0 T l d (by first | omega | assumption)) zk_Mo_isEnd za_Mo_isEnd wl_Mo_121 ⟨rfl, rfl, Nat.le_of_ble_eq_true rfl, Nat.le_of_ble_eq_true rfl⟩ hl.1 rfl (Nat.le_of_ble_eq_true rfl) ⟨Nat.zero_le _, Nat.zero_le _⟩ dd_Mo_send_2) hS (fun _ h => h) (fun H locs hP _ _ hS => ?_)
  refine lv_if_eq F.1 F.2.1 dd_Mo_send_5 (tgt := 45) rfl (fun h5 => ?_) (fun h5 => absurd h5 (by decide))
  refine lv_iconst (v := (-1)) F.1 F.2.1 dd_Mo_send_45 (by decide) ?_
  exact zw_iret F hr hlk hP hS rfl rfl dd_Mo_send_46
set_option maxHeartbeats 4000000 in
set_option maxRecDepth 100000 in
theorem zc_Mo_send_bad2 (lc : Launch) (G : zw_G) (b0 : Nat) (T : zs_T) (i : Nat) (c : Nat) (w : Int32) (k : Int32) (a : Int32) (hi : i < 2) (hc : c < 3) (hb : (w < nI 0 ∨ nI 15 < w) ∨ (k < nI 0 ∨ T 21 i < k) ∨ (a < nI 1 ∨ nI 1000 < a)) : zw_M lc ym_Mo_send bm_Mo_send 10 (some .int) { frames := 2, cells := 0, slots := 0, locals := 43 } G b0 26 (zq_p G b0 T) [.ref (b0 + 0), .int (nI i), .int (nI c), .int w, .int k, .int a] (zw_Qi G b0 26 (zq_p G b0 T) (-1)) := by
  refine zw_of (by decide) (Nat.le_of_ble_eq_true rfl) ?_
  intro p e s m below meth cx ls F hr hlk hE hP hS hl
  have hl : lv_has ls 10 [(0, .ref (b0 + 0)), (1, .int (nI i)), (2, .int (nI c)), (3, .int w), (4, .int k), (5, .int a)] := hl
  refine lv_iload_n F.1 F.2.1 dd_Mo_send_0 rfl (lv_at hl 1 rfl) ?_
  refine lv_iload_n F.1 F.2.1 dd_Mo_send_1 rfl (lv_at hl 2 rfl) ?_
  refine zw_goi (zw_rS F hE hP (zc_Mo_isEnd lc G b0 T i c (by first | omega | assumption) (by first | omega | assumption)) zk_Mo_isEnd za_Mo_isEnd wl_Mo_121 ⟨rfl, rfl, Nat.le_of_ble_eq_true rfl, Nat.le_of_ble_eq_true rfl⟩ hl.1 rfl (Nat.le_of_ble_eq_true rfl) ⟨Nat.zero_le _, Nat.zero_le _⟩ dd_Mo_send_2) hS (fun _ h => h) (fun H locs hP _ _ hS => ?_)
  refine lv_if_eq F.1 F.2.1 dd_Mo_send_5 (tgt := 45) rfl (fun h5 => absurd h5 (by decide)) (fun h5 => ?_)
  refine lv_iload_n F.1 F.2.1 dd_Mo_send_8 rfl (lv_at hl 3 rfl) ?_
  refine lv_iconst (v := nI 0) F.1 F.2.1 dd_Mo_send_9 (by decide) ?_
  refine lv_bipush (v := nI 15) F.1 F.2.1 dd_Mo_send_10 (by decide) ?_
  refine zw_goi (zw_rS F hE hP (zc_Mo_outside lc G b0 T w (nI 0) (nI 15)) zk_Mo_outside za_Mo_outside wl_Mo_91 ⟨rfl, rfl, Nat.le_of_ble_eq_true rfl, Nat.le_of_ble_eq_true rfl⟩ hl.1 rfl (Nat.le_of_ble_eq_true rfl) ⟨Nat.zero_le _, Nat.zero_le _⟩ dd_Mo_send_12) hS (fun _ h => h) (fun H locs hP _ _ hS => ?_)
  refine zn_bne F dd_Mo_send_15 (tgt := 45) rfl (fun h15 => ?_) (fun h15 => ?_)
  · refine lv_iconst (v := (-1)) F.1 F.2.1 dd_Mo_send_45 (by decide) ?_
    exact zw_iret F hr hlk hP hS rfl rfl dd_Mo_send_46
  · refine lv_iload F.1 F.2.1 dd_Mo_send_18 (lv_at hl 4 rfl) ?_
    refine lv_iconst (v := nI 0) F.1 F.2.1 dd_Mo_send_20 (by decide) ?_
    refine lv_aload_n F.1 F.2.1 dd_Mo_send_21 rfl (lv_at hl 0 rfl) ?_
    refine zm_gF F hE hP rfl rfl zi_Mo 21 (by decide) rfl wf_Mo_71 rfl dd_Mo_send_22 ?_
    refine lv_iload_n F.1 F.2.1 dd_Mo_send_25 rfl (lv_at hl 1 rfl) ?_
    refine zm_iald (x := 21) (k := i) (N := 2) F hE hP (by decide) (fun _ => rfl) (by omega) (by decide) dd_Mo_send_26 ?_
    refine zw_goi (zw_rS F hE hP (zc_Mo_outside lc G b0 T k (nI 0) (T 21 i)) zk_Mo_outside za_Mo_outside wl_Mo_91 ⟨rfl, rfl, Nat.le_of_ble_eq_true rfl, Nat.le_of_ble_eq_true rfl⟩ hl.1 rfl (Nat.le_of_ble_eq_true rfl) ⟨Nat.zero_le _, Nat.zero_le _⟩ dd_Mo_send_27) hS (fun _ h => h) (fun H locs hP _ _ hS => ?_)
    refine zn_bne F dd_Mo_send_30 (tgt := 45) rfl (fun h30 => ?_) (fun h30 => ?_)
    · refine lv_iconst (v := (-1)) F.1 F.2.1 dd_Mo_send_45 (by decide) ?_
      exact zw_iret F hr hlk hP hS rfl rfl dd_Mo_send_46
    · refine lv_iload F.1 F.2.1 dd_Mo_send_33 (lv_at hl 5 rfl) ?_
      refine lv_iconst (v := nI 1) F.1 F.2.1 dd_Mo_send_35 (by decide) ?_
      refine lv_sipush (v := nI 1000) F.1 F.2.1 dd_Mo_send_36 (by decide) ?_
      refine zw_goi (zw_rS F hE hP (zc_Mo_outside lc G b0 T a (nI 1) (nI 1000)) zk_Mo_outside za_Mo_outside wl_Mo_91 ⟨rfl, rfl, Nat.le_of_ble_eq_true rfl, Nat.le_of_ble_eq_true rfl⟩ hl.1 rfl (Nat.le_of_ble_eq_true rfl) ⟨Nat.zero_le _, Nat.zero_le _⟩ dd_Mo_send_39) hS (fun _ h => h) (fun H locs hP _ _ hS => ?_)
      refine zn_beq F dd_Mo_send_42 (tgt := 47) rfl (fun h42 => Or.elim hb (fun z => absurd z h15) (fun y => Or.elim y (fun z => absurd z h30) (fun z => absurd z h42))) (fun h42 => ?_)
      refine lv_iconst (v := (-1)) F.1 F.2.1 dd_Mo_send_45 (by decide) ?_
      exact zw_iret F hr hlk hP hS rfl rfl dd_Mo_send_46
set_option maxHeartbeats 4000000 in
set_option maxRecDepth 100000 in
theorem zl_Mo_voucherFor {p : Program} {e : Env} {R : Room} {s : State} {m : MethodId} {below : List Frame} {meth : Method} {cx : Code} {av : Array Value} (lc : Launch) (G : zw_G) (b0 : Nat) (T : zs_T) (i : Nat) (x : Int32) (c n : Nat) (hi : i < 2) (hn : T 21 i = nI n) (hn2 : n ≤ 5) (r0 : Nat) (F : CallFix p m cx bm_Mo_voucherFor 5 s av zw_WS "TwinLedgersModel") (hr : meth.sig.returnType = some .int) (hlk : meth.locks = false) (hE : zw_E G s) : ∀ (r k : Nat), k + r = n + 1 → 1 ≤ k → zs_fv (fun z => T 22 (6 * i + z)) (fun z => T 23 (6 * i + z)) x (nI c) k r = r0 → ∀ (ls : Array Slot) (H : Heap) (locs : List Loc), lv_has ls 5 [(4, .int (nI k)), (0, .ref (b0 + 0)), (1, .int (nI i)), (2, .int x), (3, .int (nI c))] → va_P G.1 zw_cl (zw_l b0 26 (zq_p G b0 T)) H → va_S (zw_A b0 26) s.heap H locs → W p lc e R s m av below meth cx H locs 0 0 (MQ below (zw_Qi G b0 26 (zq_p G b0 T) (nI r0)) av s 0 0 (zw_A b0 26)) (F0 m 3 ls []) := by
  intro r
  induction r with
  | zero =>
    intro k hk hk1 hres ls H locs hl hP hS
    refine lv_iload F.1 F.2.1 dd_Mo_voucherFor_3 (lv_at hl 0 rfl) ?_
    refine lv_aload_n F.1 F.2.1 dd_Mo_voucherFor_5 rfl (lv_at hl 1 rfl) ?_
    refine zm_gF F hE hP rfl rfl zi_Mo 21 (by decide) rfl wf_Mo_71 rfl dd_Mo_voucherFor_6 ?_
    refine lv_iload_n F.1 F.2.1 dd_Mo_voucherFor_9 rfl (lv_at hl 2 rfl) ?_
    refine zm_iald (x := 21) (k := i) (N := 2) F hE hP (by decide) (fun _ => rfl) (by omega) (by decide) dd_Mo_voucherFor_10 ?_
    refine zn_top (y := nI n) (hn) ?_
    refine zn_cgt F dd_Mo_voucherFor_11 (tgt := 55) rfl (by omega) (by omega) (fun h11 => ?_) (fun h11 => absurd (show n < k by omega) h11)
    refine lv_iconst (v := nI 0) F.1 F.2.1 dd_Mo_voucherFor_55 (by decide) ?_
    exact zw_iret F hr hlk hP hS rfl (by rw [← hres]; rfl) dd_Mo_voucherFor_56
  | succ r ih =>
    intro k hk hk1 hres ls H locs hl hP hS
    refine lv_iload F.1 F.2.1 dd_Mo_voucherFor_3 (lv_at hl 0 rfl) ?_
    refine lv_aload_n F.1 F.2.1 dd_Mo_voucherFor_5 rfl (lv_at hl 1 rfl) ?_
    refine zm_gF F hE hP rfl rfl zi_Mo 21 (by decide) rfl wf_Mo_71 rfl dd_Mo_voucherFor_6 ?_
    refine lv_iload_n F.1 F.2.1 dd_Mo_voucherFor_9 rfl (lv_at hl 2 rfl) ?_
    refine zm_iald (x := 21) (k := i) (N := 2) F hE hP (by decide) (fun _ => rfl) (by omega) (by decide) dd_Mo_voucherFor_10 ?_
    refine zn_top (y := nI n) (hn) ?_
    refine zn_cgt F dd_Mo_voucherFor_11 (tgt := 55) rfl (by omega) (by omega) (fun h11 => absurd h11 (by omega)) (fun h11 => ?_)
    refine lv_aload_n F.1 F.2.1 dd_Mo_voucherFor_14 rfl (lv_at hl 1 rfl) ?_
    refine zm_gF F hE hP rfl rfl zi_Mo 22 (by decide) rfl wf_Mo_74 rfl dd_Mo_voucherFor_15 ?_
    refine lv_bipush (v := nI 6) F.1 F.2.1 dd_Mo_voucherFor_18 (by decide) ?_
    refine lv_iload_n F.1 F.2.1 dd_Mo_voucherFor_20 rfl (lv_at hl 2 rfl) ?_
    refine zn_imul F dd_Mo_voucherFor_21 ?_
    refine lv_iload F.1 F.2.1 dd_Mo_voucherFor_22 (lv_at hl 0 rfl) ?_
    refine zn_iadd F dd_Mo_voucherFor_24 ?_
    refine zm_iald (x := 22) (k := (6 * i) + k) (N := 12) F hE hP (by decide) (fun _ => rfl) (by omega) (by decide) dd_Mo_voucherFor_25 ?_
    refine lv_iload_n F.1 F.2.1 dd_Mo_voucherFor_26 rfl (lv_at hl 3 rfl) ?_
    refine lv_icmp_ne F.1 F.2.1 dd_Mo_voucherFor_27 (tgt := 49) rfl (fun h27 => ?_) (fun h27 => ?_)
    · refine lv_iinc F.1 F.2.1 dd_Mo_voucherFor_49 hl (k := 0) rfl (v := nI (k + 1)) (nI_1 _) (by decide) (lv' := [(4, .int (nI (k + 1))), (0, .ref (b0 + 0)), (1, .int (nI i)), (2, .int x), (3, .int (nI c))]) rfl (fun ls hl => ?_)
      refine lv_goto F.1 F.2.1 dd_Mo_voucherFor_52 (tgt := 3) rfl ?_
      exact ih (k + 1) (by omega) (by omega) (by rw [← hres, zs_fvs, if_neg h27]) ls H locs (lv_sub hl [0, 1, 2, 3, 4] rfl) hP hS
    · refine lv_aload_n F.1 F.2.1 dd_Mo_voucherFor_30 rfl (lv_at hl 1 rfl) ?_
      refine zm_gF F hE hP rfl rfl zi_Mo 23 (by decide) rfl wf_Mo_77 rfl dd_Mo_voucherFor_31 ?_
      refine lv_bipush (v := nI 6) F.1 F.2.1 dd_Mo_voucherFor_34 (by decide) ?_
      refine lv_iload_n F.1 F.2.1 dd_Mo_voucherFor_36 rfl (lv_at hl 2 rfl) ?_
      refine zn_imul F dd_Mo_voucherFor_37 ?_
      refine lv_iload F.1 F.2.1 dd_Mo_voucherFor_38 (lv_at hl 0 rfl) ?_
      refine zn_iadd F dd_Mo_voucherFor_40 ?_
      refine zm_iald (x := 23) (k := (6 * i) + k) (N := 12) F hE hP (by decide) (fun _ => rfl) (by omega) (by decide) dd_Mo_voucherFor_41 ?_
      refine lv_iload_n F.1 F.2.1 dd_Mo_voucherFor_42 rfl (lv_at hl 4 rfl) ?_
      refine lv_icmp_ne F.1 F.2.1 dd_Mo_voucherFor_43 (tgt := 49) rfl (fun h43 => ?_) (fun h43 => ?_)
      · refine lv_iinc F.1 F.2.1 dd_Mo_voucherFor_49 hl (k := 0) rfl (v := nI (k + 1)) (nI_1 _) (by decide) (lv' := [(4, .int (nI (k + 1))), (0, .ref (b0 + 0)), (1, .int (nI i)), (2, .int x), (3, .int (nI c))]) rfl (fun ls hl => ?_)
        refine lv_goto F.1 F.2.1 dd_Mo_voucherFor_52 (tgt := 3) rfl ?_
        exact ih (k + 1) (by omega) (by omega) (by rw [← hres, zs_fvs, if_pos h27, if_neg h43]) ls H locs (lv_sub hl [0, 1, 2, 3, 4] rfl) hP hS
      · refine lv_iload F.1 F.2.1 dd_Mo_voucherFor_46 (lv_at hl 0 rfl) ?_
        exact zw_iret F hr hlk hP hS rfl (by rw [← hres, zs_fvs, if_pos h27, if_pos h43]) dd_Mo_voucherFor_48
set_option maxHeartbeats 4000000 in
set_option maxRecDepth 100000 in
theorem zc_Mo_voucherFor (lc : Launch) (G : zw_G) (b0 : Nat) (T : zs_T) (i : Nat) (x : Int32) (c : Nat) (n : Nat) (hi : i < 2) (hn : T 21 i = nI n) (hn2 : n ≤ 5) : zw_M lc ym_Mo_voucherFor bm_Mo_voucherFor 5 (some .int) { frames := 0, cells := 0, slots := 0, locals := 0 } G b0 26 (zq_p G b0 T) [.ref (b0 + 0), .int (nI i), .int x, .int (nI c)] (zw_Qi G b0 26 (zq_p G b0 T) (nI (zs_fv (fun z => T 22 (6 * i + z)) (fun z => T 23 (6 * i + z)) x (nI c) 1 n))) := by
  refine zw_of (by decide) (Nat.le_of_ble_eq_true rfl) ?_
  intro p e s m below meth cx ls F hr hlk hE hP hS hl
  have hl : lv_has ls 5 [(0, .ref (b0 + 0)), (1, .int (nI i)), (2, .int x), (3, .int (nI c))] := hl
  refine lv_iconst (v := nI 1) F.1 F.2.1 dd_Mo_voucherFor_0 (by decide) ?_
  refine lv_istore F.1 F.2.1 dd_Mo_voucherFor_1 hl (by decide) (lv' := [(4, .int (nI 1)), (0, .ref (b0 + 0)), (1, .int (nI i)), (2, .int x), (3, .int (nI c))]) rfl (fun ls hl => ?_)
  exact zl_Mo_voucherFor lc G b0 T i x c n hi hn hn2 _ F hr hlk hE n 1 (by omega) (by omega) rfl ls _ _ (lv_sub hl [0, 1, 2, 3, 4] rfl) hP hS
def zr_Mo_takes (T : zs_T) (i : Nat) (c : Nat) (q : Nat) (a : Int32) (u : Nat) (bk : Nat) (n : Nat) : Int32 := if u % 4 = 3 then (nI 0) else (if T 16 q ≤ 0 then (if nI (zs_fv (fun z => T 22 (6 * i + z)) (fun z => T 23 (6 * i + z)) (T 12 q) (nI c) 1 n) = 0 then (if n = 5 then (nI 0) else (nI 1)) else (nI 1)) else (if a ≤ T 20 (((18 * i) + (6 * c)) + (bk - 1)) then (nI 1) else (nI 0)))
def zu_Mo_takes (T : zs_T) (i : Nat) (c : Nat) (q : Nat) (a : Int32) (u : Nat) (bk : Nat) (n : Nat) : zs_T := if u % 4 = 3 then (T) else (if T 16 q ≤ 0 then (if nI (zs_fv (fun z => T 22 (6 * i + z)) (fun z => T 23 (6 * i + z)) (T 12 q) (nI c) 1 n) = 0 then (if n = 5 then (T) else (zs_w (zs_w (zs_w (zs_w T 21 i (nI (n + 1))) 22 ((6 * i) + (n + 1)) (T 12 q)) 23 ((6 * i) + (n + 1)) (nI c)) 19 (((24 * i) + (6 * (u % 4))) + (n + 1)) ((T 19 (((24 * i) + (6 * (u % 4))) + (n + 1))) + a))) else (zs_w T 19 (((24 * i) + (6 * (u % 4))) + (zs_fv (fun z => T 22 (6 * i + z)) (fun z => T 23 (6 * i + z)) (T 12 q) (nI c) 1 n)) ((T 19 (((24 * i) + (6 * (u % 4))) + (zs_fv (fun z => T 22 (6 * i + z)) (fun z => T 23 (6 * i + z)) (T 12 q) (nI c) 1 n))) + a))) else (if a ≤ T 20 (((18 * i) + (6 * c)) + (bk - 1)) then (zs_w (zs_w T 20 (((18 * i) + (6 * c)) + (bk - 1)) ((T 20 (((18 * i) + (6 * c)) + (bk - 1))) - a)) 19 (((24 * i) + (6 * (u % 4))) + (bk - 1)) ((T 19 (((24 * i) + (6 * (u % 4))) + (bk - 1))) + a)) else (T)))
set_option maxHeartbeats 4000000 in
set_option maxRecDepth 100000 in
theorem zc_Mo_takes (lc : Launch) (G : zw_G) (b0 : Nat) (T : zs_T) (i : Nat) (c : Nat) (q : Nat) (a : Int32) (u : Nat) (bk : Nat) (n : Nat) (hi : i < 2) (hc : c < 3) (hq : q < 78) (hu : T 14 q = nI u) (hu2 : u < 16) (hbk : T 16 q = nI bk) (hbk6 : bk ≤ 6) (hn : T 21 i = nI n) (hn2 : n ≤ 5) : zw_M lc ym_Mo_takes bm_Mo_takes 8 (some .boolean) { frames := 1, cells := 0, slots := 0, locals := 24 } G b0 26 (zq_p G b0 T) [.ref (b0 + 0), .int (nI i), .int (nI c), .int (nI q), .int a] (zw_Qi G b0 26 (zq_p G b0 (zu_Mo_takes T i c q a u bk n)) (zr_Mo_takes T i c q a u bk n)) := by
  refine zw_of (by decide) (Nat.le_of_ble_eq_true rfl) ?_
  intro p e s m below meth cx ls F hr hlk hE hP hS hl
  have hl : lv_has ls 8 [(0, .ref (b0 + 0)), (1, .int (nI i)), (2, .int (nI c)), (3, .int (nI q)), (4, .int a)] := hl
  refine lv_aload_n F.1 F.2.1 dd_Mo_takes_0 rfl (lv_at hl 0 rfl) ?_
  refine zm_gF F hE hP rfl rfl zi_Mo 14 (by decide) rfl wf_Mo_50 rfl dd_Mo_takes_1 ?_
  refine lv_iload_n F.1 F.2.1 dd_Mo_takes_4 rfl (lv_at hl 3 rfl) ?_
  refine zm_iald (x := 14) (k := q) (N := 78) F hE hP (by decide) (fun _ => rfl) (by omega) (by decide) dd_Mo_takes_5 ?_
  refine zn_top (y := nI u) (hu) ?_
  refine lv_iconst (v := nI 4) F.1 F.2.1 dd_Mo_takes_6 (by decide) ?_
  refine zn_irem F dd_Mo_takes_7 (by omega) (by decide) (by decide) ?_
  refine lv_istore F.1 F.2.1 dd_Mo_takes_8 hl (by decide) (lv' := [(5, .int (nI (u % 4))), (0, .ref (b0 + 0)), (1, .int (nI i)), (2, .int (nI c)), (3, .int (nI q)), (4, .int a)]) rfl (fun ls hl => ?_)
  refine lv_iload F.1 F.2.1 dd_Mo_takes_10 (lv_at hl 0 rfl) ?_
  refine lv_iconst (v := nI 3) F.1 F.2.1 dd_Mo_takes_12 (by decide) ?_
  refine zn_cne F dd_Mo_takes_13 (tgt := 18) rfl (by omega) (by omega) (fun h13 => ?_) (fun h13 => ?_)
  · refine lv_aload_n F.1 F.2.1 dd_Mo_takes_18 rfl (lv_at hl 1 rfl) ?_
    refine zm_gF F hE hP rfl rfl zi_Mo 16 (by decide) rfl wf_Mo_56 rfl dd_Mo_takes_19 ?_
    refine lv_iload_n F.1 F.2.1 dd_Mo_takes_22 rfl (lv_at hl 4 rfl) ?_
    refine zm_iald (x := 16) (k := q) (N := 78) F hE hP (by decide) (fun _ => rfl) (by omega) (by decide) dd_Mo_takes_23 ?_
    refine lv_if_le F.1 F.2.1 dd_Mo_takes_24 (tgt := 102) rfl (fun h24 => ?_) (fun h24 => ?_)
    · refine lv_aload_n F.1 F.2.1 dd_Mo_takes_102 rfl (lv_at hl 1 rfl) ?_
      refine lv_iload_n F.1 F.2.1 dd_Mo_takes_103 rfl (lv_at hl 2 rfl) ?_
      refine lv_aload_n F.1 F.2.1 dd_Mo_takes_104 rfl (lv_at hl 1 rfl) ?_
      refine zm_gF F hE hP rfl rfl zi_Mo 12 (by decide) rfl wf_Mo_44 rfl dd_Mo_takes_105 ?_
      refine lv_iload_n F.1 F.2.1 dd_Mo_takes_108 rfl (lv_at hl 4 rfl) ?_
      refine zm_iald (x := 12) (k := q) (N := 78) F hE hP (by decide) (fun _ => rfl) (by omega) (by decide) dd_Mo_takes_109 ?_
      refine lv_iload_n F.1 F.2.1 dd_Mo_takes_110 rfl (lv_at hl 3 rfl) ?_
      refine zw_goi (zw_rV F hE hP (zc_Mo_voucherFor lc G b0 T i (T 12 q) c n (by first | omega | assumption) (by assumption) (by first | omega | assumption)) zk_Mo_voucherFor za_Mo_voucherFor zb_Mo_voucherFor wl_Mo_132 ⟨rfl, rfl, Nat.le_of_ble_eq_true rfl, Nat.le_of_ble_eq_true rfl⟩ (zm_recv hE hP rfl rfl) hl.1 rfl (Nat.le_of_ble_eq_true rfl) ⟨Nat.zero_le _, Nat.zero_le _⟩ dd_Mo_takes_111) hS (fun _ h => h) (fun H locs hP _ _ hS => ?_)
      refine lv_istore F.1 F.2.1 dd_Mo_takes_114 hl (by decide) (lv' := [(6, .int (nI (zs_fv (fun z => T 22 (6 * i + z)) (fun z => T 23 (6 * i + z)) (T 12 q) (nI c) 1 n))), (5, .int (nI (u % 4))), (0, .ref (b0 + 0)), (1, .int (nI i)), (2, .int (nI c)), (3, .int (nI q)), (4, .int a)]) rfl (fun ls hl => ?_)
      have hfv := zs_fv_le (fun z => T 22 (6 * i + z)) (fun z => T 23 (6 * i + z)) (T 12 q) (nI c) n 1
      refine lv_iload F.1 F.2.1 dd_Mo_takes_116 (lv_at hl 0 rfl) ?_
      refine lv_if_ne F.1 F.2.1 dd_Mo_takes_118 (tgt := 133) rfl (fun h118 => ?_) (fun h118 => ?_)
      · refine lv_iload F.1 F.2.1 dd_Mo_takes_133 (lv_at hl 0 rfl) ?_
        refine lv_if_ne F.1 F.2.1 dd_Mo_takes_135 (tgt := 187) rfl (fun h135 => ?_) (fun h135 => absurd h135 h118)
        refine lv_aload_n F.1 F.2.1 dd_Mo_takes_187 rfl (lv_at hl 2 rfl) ?_
        refine zm_gF F hE hP rfl rfl zi_Mo 19 (by decide) rfl wf_Mo_65 rfl dd_Mo_takes_188 ?_
        refine lv_bipush (v := nI 24) F.1 F.2.1 dd_Mo_takes_191 (by decide) ?_
        refine lv_iload_n F.1 F.2.1 dd_Mo_takes_193 rfl (lv_at hl 3 rfl) ?_
        refine zn_imul F dd_Mo_takes_194 ?_
        refine lv_bipush (v := nI 6) F.1 F.2.1 dd_Mo_takes_195 (by decide) ?_
        refine lv_iload F.1 F.2.1 dd_Mo_takes_197 (lv_at hl 1 rfl) ?_
        refine zn_imul F dd_Mo_takes_199 ?_
        refine zn_iadd F dd_Mo_takes_200 ?_
        refine lv_iload F.1 F.2.1 dd_Mo_takes_201 (lv_at hl 0 rfl) ?_
        refine zn_iadd F dd_Mo_takes_203 ?_
        refine lv_dup2_11 F.1 F.2.1 dd_Mo_takes_204 rfl rfl ?_
        refine zm_iald (x := 19) (k := ((24 * i) + (6 * (u % 4))) + (zs_fv (fun z => T 22 (6 * i + z)) (fun z => T 23 (6 * i + z)) (T 12 q) (nI c) 1 n)) (N := 48) F hE hP (by decide) (fun _ => rfl) (by omega) (by decide) dd_Mo_takes_205 ?_
        refine lv_iload F.1 F.2.1 dd_Mo_takes_206 (lv_at hl 6 rfl) ?_
        refine lv_iadd F.1 F.2.1 dd_Mo_takes_208 ?_
        refine zm_iast (x := 19) (k := ((24 * i) + (6 * (u % 4))) + (zs_fv (fun z => T 22 (6 * i + z)) (fun z => T 23 (6 * i + z)) (T 12 q) (nI c) 1 n)) (N := 48) F hE hP hS (fun _ h => h) (by decide) (fun _ => rfl) (by omega) (by decide)  dd_Mo_takes_209 (fun H locs hP hS => ?_)
        refine lv_iconst (v := nI 1) F.1 F.2.1 dd_Mo_takes_210 (by decide) ?_
        exact zw_zret F hr hlk hP hS (congrArg (zq_p G b0) (by rw [zu_Mo_takes, if_neg h13, if_pos h24, if_neg h118])) (by decide) (by rw [zr_Mo_takes, if_neg h13, if_pos h24, if_neg h118]) dd_Mo_takes_211
      · refine lv_aload_n F.1 F.2.1 dd_Mo_takes_121 rfl (lv_at hl 2 rfl) ?_
        refine zm_gF F hE hP rfl rfl zi_Mo 21 (by decide) rfl wf_Mo_71 rfl dd_Mo_takes_122 ?_
        refine lv_iload_n F.1 F.2.1 dd_Mo_takes_125 rfl (lv_at hl 3 rfl) ?_
        refine zm_iald (x := 21) (k := i) (N := 2) F hE hP (by decide) (fun _ => rfl) (by omega) (by decide) dd_Mo_takes_126 ?_
        refine zn_top (y := nI n) (hn) ?_
        refine lv_iconst (v := nI 5) F.1 F.2.1 dd_Mo_takes_127 (by decide) ?_
        refine zn_cne F dd_Mo_takes_128 (tgt := 133) rfl (by omega) (by omega) (fun h128 => ?_) (fun h128 => ?_)
        · refine lv_iload F.1 F.2.1 dd_Mo_takes_133 (lv_at hl 0 rfl) ?_
          refine lv_if_ne F.1 F.2.1 dd_Mo_takes_135 (tgt := 187) rfl (fun h135 => absurd h118 h135) (fun h135 => ?_)
          refine lv_aload_n F.1 F.2.1 dd_Mo_takes_138 rfl (lv_at hl 2 rfl) ?_
          refine zm_gF F hE hP rfl rfl zi_Mo 21 (by decide) rfl wf_Mo_71 rfl dd_Mo_takes_139 ?_
          refine lv_iload_n F.1 F.2.1 dd_Mo_takes_142 rfl (lv_at hl 3 rfl) ?_
          refine lv_dup2_11 F.1 F.2.1 dd_Mo_takes_143 rfl rfl ?_
          refine zm_iald (x := 21) (k := i) (N := 2) F hE hP (by decide) (fun _ => rfl) (by omega) (by decide) dd_Mo_takes_144 ?_
          refine zn_top (y := nI n) (hn) ?_
          refine lv_iconst (v := nI 1) F.1 F.2.1 dd_Mo_takes_145 (by decide) ?_
          refine zn_iadd F dd_Mo_takes_146 ?_
          refine zm_iast (x := 21) (k := i) (N := 2) F hE hP hS (fun _ h => h) (by decide) (fun _ => rfl) (by omega) (by decide)  dd_Mo_takes_147 (fun H locs hP hS => ?_)
          refine lv_aload_n F.1 F.2.1 dd_Mo_takes_148 rfl (lv_at hl 2 rfl) ?_
          refine zm_gF F hE hP rfl rfl zi_Mo 21 (by decide) rfl wf_Mo_71 rfl dd_Mo_takes_149 ?_
          refine lv_iload_n F.1 F.2.1 dd_Mo_takes_152 rfl (lv_at hl 3 rfl) ?_
          refine zm_iald (x := 21) (k := i) (N := 2) F hE hP (by decide) (fun _ => rfl) (by omega) (by decide) dd_Mo_takes_153 ?_
          refine zn_top (y := nI (n + 1)) (by rw [zs_ws]) ?_
          refine lv_istore F.1 F.2.1 dd_Mo_takes_154 hl (by decide) (lv' := [(6, .int (nI (n + 1))), (5, .int (nI (u % 4))), (0, .ref (b0 + 0)), (1, .int (nI i)), (2, .int (nI c)), (3, .int (nI q)), (4, .int a)]) rfl (fun ls hl => ?_)
          refine lv_aload_n F.1 F.2.1 dd_Mo_takes_156 rfl (lv_at hl 2 rfl) ?_
          refine zm_gF F hE hP rfl rfl zi_Mo 22 (by decide) rfl wf_Mo_74 rfl dd_Mo_takes_157 ?_
          refine lv_bipush (v := nI 6) F.1 F.2.1 dd_Mo_takes_160 (by decide) ?_
          refine lv_iload_n F.1 F.2.1 dd_Mo_takes_162 rfl (lv_at hl 3 rfl) ?_
          refine zn_imul F dd_Mo_takes_163 ?_
          refine lv_iload F.1 F.2.1 dd_Mo_takes_164 (lv_at hl 0 rfl) ?_
          refine zn_iadd F dd_Mo_takes_166 ?_
          refine lv_aload_n F.1 F.2.1 dd_Mo_takes_167 rfl (lv_at hl 2 rfl) ?_
          refine zm_gF F hE hP rfl rfl zi_Mo 12 (by decide) rfl wf_Mo_44 rfl dd_Mo_takes_168 ?_
          refine lv_iload_n F.1 F.2.1 dd_Mo_takes_171 rfl (lv_at hl 5 rfl) ?_
          refine zm_iald (x := 12) (k := q) (N := 78) F hE hP (by decide) (fun _ => rfl) (by omega) (by decide) dd_Mo_takes_172 ?_
          refine zn_top (y := T 12 q) (by rw [zs_wx (by decide)]) ?_
          refine zm_iast (x := 22) (k := (6 * i) + (n + 1)) (N := 12) F hE hP hS (fun _ h => h) (by decide) (fun _ => rfl) (by omega) (by decide)  dd_Mo_takes_173 (fun H locs hP hS => ?_)
          refine lv_aload_n F.1 F.2.1 dd_Mo_takes_174 rfl (lv_at hl 2 rfl) ?_
          refine zm_gF F hE hP rfl rfl zi_Mo 23 (by decide) rfl wf_Mo_77 rfl dd_Mo_takes_175 ?_
          refine lv_bipush (v := nI 6) F.1 F.2.1 dd_Mo_takes_178 (by decide) ?_
          refine lv_iload_n F.1 F.2.1 dd_Mo_takes_180 rfl (lv_at hl 3 rfl) ?_
          refine zn_imul F dd_Mo_takes_181 ?_
          refine lv_iload F.1 F.2.1 dd_Mo_takes_182 (lv_at hl 0 rfl) ?_
          refine zn_iadd F dd_Mo_takes_184 ?_
          refine lv_iload_n F.1 F.2.1 dd_Mo_takes_185 rfl (lv_at hl 4 rfl) ?_
          refine zm_iast (x := 23) (k := (6 * i) + (n + 1)) (N := 12) F hE hP hS (fun _ h => h) (by decide) (fun _ => rfl) (by omega) (by decide)  dd_Mo_takes_186 (fun H locs hP hS => ?_)
          refine lv_aload_n F.1 F.2.1 dd_Mo_takes_187 rfl (lv_at hl 2 rfl) ?_
          refine zm_gF F hE hP rfl rfl zi_Mo 19 (by decide) rfl wf_Mo_65 rfl dd_Mo_takes_188 ?_
          refine lv_bipush (v := nI 24) F.1 F.2.1 dd_Mo_takes_191 (by decide) ?_
          refine lv_iload_n F.1 F.2.1 dd_Mo_takes_193 rfl (lv_at hl 3 rfl) ?_
          refine zn_imul F dd_Mo_takes_194 ?_
          refine lv_bipush (v := nI 6) F.1 F.2.1 dd_Mo_takes_195 (by decide) ?_
          refine lv_iload F.1 F.2.1 dd_Mo_takes_197 (lv_at hl 1 rfl) ?_
          refine zn_imul F dd_Mo_takes_199 ?_
          refine zn_iadd F dd_Mo_takes_200 ?_
          refine lv_iload F.1 F.2.1 dd_Mo_takes_201 (lv_at hl 0 rfl) ?_
          refine zn_iadd F dd_Mo_takes_203 ?_
          refine lv_dup2_11 F.1 F.2.1 dd_Mo_takes_204 rfl rfl ?_
          refine zm_iald (x := 19) (k := ((24 * i) + (6 * (u % 4))) + (n + 1)) (N := 48) F hE hP (by decide) (fun _ => rfl) (by omega) (by decide) dd_Mo_takes_205 ?_
          refine zn_top (y := T 19 (((24 * i) + (6 * (u % 4))) + (n + 1))) (by rw [zs_wx (by decide), zs_wx (by decide), zs_wx (by decide)]) ?_
          refine lv_iload F.1 F.2.1 dd_Mo_takes_206 (lv_at hl 6 rfl) ?_
          refine lv_iadd F.1 F.2.1 dd_Mo_takes_208 ?_
          refine zm_iast (x := 19) (k := ((24 * i) + (6 * (u % 4))) + (n + 1)) (N := 48) F hE hP hS (fun _ h => h) (by decide) (fun _ => rfl) (by omega) (by decide)  dd_Mo_takes_209 (fun H locs hP hS => ?_)
          refine lv_iconst (v := nI 1) F.1 F.2.1 dd_Mo_takes_210 (by decide) ?_
          exact zw_zret F hr hlk hP hS (congrArg (zq_p G b0) (by rw [zu_Mo_takes, if_neg h13, if_pos h24, if_pos h118, if_neg h128])) (by decide) (by rw [zr_Mo_takes, if_neg h13, if_pos h24, if_pos h118, if_neg h128]) dd_Mo_takes_211
        · refine lv_iconst (v := nI 0) F.1 F.2.1 dd_Mo_takes_131 (by decide) ?_
          exact zw_zret F hr hlk hP hS (congrArg (zq_p G b0) (by rw [zu_Mo_takes, if_neg h13, if_pos h24, if_pos h118, if_pos h128])) (by decide) (by rw [zr_Mo_takes, if_neg h13, if_pos h24, if_pos h118, if_pos h128]) dd_Mo_takes_132
    · have hb1 : 1 ≤ bk := zn_pos1 hbk h24
      refine lv_aload_n F.1 F.2.1 dd_Mo_takes_27 rfl (lv_at hl 1 rfl) ?_
      refine zm_gF F hE hP rfl rfl zi_Mo 16 (by decide) rfl wf_Mo_56 rfl dd_Mo_takes_28 ?_
      refine lv_iload_n F.1 F.2.1 dd_Mo_takes_31 rfl (lv_at hl 4 rfl) ?_
      refine zm_iald (x := 16) (k := q) (N := 78) F hE hP (by decide) (fun _ => rfl) (by omega) (by decide) dd_Mo_takes_32 ?_
      refine zn_top (y := nI bk) (hbk) ?_
      refine lv_iconst (v := nI 1) F.1 F.2.1 dd_Mo_takes_33 (by decide) ?_
      refine zn_isub F dd_Mo_takes_34 (by omega) ?_
      refine lv_istore F.1 F.2.1 dd_Mo_takes_35 hl (by decide) (lv' := [(6, .int (nI (bk - 1))), (5, .int (nI (u % 4))), (0, .ref (b0 + 0)), (1, .int (nI i)), (2, .int (nI c)), (3, .int (nI q)), (4, .int a)]) rfl (fun ls hl => ?_)
      refine lv_bipush (v := nI 18) F.1 F.2.1 dd_Mo_takes_37 (by decide) ?_
      refine lv_iload_n F.1 F.2.1 dd_Mo_takes_39 rfl (lv_at hl 3 rfl) ?_
      refine zn_imul F dd_Mo_takes_40 ?_
      refine lv_bipush (v := nI 6) F.1 F.2.1 dd_Mo_takes_41 (by decide) ?_
      refine lv_iload_n F.1 F.2.1 dd_Mo_takes_43 rfl (lv_at hl 4 rfl) ?_
      refine zn_imul F dd_Mo_takes_44 ?_
      refine zn_iadd F dd_Mo_takes_45 ?_
      refine lv_iload F.1 F.2.1 dd_Mo_takes_46 (lv_at hl 0 rfl) ?_
      refine zn_iadd F dd_Mo_takes_48 ?_
      refine lv_istore F.1 F.2.1 dd_Mo_takes_49 hl (by decide) (lv' := [(7, .int (nI (((18 * i) + (6 * c)) + (bk - 1)))), (6, .int (nI (bk - 1))), (5, .int (nI (u % 4))), (0, .ref (b0 + 0)), (1, .int (nI i)), (2, .int (nI c)), (3, .int (nI q)), (4, .int a)]) rfl (fun ls hl => ?_)
      refine lv_aload_n F.1 F.2.1 dd_Mo_takes_51 rfl (lv_at hl 3 rfl) ?_
      refine zm_gF F hE hP rfl rfl zi_Mo 20 (by decide) rfl wf_Mo_68 rfl dd_Mo_takes_52 ?_
      refine lv_iload F.1 F.2.1 dd_Mo_takes_55 (lv_at hl 0 rfl) ?_
      refine zm_iald (x := 20) (k := ((18 * i) + (6 * c)) + (bk - 1)) (N := 36) F hE hP (by decide) (fun _ => rfl) (by omega) (by decide) dd_Mo_takes_57 ?_
      refine lv_iload F.1 F.2.1 dd_Mo_takes_58 (lv_at hl 7 rfl) ?_
      refine lv_icmp_ge F.1 F.2.1 dd_Mo_takes_60 (tgt := 65) rfl (fun h60 => ?_) (fun h60 => ?_)
      · refine lv_aload_n F.1 F.2.1 dd_Mo_takes_65 rfl (lv_at hl 3 rfl) ?_
        refine zm_gF F hE hP rfl rfl zi_Mo 20 (by decide) rfl wf_Mo_68 rfl dd_Mo_takes_66 ?_
        refine lv_iload F.1 F.2.1 dd_Mo_takes_69 (lv_at hl 0 rfl) ?_
        refine lv_dup2_11 F.1 F.2.1 dd_Mo_takes_71 rfl rfl ?_
        refine zm_iald (x := 20) (k := ((18 * i) + (6 * c)) + (bk - 1)) (N := 36) F hE hP (by decide) (fun _ => rfl) (by omega) (by decide) dd_Mo_takes_72 ?_
        refine lv_iload F.1 F.2.1 dd_Mo_takes_73 (lv_at hl 7 rfl) ?_
        refine lv_isub F.1 F.2.1 dd_Mo_takes_75 ?_
        refine zm_iast (x := 20) (k := ((18 * i) + (6 * c)) + (bk - 1)) (N := 36) F hE hP hS (fun _ h => h) (by decide) (fun _ => rfl) (by omega) (by decide)  dd_Mo_takes_76 (fun H locs hP hS => ?_)
        refine lv_aload_n F.1 F.2.1 dd_Mo_takes_77 rfl (lv_at hl 3 rfl) ?_
        refine zm_gF F hE hP rfl rfl zi_Mo 19 (by decide) rfl wf_Mo_65 rfl dd_Mo_takes_78 ?_
        refine lv_bipush (v := nI 24) F.1 F.2.1 dd_Mo_takes_81 (by decide) ?_
        refine lv_iload_n F.1 F.2.1 dd_Mo_takes_83 rfl (lv_at hl 4 rfl) ?_
        refine zn_imul F dd_Mo_takes_84 ?_
        refine lv_bipush (v := nI 6) F.1 F.2.1 dd_Mo_takes_85 (by decide) ?_
        refine lv_iload F.1 F.2.1 dd_Mo_takes_87 (lv_at hl 2 rfl) ?_
        refine zn_imul F dd_Mo_takes_89 ?_
        refine zn_iadd F dd_Mo_takes_90 ?_
        refine lv_iload F.1 F.2.1 dd_Mo_takes_91 (lv_at hl 1 rfl) ?_
        refine zn_iadd F dd_Mo_takes_93 ?_
        refine lv_dup2_11 F.1 F.2.1 dd_Mo_takes_94 rfl rfl ?_
        refine zm_iald (x := 19) (k := ((24 * i) + (6 * (u % 4))) + (bk - 1)) (N := 48) F hE hP (by decide) (fun _ => rfl) (by omega) (by decide) dd_Mo_takes_95 ?_
        refine zn_top (y := T 19 (((24 * i) + (6 * (u % 4))) + (bk - 1))) (by rw [zs_wx (by decide)]) ?_
        refine lv_iload F.1 F.2.1 dd_Mo_takes_96 (lv_at hl 7 rfl) ?_
        refine lv_iadd F.1 F.2.1 dd_Mo_takes_98 ?_
        refine zm_iast (x := 19) (k := ((24 * i) + (6 * (u % 4))) + (bk - 1)) (N := 48) F hE hP hS (fun _ h => h) (by decide) (fun _ => rfl) (by omega) (by decide)  dd_Mo_takes_99 (fun H locs hP hS => ?_)
        refine lv_iconst (v := nI 1) F.1 F.2.1 dd_Mo_takes_100 (by decide) ?_
        exact zw_zret F hr hlk hP hS (congrArg (zq_p G b0) (by rw [zu_Mo_takes, if_neg h13, if_neg h24, if_pos h60])) (by decide) (by rw [zr_Mo_takes, if_neg h13, if_neg h24, if_pos h60]) dd_Mo_takes_101
      · refine lv_iconst (v := nI 0) F.1 F.2.1 dd_Mo_takes_63 (by decide) ?_
        exact zw_zret F hr hlk hP hS (congrArg (zq_p G b0) (by rw [zu_Mo_takes, if_neg h13, if_neg h24, if_neg h60])) (by decide) (by rw [zr_Mo_takes, if_neg h13, if_neg h24, if_neg h60]) dd_Mo_takes_64
  · refine lv_iconst (v := nI 0) F.1 F.2.1 dd_Mo_takes_16 (by decide) ?_
    exact zw_zret F hr hlk hP hS (congrArg (zq_p G b0) (by rw [zu_Mo_takes, if_pos h13])) (by decide) (by rw [zr_Mo_takes, if_pos h13]) dd_Mo_takes_17
def zr_Mo_receive (T : zs_T) (i : Nat) (c : Nat) (j : Nat) (h : Int32) (w : Int32) : Int32 := if T 7 ((3 * i) + c) = nI 3 then (if T 1 i < T 15 ((13 * ((3 * (1 - i)) + c)) + (j + 1)) then (if T 8 ((3 * i) + c) = 0 then (if T 18 ((13 * ((3 * (1 - i)) + c)) + (j + 1)) ≤ 0 then (if zs_pf T i h (nI ((12288 + (64 * c)) + (j + 1))) (nI 0) (zs_mp T ((13 * ((3 * (1 - i)) + c)) + (j + 1)) ((T 13 ((13 * ((3 * (1 - i)) + c)) + (j + 1))) + (zs_fl w))) = 0 then (if zr_Mo_takes T i c ((13 * ((3 * (1 - i)) + c)) + (j + 1)) ((T 13 ((13 * ((3 * (1 - i)) + c)) + (j + 1))) + (zs_fl w)) (zs_n (T 14 (13 * (3 * (1 - i) + c) + (j + 1)))) (zs_n (T 16 (13 * (3 * (1 - i) + c) + (j + 1)))) (zs_n (T 21 i)) = 0 then (if (zu_Mo_takes T i c ((13 * ((3 * (1 - i)) + c)) + (j + 1)) ((T 13 ((13 * ((3 * (1 - i)) + c)) + (j + 1))) + (zs_fl w)) (zs_n (T 14 (13 * (3 * (1 - i) + c) + (j + 1)))) (zs_n (T 16 (13 * (3 * (1 - i) + c) + (j + 1)))) (zs_n (T 21 i))) 8 ((3 * i) + c) = 0 then (nI 2) else (nI 2)) else (if (zu_Mo_takes T i c ((13 * ((3 * (1 - i)) + c)) + (j + 1)) ((T 13 ((13 * ((3 * (1 - i)) + c)) + (j + 1))) + (zs_fl w)) (zs_n (T 14 (13 * (3 * (1 - i) + c) + (j + 1)))) (zs_n (T 16 (13 * (3 * (1 - i) + c) + (j + 1)))) (zs_n (T 21 i))) 8 ((3 * i) + c) = 0 then (nI 1) else (nI 1))) else (zs_pf T i h (nI ((12288 + (64 * c)) + (j + 1))) (nI 0) (zs_mp T ((13 * ((3 * (1 - i)) + c)) + (j + 1)) ((T 13 ((13 * ((3 * (1 - i)) + c)) + (j + 1))) + (zs_fl w))))) else ((-8))) else (if nI (j + 1) = T 10 ((3 * i) + c) then (if zs_pf T i h (nI ((12288 + (64 * c)) + (j + 1))) (nI 0) (zs_mp T ((13 * ((3 * (1 - i)) + c)) + (j + 1)) ((T 13 ((13 * ((3 * (1 - i)) + c)) + (j + 1))) + (zs_fl w))) = 0 then (if zr_Mo_takes T i c ((13 * ((3 * (1 - i)) + c)) + (j + 1)) ((T 13 ((13 * ((3 * (1 - i)) + c)) + (j + 1))) + (zs_fl w)) (zs_n (T 14 (13 * (3 * (1 - i) + c) + (j + 1)))) (zs_n (T 16 (13 * (3 * (1 - i) + c) + (j + 1)))) (zs_n (T 21 i)) = 0 then (if (zu_Mo_takes T i c ((13 * ((3 * (1 - i)) + c)) + (j + 1)) ((T 13 ((13 * ((3 * (1 - i)) + c)) + (j + 1))) + (zs_fl w)) (zs_n (T 14 (13 * (3 * (1 - i) + c) + (j + 1)))) (zs_n (T 16 (13 * (3 * (1 - i) + c) + (j + 1)))) (zs_n (T 21 i))) 8 ((3 * i) + c) = 0 then (nI 2) else (nI 2)) else (if (zu_Mo_takes T i c ((13 * ((3 * (1 - i)) + c)) + (j + 1)) ((T 13 ((13 * ((3 * (1 - i)) + c)) + (j + 1))) + (zs_fl w)) (zs_n (T 14 (13 * (3 * (1 - i) + c) + (j + 1)))) (zs_n (T 16 (13 * (3 * (1 - i) + c) + (j + 1)))) (zs_n (T 21 i))) 8 ((3 * i) + c) = 0 then (nI 1) else (nI 1))) else (zs_pf T i h (nI ((12288 + (64 * c)) + (j + 1))) (nI 0) (zs_mp T ((13 * ((3 * (1 - i)) + c)) + (j + 1)) ((T 13 ((13 * ((3 * (1 - i)) + c)) + (j + 1))) + (zs_fl w))))) else ((-8)))) else ((-9))) else ((-2))
def zu_Mo_receive (T : zs_T) (i : Nat) (c : Nat) (j : Nat) (h : Int32) (w : Int32) : zs_T := if T 7 ((3 * i) + c) = nI 3 then (if T 1 i < T 15 ((13 * ((3 * (1 - i)) + c)) + (j + 1)) then (if T 8 ((3 * i) + c) = 0 then (if T 18 ((13 * ((3 * (1 - i)) + c)) + (j + 1)) ≤ 0 then (if zs_pf T i h (nI ((12288 + (64 * c)) + (j + 1))) (nI 0) (zs_mp T ((13 * ((3 * (1 - i)) + c)) + (j + 1)) ((T 13 ((13 * ((3 * (1 - i)) + c)) + (j + 1))) + (zs_fl w))) = 0 then (if zr_Mo_takes T i c ((13 * ((3 * (1 - i)) + c)) + (j + 1)) ((T 13 ((13 * ((3 * (1 - i)) + c)) + (j + 1))) + (zs_fl w)) (zs_n (T 14 (13 * (3 * (1 - i) + c) + (j + 1)))) (zs_n (T 16 (13 * (3 * (1 - i) + c) + (j + 1)))) (zs_n (T 21 i)) = 0 then (if (zu_Mo_takes T i c ((13 * ((3 * (1 - i)) + c)) + (j + 1)) ((T 13 ((13 * ((3 * (1 - i)) + c)) + (j + 1))) + (zs_fl w)) (zs_n (T 14 (13 * (3 * (1 - i) + c) + (j + 1)))) (zs_n (T 16 (13 * (3 * (1 - i) + c) + (j + 1)))) (zs_n (T 21 i))) 8 ((3 * i) + c) = 0 then (zs_w (zu_Mo_takes T i c ((13 * ((3 * (1 - i)) + c)) + (j + 1)) ((T 13 ((13 * ((3 * (1 - i)) + c)) + (j + 1))) + (zs_fl w)) (zs_n (T 14 (13 * (3 * (1 - i) + c) + (j + 1)))) (zs_n (T 16 (13 * (3 * (1 - i) + c) + (j + 1)))) (zs_n (T 21 i))) 18 ((13 * ((3 * (1 - i)) + c)) + (j + 1)) (nI 2)) else (zs_w (zs_w (zu_Mo_takes T i c ((13 * ((3 * (1 - i)) + c)) + (j + 1)) ((T 13 ((13 * ((3 * (1 - i)) + c)) + (j + 1))) + (zs_fl w)) (zs_n (T 14 (13 * (3 * (1 - i) + c) + (j + 1)))) (zs_n (T 16 (13 * (3 * (1 - i) + c) + (j + 1)))) (zs_n (T 21 i))) 18 ((13 * ((3 * (1 - i)) + c)) + (j + 1)) (nI 2)) 10 ((3 * i) + c) (nI ((j + 1) + 1)))) else (if (zu_Mo_takes T i c ((13 * ((3 * (1 - i)) + c)) + (j + 1)) ((T 13 ((13 * ((3 * (1 - i)) + c)) + (j + 1))) + (zs_fl w)) (zs_n (T 14 (13 * (3 * (1 - i) + c) + (j + 1)))) (zs_n (T 16 (13 * (3 * (1 - i) + c) + (j + 1)))) (zs_n (T 21 i))) 8 ((3 * i) + c) = 0 then (zs_w (zu_Mo_takes T i c ((13 * ((3 * (1 - i)) + c)) + (j + 1)) ((T 13 ((13 * ((3 * (1 - i)) + c)) + (j + 1))) + (zs_fl w)) (zs_n (T 14 (13 * (3 * (1 - i) + c) + (j + 1)))) (zs_n (T 16 (13 * (3 * (1 - i) + c) + (j + 1)))) (zs_n (T 21 i))) 18 ((13 * ((3 * (1 - i)) + c)) + (j + 1)) (nI 1)) else (zs_w (zs_w (zu_Mo_takes T i c ((13 * ((3 * (1 - i)) + c)) + (j + 1)) ((T 13 ((13 * ((3 * (1 - i)) + c)) + (j + 1))) + (zs_fl w)) (zs_n (T 14 (13 * (3 * (1 - i) + c) + (j + 1)))) (zs_n (T 16 (13 * (3 * (1 - i) + c) + (j + 1)))) (zs_n (T 21 i))) 18 ((13 * ((3 * (1 - i)) + c)) + (j + 1)) (nI 1)) 10 ((3 * i) + c) (nI ((j + 1) + 1))))) else (T)) else (T)) else (if nI (j + 1) = T 10 ((3 * i) + c) then (if zs_pf T i h (nI ((12288 + (64 * c)) + (j + 1))) (nI 0) (zs_mp T ((13 * ((3 * (1 - i)) + c)) + (j + 1)) ((T 13 ((13 * ((3 * (1 - i)) + c)) + (j + 1))) + (zs_fl w))) = 0 then (if zr_Mo_takes T i c ((13 * ((3 * (1 - i)) + c)) + (j + 1)) ((T 13 ((13 * ((3 * (1 - i)) + c)) + (j + 1))) + (zs_fl w)) (zs_n (T 14 (13 * (3 * (1 - i) + c) + (j + 1)))) (zs_n (T 16 (13 * (3 * (1 - i) + c) + (j + 1)))) (zs_n (T 21 i)) = 0 then (if (zu_Mo_takes T i c ((13 * ((3 * (1 - i)) + c)) + (j + 1)) ((T 13 ((13 * ((3 * (1 - i)) + c)) + (j + 1))) + (zs_fl w)) (zs_n (T 14 (13 * (3 * (1 - i) + c) + (j + 1)))) (zs_n (T 16 (13 * (3 * (1 - i) + c) + (j + 1)))) (zs_n (T 21 i))) 8 ((3 * i) + c) = 0 then (zs_w (zu_Mo_takes T i c ((13 * ((3 * (1 - i)) + c)) + (j + 1)) ((T 13 ((13 * ((3 * (1 - i)) + c)) + (j + 1))) + (zs_fl w)) (zs_n (T 14 (13 * (3 * (1 - i) + c) + (j + 1)))) (zs_n (T 16 (13 * (3 * (1 - i) + c) + (j + 1)))) (zs_n (T 21 i))) 18 ((13 * ((3 * (1 - i)) + c)) + (j + 1)) (nI 2)) else (zs_w (zs_w (zu_Mo_takes T i c ((13 * ((3 * (1 - i)) + c)) + (j + 1)) ((T 13 ((13 * ((3 * (1 - i)) + c)) + (j + 1))) + (zs_fl w)) (zs_n (T 14 (13 * (3 * (1 - i) + c) + (j + 1)))) (zs_n (T 16 (13 * (3 * (1 - i) + c) + (j + 1)))) (zs_n (T 21 i))) 18 ((13 * ((3 * (1 - i)) + c)) + (j + 1)) (nI 2)) 10 ((3 * i) + c) (nI ((j + 1) + 1)))) else (if (zu_Mo_takes T i c ((13 * ((3 * (1 - i)) + c)) + (j + 1)) ((T 13 ((13 * ((3 * (1 - i)) + c)) + (j + 1))) + (zs_fl w)) (zs_n (T 14 (13 * (3 * (1 - i) + c) + (j + 1)))) (zs_n (T 16 (13 * (3 * (1 - i) + c) + (j + 1)))) (zs_n (T 21 i))) 8 ((3 * i) + c) = 0 then (zs_w (zu_Mo_takes T i c ((13 * ((3 * (1 - i)) + c)) + (j + 1)) ((T 13 ((13 * ((3 * (1 - i)) + c)) + (j + 1))) + (zs_fl w)) (zs_n (T 14 (13 * (3 * (1 - i) + c) + (j + 1)))) (zs_n (T 16 (13 * (3 * (1 - i) + c) + (j + 1)))) (zs_n (T 21 i))) 18 ((13 * ((3 * (1 - i)) + c)) + (j + 1)) (nI 1)) else (zs_w (zs_w (zu_Mo_takes T i c ((13 * ((3 * (1 - i)) + c)) + (j + 1)) ((T 13 ((13 * ((3 * (1 - i)) + c)) + (j + 1))) + (zs_fl w)) (zs_n (T 14 (13 * (3 * (1 - i) + c) + (j + 1)))) (zs_n (T 16 (13 * (3 * (1 - i) + c) + (j + 1)))) (zs_n (T 21 i))) 18 ((13 * ((3 * (1 - i)) + c)) + (j + 1)) (nI 1)) 10 ((3 * i) + c) (nI ((j + 1) + 1))))) else (T)) else (T))) else (T)) else (T)
set_option maxHeartbeats 4000000 in
set_option maxRecDepth 100000 in
theorem zc_Mo_receive (lc : Launch) (G : zw_G) (b0 : Nat) (T : zs_T) (i : Nat) (c : Nat) (j : Nat) (h : Int32) (w : Int32) (hi : i < 2) (hc : c < 3) (hj : j < 12) (hs : ¬ (nI (j + 1) < nI 1 ∨ T 9 (3 * (1 - i) + c) < nI (j + 1))) (hpk : zs_MP T (13 * (3 * (1 - i) + c) + (j + 1))) (hv : T 21 i = nI (zs_n (T 21 i))) (hv2 : zs_n (T 21 i) ≤ 5) (hz : ∀ q, T 4 q = nI (zs_n (T 4 q)) ∧ zs_n (T 4 q) ≤ 128) : zw_M lc ym_Mo_receive bm_Mo_receive 10 (some .int) { frames := 3, cells := 0, slots := 0, locals := 76 } G b0 26 (zq_p G b0 T) [.ref (b0 + 0), .int (nI i), .int (nI c), .int (nI (j + 1)), .int h, .int w] (zw_Qi G b0 26 (zq_p G b0 (zu_Mo_receive T i c j h w)) (zr_Mo_receive T i c j h w)) := by
  refine zw_of (by decide) (Nat.le_of_ble_eq_true rfl) ?_
  intro p e s m below meth cx ls F hr hlk hE hP hS hl
  have hl : lv_has ls 10 [(0, .ref (b0 + 0)), (1, .int (nI i)), (2, .int (nI c)), (3, .int (nI (j + 1))), (4, .int h), (5, .int w)] := hl
  refine lv_iload_n F.1 F.2.1 dd_Mo_receive_0 rfl (lv_at hl 1 rfl) ?_
  refine lv_iload_n F.1 F.2.1 dd_Mo_receive_1 rfl (lv_at hl 2 rfl) ?_
  refine zw_goi (zw_rS F hE hP (zc_Mo_isEnd lc G b0 T i c (by first | omega | assumption) (by first | omega | assumption)) zk_Mo_isEnd za_Mo_isEnd wl_Mo_121 ⟨rfl, rfl, Nat.le_of_ble_eq_true rfl, Nat.le_of_ble_eq_true rfl⟩ hl.1 rfl (Nat.le_of_ble_eq_true rfl) ⟨Nat.zero_le _, Nat.zero_le _⟩ dd_Mo_receive_2) hS (fun _ h => h) (fun H locs hP _ _ hS => ?_)
  refine lv_if_eq F.1 F.2.1 dd_Mo_receive_5 (tgt := 28) rfl (fun h5 => absurd h5 (by decide)) (fun h5 => ?_)
  refine lv_iload_n F.1 F.2.1 dd_Mo_receive_8 rfl (lv_at hl 3 rfl) ?_
  refine lv_iconst (v := nI 1) F.1 F.2.1 dd_Mo_receive_9 (by decide) ?_
  refine lv_aload_n F.1 F.2.1 dd_Mo_receive_10 rfl (lv_at hl 0 rfl) ?_
  refine zm_gF F hE hP rfl rfl zi_Mo 9 (by decide) rfl wf_Mo_35 rfl dd_Mo_receive_11 ?_
  refine lv_iconst (v := nI 3) F.1 F.2.1 dd_Mo_receive_14 (by decide) ?_
  refine lv_iconst (v := nI 1) F.1 F.2.1 dd_Mo_receive_15 (by decide) ?_
  refine lv_iload_n F.1 F.2.1 dd_Mo_receive_16 rfl (lv_at hl 1 rfl) ?_
  refine zn_isub F dd_Mo_receive_17 (by omega) ?_
  refine zn_imul F dd_Mo_receive_18 ?_
  refine lv_iload_n F.1 F.2.1 dd_Mo_receive_19 rfl (lv_at hl 2 rfl) ?_
  refine zn_iadd F dd_Mo_receive_20 ?_
  refine zm_iald (x := 9) (k := (3 * (1 - i)) + c) (N := 6) F hE hP (by decide) (fun _ => rfl) (by omega) (by decide) dd_Mo_receive_21 ?_
  refine zw_goi (zw_rS F hE hP (zc_Mo_outside lc G b0 T (nI (j + 1)) (nI 1) (T 9 ((3 * (1 - i)) + c))) zk_Mo_outside za_Mo_outside wl_Mo_91 ⟨rfl, rfl, Nat.le_of_ble_eq_true rfl, Nat.le_of_ble_eq_true rfl⟩ hl.1 rfl (Nat.le_of_ble_eq_true rfl) ⟨Nat.zero_le _, Nat.zero_le _⟩ dd_Mo_receive_22) hS (fun _ h => h) (fun H locs hP _ _ hS => ?_)
  refine zn_beq F dd_Mo_receive_25 (tgt := 30) rfl (fun h25 => ?_) (fun h25 => absurd h25 hs)
  refine lv_iconst (v := nI 3) F.1 F.2.1 dd_Mo_receive_30 (by decide) ?_
  refine lv_iload_n F.1 F.2.1 dd_Mo_receive_31 rfl (lv_at hl 1 rfl) ?_
  refine zn_imul F dd_Mo_receive_32 ?_
  refine lv_iload_n F.1 F.2.1 dd_Mo_receive_33 rfl (lv_at hl 2 rfl) ?_
  refine zn_iadd F dd_Mo_receive_34 ?_
  refine lv_istore F.1 F.2.1 dd_Mo_receive_35 hl (by decide) (lv' := [(6, .int (nI ((3 * i) + c))), (0, .ref (b0 + 0)), (1, .int (nI i)), (2, .int (nI c)), (3, .int (nI (j + 1))), (4, .int h), (5, .int w)]) rfl (fun ls hl => ?_)
  refine lv_bipush (v := nI 13) F.1 F.2.1 dd_Mo_receive_37 (by decide) ?_
  refine lv_iconst (v := nI 3) F.1 F.2.1 dd_Mo_receive_39 (by decide) ?_
  refine lv_iconst (v := nI 1) F.1 F.2.1 dd_Mo_receive_40 (by decide) ?_
  refine lv_iload_n F.1 F.2.1 dd_Mo_receive_41 rfl (lv_at hl 2 rfl) ?_
  refine zn_isub F dd_Mo_receive_42 (by omega) ?_
  refine zn_imul F dd_Mo_receive_43 ?_
  refine lv_iload_n F.1 F.2.1 dd_Mo_receive_44 rfl (lv_at hl 3 rfl) ?_
  refine zn_iadd F dd_Mo_receive_45 ?_
  refine zn_imul F dd_Mo_receive_46 ?_
  refine lv_iload_n F.1 F.2.1 dd_Mo_receive_47 rfl (lv_at hl 4 rfl) ?_
  refine zn_iadd F dd_Mo_receive_48 ?_
  refine lv_istore F.1 F.2.1 dd_Mo_receive_49 hl (by decide) (lv' := [(7, .int (nI ((13 * ((3 * (1 - i)) + c)) + (j + 1)))), (6, .int (nI ((3 * i) + c))), (0, .ref (b0 + 0)), (1, .int (nI i)), (2, .int (nI c)), (3, .int (nI (j + 1))), (4, .int h), (5, .int w)]) rfl (fun ls hl => ?_)
  refine lv_aload_n F.1 F.2.1 dd_Mo_receive_51 rfl (lv_at hl 2 rfl) ?_
  refine zm_gF F hE hP rfl rfl zi_Mo 7 (by decide) rfl wf_Mo_29 rfl dd_Mo_receive_52 ?_
  refine lv_iload F.1 F.2.1 dd_Mo_receive_55 (lv_at hl 1 rfl) ?_
  refine zm_iald (x := 7) (k := (3 * i) + c) (N := 6) F hE hP (by decide) (fun _ => rfl) (by omega) (by decide) dd_Mo_receive_57 ?_
  refine lv_iconst (v := nI 3) F.1 F.2.1 dd_Mo_receive_58 (by decide) ?_
  refine lv_icmp_eq F.1 F.2.1 dd_Mo_receive_59 (tgt := 65) rfl (fun h59 => ?_) (fun h59 => ?_)
  · refine lv_aload_n F.1 F.2.1 dd_Mo_receive_65 rfl (lv_at hl 2 rfl) ?_
    refine zm_gF F hE hP rfl rfl zi_Mo 1 (by decide) rfl wf_Mo_7 rfl dd_Mo_receive_66 ?_
    refine lv_iload_n F.1 F.2.1 dd_Mo_receive_69 rfl (lv_at hl 3 rfl) ?_
    refine zm_iald (x := 1) (k := i) (N := 2) F hE hP (by decide) (fun _ => rfl) (by omega) (by decide) dd_Mo_receive_70 ?_
    refine lv_aload_n F.1 F.2.1 dd_Mo_receive_71 rfl (lv_at hl 2 rfl) ?_
    refine zm_gF F hE hP rfl rfl zi_Mo 15 (by decide) rfl wf_Mo_53 rfl dd_Mo_receive_72 ?_
    refine lv_iload F.1 F.2.1 dd_Mo_receive_75 (lv_at hl 0 rfl) ?_
    refine zm_iald (x := 15) (k := (13 * ((3 * (1 - i)) + c)) + (j + 1)) (N := 78) F hE hP (by decide) (fun _ => rfl) (by omega) (by decide) dd_Mo_receive_77 ?_
    refine lv_icmp_lt F.1 F.2.1 dd_Mo_receive_78 (tgt := 84) rfl (fun h78 => ?_) (fun h78 => ?_)
    · refine lv_aload_n F.1 F.2.1 dd_Mo_receive_84 rfl (lv_at hl 2 rfl) ?_
      refine zm_gF F hE hP rfl rfl zi_Mo 8 (by decide) rfl wf_Mo_32 rfl dd_Mo_receive_85 ?_
      refine lv_iload F.1 F.2.1 dd_Mo_receive_88 (lv_at hl 1 rfl) ?_
      refine zm_zald (x := 8) (k := (3 * i) + c) (N := 6) F hE hP (by decide) (fun _ => rfl) (by omega) (by decide) dd_Mo_receive_90 ?_
      refine lv_if_eq F.1 F.2.1 dd_Mo_receive_91 (tgt := 108) rfl (fun h91 => ?_) (fun h91 => ?_)
      · refine lv_aload_n F.1 F.2.1 dd_Mo_receive_108 rfl (lv_at hl 2 rfl) ?_
        refine zm_gF F hE hP rfl rfl zi_Mo 18 (by decide) rfl wf_Mo_62 rfl dd_Mo_receive_109 ?_
        refine lv_iload F.1 F.2.1 dd_Mo_receive_112 (lv_at hl 0 rfl) ?_
        refine zm_iald (x := 18) (k := (13 * ((3 * (1 - i)) + c)) + (j + 1)) (N := 78) F hE hP (by decide) (fun _ => rfl) (by omega) (by decide) dd_Mo_receive_114 ?_
        refine lv_if_le F.1 F.2.1 dd_Mo_receive_115 (tgt := 121) rfl (fun h115 => ?_) (fun h115 => ?_)
        · refine lv_aload_n F.1 F.2.1 dd_Mo_receive_121 rfl (lv_at hl 2 rfl) ?_
          refine zm_gF F hE hP rfl rfl zi_Mo 13 (by decide) rfl wf_Mo_47 rfl dd_Mo_receive_122 ?_
          refine lv_iload F.1 F.2.1 dd_Mo_receive_125 (lv_at hl 0 rfl) ?_
          refine zm_iald (x := 13) (k := (13 * ((3 * (1 - i)) + c)) + (j + 1)) (N := 78) F hE hP (by decide) (fun _ => rfl) (by omega) (by decide) dd_Mo_receive_127 ?_
          refine lv_iload F.1 F.2.1 dd_Mo_receive_128 (lv_at hl 7 rfl) ?_
          refine zw_goi (zw_rS F hE hP (zc_Mo_flag lc G b0 T w) zk_Mo_flag za_Mo_flag wl_Mo_124 ⟨rfl, rfl, Nat.le_of_ble_eq_true rfl, Nat.le_of_ble_eq_true rfl⟩ hl.1 rfl (Nat.le_of_ble_eq_true rfl) ⟨Nat.zero_le _, Nat.zero_le _⟩ dd_Mo_receive_130) hS (fun _ h => h) (fun H locs hP _ _ hS => ?_)
          refine lv_iadd F.1 F.2.1 dd_Mo_receive_133 ?_
          refine lv_istore F.1 F.2.1 dd_Mo_receive_134 hl (by decide) (lv' := [(8, .int ((T 13 ((13 * ((3 * (1 - i)) + c)) + (j + 1))) + (zs_fl w))), (7, .int (nI ((13 * ((3 * (1 - i)) + c)) + (j + 1)))), (6, .int (nI ((3 * i) + c))), (0, .ref (b0 + 0)), (1, .int (nI i)), (2, .int (nI c)), (3, .int (nI (j + 1))), (4, .int h), (5, .int w)]) rfl (fun ls hl => ?_)
          refine lv_aload_n F.1 F.2.1 dd_Mo_receive_136 rfl (lv_at hl 3 rfl) ?_
          refine lv_iload_n F.1 F.2.1 dd_Mo_receive_137 rfl (lv_at hl 4 rfl) ?_
          refine lv_iload F.1 F.2.1 dd_Mo_receive_138 (lv_at hl 7 rfl) ?_
          refine lv_sipush (v := nI 12288) F.1 F.2.1 dd_Mo_receive_140 (by decide) ?_
          refine lv_bipush (v := nI 64) F.1 F.2.1 dd_Mo_receive_143 (by decide) ?_
          refine lv_iload_n F.1 F.2.1 dd_Mo_receive_145 rfl (lv_at hl 5 rfl) ?_
          refine zn_imul F dd_Mo_receive_146 ?_
          refine zn_iadd F dd_Mo_receive_147 ?_
          refine lv_iload_n F.1 F.2.1 dd_Mo_receive_148 rfl (lv_at hl 6 rfl) ?_
          refine zn_iadd F dd_Mo_receive_149 ?_
          refine lv_iconst (v := nI 0) F.1 F.2.1 dd_Mo_receive_150 (by decide) ?_
          refine lv_aload_n F.1 F.2.1 dd_Mo_receive_151 rfl (lv_at hl 3 rfl) ?_
          refine lv_iload F.1 F.2.1 dd_Mo_receive_152 (lv_at hl 1 rfl) ?_
          refine lv_iload F.1 F.2.1 dd_Mo_receive_154 (lv_at hl 0 rfl) ?_
          refine zw_goi (zw_rV F hE hP (zc_Mo_print lc G b0 T ((13 * ((3 * (1 - i)) + c)) + (j + 1)) ((T 13 ((13 * ((3 * (1 - i)) + c)) + (j + 1))) + (zs_fl w)) (by first | omega | assumption)) zk_Mo_print za_Mo_print zb_Mo_print wl_Mo_103 ⟨rfl, rfl, Nat.le_of_ble_eq_true rfl, Nat.le_of_ble_eq_true rfl⟩ (zm_recv hE hP rfl rfl) hl.1 rfl (Nat.le_of_ble_eq_true rfl) ⟨Nat.zero_le _, Nat.zero_le _⟩ dd_Mo_receive_156) hS (fun _ h => h) (fun H locs hP _ _ hS => ?_)
          refine zw_goi (zw_rV F hE hP (zc_Mo_proof lc G b0 T i h (nI ((12288 + (64 * c)) + (j + 1))) (nI 0) (zs_mp T ((13 * ((3 * (1 - i)) + c)) + (j + 1)) ((T 13 ((13 * ((3 * (1 - i)) + c)) + (j + 1))) + (zs_fl w))) (by first | omega | assumption) (by assumption)) zk_Mo_proof za_Mo_proof zb_Mo_proof wl_Mo_128 ⟨rfl, rfl, Nat.le_of_ble_eq_true rfl, Nat.le_of_ble_eq_true rfl⟩ (zm_recv hE hP rfl rfl) hl.1 rfl (Nat.le_of_ble_eq_true rfl) ⟨Nat.zero_le _, Nat.zero_le _⟩ dd_Mo_receive_159) hS (fun _ h => h) (fun H locs hP _ _ hS => ?_)
          refine lv_istore F.1 F.2.1 dd_Mo_receive_162 hl (by decide) (lv' := [(9, .int (zs_pf T i h (nI ((12288 + (64 * c)) + (j + 1))) (nI 0) (zs_mp T ((13 * ((3 * (1 - i)) + c)) + (j + 1)) ((T 13 ((13 * ((3 * (1 - i)) + c)) + (j + 1))) + (zs_fl w))))), (8, .int ((T 13 ((13 * ((3 * (1 - i)) + c)) + (j + 1))) + (zs_fl w))), (7, .int (nI ((13 * ((3 * (1 - i)) + c)) + (j + 1)))), (6, .int (nI ((3 * i) + c))), (0, .ref (b0 + 0)), (1, .int (nI i)), (2, .int (nI c)), (3, .int (nI (j + 1))), (4, .int h), (5, .int w)]) rfl (fun ls hl => ?_)
          refine lv_iload F.1 F.2.1 dd_Mo_receive_164 (lv_at hl 0 rfl) ?_
          refine lv_if_eq F.1 F.2.1 dd_Mo_receive_166 (tgt := 172) rfl (fun h166 => ?_) (fun h166 => ?_)
          · refine lv_aload_n F.1 F.2.1 dd_Mo_receive_172 rfl (lv_at hl 4 rfl) ?_
            refine zm_gF F hE hP rfl rfl zi_Mo 18 (by decide) rfl wf_Mo_62 rfl dd_Mo_receive_173 ?_
            refine lv_iload F.1 F.2.1 dd_Mo_receive_176 (lv_at hl 2 rfl) ?_
            refine lv_aload_n F.1 F.2.1 dd_Mo_receive_178 rfl (lv_at hl 4 rfl) ?_
            refine lv_iload_n F.1 F.2.1 dd_Mo_receive_179 rfl (lv_at hl 5 rfl) ?_
            refine lv_iload_n F.1 F.2.1 dd_Mo_receive_180 rfl (lv_at hl 6 rfl) ?_
            refine lv_iload F.1 F.2.1 dd_Mo_receive_181 (lv_at hl 2 rfl) ?_
            refine lv_iload F.1 F.2.1 dd_Mo_receive_183 (lv_at hl 1 rfl) ?_
            refine zw_goi (zw_rV F hE hP (zc_Mo_takes lc G b0 T i c ((13 * ((3 * (1 - i)) + c)) + (j + 1)) ((T 13 ((13 * ((3 * (1 - i)) + c)) + (j + 1))) + (zs_fl w)) (zs_n (T 14 (13 * (3 * (1 - i) + c) + (j + 1)))) (zs_n (T 16 (13 * (3 * (1 - i) + c) + (j + 1)))) (zs_n (T 21 i)) (by first | omega | assumption) (by first | omega | assumption) (by first | omega | assumption) hpk.2.1.1 hpk.2.1.2 hpk.2.2.1 hpk.2.2.2 hv hv2) zk_Mo_takes za_Mo_takes zb_Mo_takes wl_Mo_136 ⟨rfl, rfl, Nat.le_of_ble_eq_true rfl, Nat.le_of_ble_eq_true rfl⟩ (zm_recv hE hP rfl rfl) hl.1 rfl (Nat.le_of_ble_eq_true rfl) ⟨Nat.zero_le _, Nat.zero_le _⟩ dd_Mo_receive_185) hS (fun _ h => h) (fun H locs hP _ _ hS => ?_)
            refine lv_if_eq F.1 F.2.1 dd_Mo_receive_188 (tgt := 195) rfl (fun h188 => ?_) (fun h188 => ?_)
            · refine lv_iconst (v := nI 2) F.1 F.2.1 dd_Mo_receive_195 (by decide) ?_
              refine zm_iast (x := 18) (k := (13 * ((3 * (1 - i)) + c)) + (j + 1)) (N := 78) F hE hP hS (fun _ h => h) (by decide) (fun _ => rfl) (by omega) (by decide)  dd_Mo_receive_196 (fun H locs hP hS => ?_)
              refine lv_aload_n F.1 F.2.1 dd_Mo_receive_197 rfl (lv_at hl 4 rfl) ?_
              refine zm_gF F hE hP rfl rfl zi_Mo 8 (by decide) rfl wf_Mo_32 rfl dd_Mo_receive_198 ?_
              refine lv_iload F.1 F.2.1 dd_Mo_receive_201 (lv_at hl 3 rfl) ?_
              refine zm_zald (x := 8) (k := (3 * i) + c) (N := 6) F hE hP (by decide) (fun _ => rfl) (by omega) (by decide) dd_Mo_receive_203 ?_
              refine zn_top (y := (zu_Mo_takes T i c ((13 * ((3 * (1 - i)) + c)) + (j + 1)) ((T 13 ((13 * ((3 * (1 - i)) + c)) + (j + 1))) + (zs_fl w)) (zs_n (T 14 (13 * (3 * (1 - i) + c) + (j + 1)))) (zs_n (T 16 (13 * (3 * (1 - i) + c) + (j + 1)))) (zs_n (T 21 i))) 8 ((3 * i) + c)) (by rw [zs_wx (by decide)]) ?_
              refine lv_if_eq F.1 F.2.1 dd_Mo_receive_204 (tgt := 217) rfl (fun h204 => ?_) (fun h204 => ?_)
              · refine lv_aload_n F.1 F.2.1 dd_Mo_receive_217 rfl (lv_at hl 4 rfl) ?_
                refine zm_gF F hE hP rfl rfl zi_Mo 18 (by decide) rfl wf_Mo_62 rfl dd_Mo_receive_218 ?_
                refine lv_iload F.1 F.2.1 dd_Mo_receive_221 (lv_at hl 2 rfl) ?_
                refine zm_iald (x := 18) (k := (13 * ((3 * (1 - i)) + c)) + (j + 1)) (N := 78) F hE hP (by decide) (fun _ => rfl) (by omega) (by decide) dd_Mo_receive_223 ?_
                refine zn_top (y := nI 2) (by rw [zs_ws]) ?_
                exact zw_iret F hr hlk hP hS (congrArg (zq_p G b0) (by rw [zu_Mo_receive, if_pos h59, if_pos h78, if_pos h91, if_pos h115, if_pos h166, if_pos h188, if_pos h204])) (by rw [zr_Mo_receive, if_pos h59, if_pos h78, if_pos h91, if_pos h115, if_pos h166, if_pos h188, if_pos h204]) dd_Mo_receive_224
              · refine lv_aload_n F.1 F.2.1 dd_Mo_receive_207 rfl (lv_at hl 4 rfl) ?_
                refine zm_gF F hE hP rfl rfl zi_Mo 10 (by decide) rfl wf_Mo_38 rfl dd_Mo_receive_208 ?_
                refine lv_iload F.1 F.2.1 dd_Mo_receive_211 (lv_at hl 3 rfl) ?_
                refine lv_iload_n F.1 F.2.1 dd_Mo_receive_213 rfl (lv_at hl 7 rfl) ?_
                refine lv_iconst (v := nI 1) F.1 F.2.1 dd_Mo_receive_214 (by decide) ?_
                refine zn_iadd F dd_Mo_receive_215 ?_
                refine zm_iast (x := 10) (k := (3 * i) + c) (N := 6) F hE hP hS (fun _ h => h) (by decide) (fun _ => rfl) (by omega) (by decide)  dd_Mo_receive_216 (fun H locs hP hS => ?_)
                refine lv_aload_n F.1 F.2.1 dd_Mo_receive_217 rfl (lv_at hl 4 rfl) ?_
                refine zm_gF F hE hP rfl rfl zi_Mo 18 (by decide) rfl wf_Mo_62 rfl dd_Mo_receive_218 ?_
                refine lv_iload F.1 F.2.1 dd_Mo_receive_221 (lv_at hl 2 rfl) ?_
                refine zm_iald (x := 18) (k := (13 * ((3 * (1 - i)) + c)) + (j + 1)) (N := 78) F hE hP (by decide) (fun _ => rfl) (by omega) (by decide) dd_Mo_receive_223 ?_
                refine zn_top (y := nI 2) (by rw [zs_wx (by decide), zs_ws]) ?_
                exact zw_iret F hr hlk hP hS (congrArg (zq_p G b0) (by rw [zu_Mo_receive, if_pos h59, if_pos h78, if_pos h91, if_pos h115, if_pos h166, if_pos h188, if_neg h204])) (by rw [zr_Mo_receive, if_pos h59, if_pos h78, if_pos h91, if_pos h115, if_pos h166, if_pos h188, if_neg h204]) dd_Mo_receive_224
            · refine lv_iconst (v := nI 1) F.1 F.2.1 dd_Mo_receive_191 (by decide) ?_
              refine lv_goto F.1 F.2.1 dd_Mo_receive_192 (tgt := 196) rfl ?_
              refine zm_iast (x := 18) (k := (13 * ((3 * (1 - i)) + c)) + (j + 1)) (N := 78) F hE hP hS (fun _ h => h) (by decide) (fun _ => rfl) (by omega) (by decide)  dd_Mo_receive_196 (fun H locs hP hS => ?_)
              refine lv_aload_n F.1 F.2.1 dd_Mo_receive_197 rfl (lv_at hl 4 rfl) ?_
              refine zm_gF F hE hP rfl rfl zi_Mo 8 (by decide) rfl wf_Mo_32 rfl dd_Mo_receive_198 ?_
              refine lv_iload F.1 F.2.1 dd_Mo_receive_201 (lv_at hl 3 rfl) ?_
              refine zm_zald (x := 8) (k := (3 * i) + c) (N := 6) F hE hP (by decide) (fun _ => rfl) (by omega) (by decide) dd_Mo_receive_203 ?_
              refine zn_top (y := (zu_Mo_takes T i c ((13 * ((3 * (1 - i)) + c)) + (j + 1)) ((T 13 ((13 * ((3 * (1 - i)) + c)) + (j + 1))) + (zs_fl w)) (zs_n (T 14 (13 * (3 * (1 - i) + c) + (j + 1)))) (zs_n (T 16 (13 * (3 * (1 - i) + c) + (j + 1)))) (zs_n (T 21 i))) 8 ((3 * i) + c)) (by rw [zs_wx (by decide)]) ?_
              refine lv_if_eq F.1 F.2.1 dd_Mo_receive_204 (tgt := 217) rfl (fun h204 => ?_) (fun h204 => ?_)
              · refine lv_aload_n F.1 F.2.1 dd_Mo_receive_217 rfl (lv_at hl 4 rfl) ?_
                refine zm_gF F hE hP rfl rfl zi_Mo 18 (by decide) rfl wf_Mo_62 rfl dd_Mo_receive_218 ?_
                refine lv_iload F.1 F.2.1 dd_Mo_receive_221 (lv_at hl 2 rfl) ?_
                refine zm_iald (x := 18) (k := (13 * ((3 * (1 - i)) + c)) + (j + 1)) (N := 78) F hE hP (by decide) (fun _ => rfl) (by omega) (by decide) dd_Mo_receive_223 ?_
                refine zn_top (y := nI 1) (by rw [zs_ws]) ?_
                exact zw_iret F hr hlk hP hS (congrArg (zq_p G b0) (by rw [zu_Mo_receive, if_pos h59, if_pos h78, if_pos h91, if_pos h115, if_pos h166, if_neg h188, if_pos h204])) (by rw [zr_Mo_receive, if_pos h59, if_pos h78, if_pos h91, if_pos h115, if_pos h166, if_neg h188, if_pos h204]) dd_Mo_receive_224
              · refine lv_aload_n F.1 F.2.1 dd_Mo_receive_207 rfl (lv_at hl 4 rfl) ?_
                refine zm_gF F hE hP rfl rfl zi_Mo 10 (by decide) rfl wf_Mo_38 rfl dd_Mo_receive_208 ?_
                refine lv_iload F.1 F.2.1 dd_Mo_receive_211 (lv_at hl 3 rfl) ?_
                refine lv_iload_n F.1 F.2.1 dd_Mo_receive_213 rfl (lv_at hl 7 rfl) ?_
                refine lv_iconst (v := nI 1) F.1 F.2.1 dd_Mo_receive_214 (by decide) ?_
                refine zn_iadd F dd_Mo_receive_215 ?_
                refine zm_iast (x := 10) (k := (3 * i) + c) (N := 6) F hE hP hS (fun _ h => h) (by decide) (fun _ => rfl) (by omega) (by decide)  dd_Mo_receive_216 (fun H locs hP hS => ?_)
                refine lv_aload_n F.1 F.2.1 dd_Mo_receive_217 rfl (lv_at hl 4 rfl) ?_
                refine zm_gF F hE hP rfl rfl zi_Mo 18 (by decide) rfl wf_Mo_62 rfl dd_Mo_receive_218 ?_
                refine lv_iload F.1 F.2.1 dd_Mo_receive_221 (lv_at hl 2 rfl) ?_
                refine zm_iald (x := 18) (k := (13 * ((3 * (1 - i)) + c)) + (j + 1)) (N := 78) F hE hP (by decide) (fun _ => rfl) (by omega) (by decide) dd_Mo_receive_223 ?_
                refine zn_top (y := nI 1) (by rw [zs_wx (by decide), zs_ws]) ?_
                exact zw_iret F hr hlk hP hS (congrArg (zq_p G b0) (by rw [zu_Mo_receive, if_pos h59, if_pos h78, if_pos h91, if_pos h115, if_pos h166, if_neg h188, if_neg h204])) (by rw [zr_Mo_receive, if_pos h59, if_pos h78, if_pos h91, if_pos h115, if_pos h166, if_neg h188, if_neg h204]) dd_Mo_receive_224
          · refine lv_iload F.1 F.2.1 dd_Mo_receive_169 (lv_at hl 0 rfl) ?_
            exact zw_iret F hr hlk hP hS (congrArg (zq_p G b0) (by rw [zu_Mo_receive, if_pos h59, if_pos h78, if_pos h91, if_pos h115, if_neg h166])) (by rw [zr_Mo_receive, if_pos h59, if_pos h78, if_pos h91, if_pos h115, if_neg h166]) dd_Mo_receive_171
        · refine lv_bipush (v := (-8)) F.1 F.2.1 dd_Mo_receive_118 (by decide) ?_
          exact zw_iret F hr hlk hP hS (congrArg (zq_p G b0) (by rw [zu_Mo_receive, if_pos h59, if_pos h78, if_pos h91, if_neg h115])) (by rw [zr_Mo_receive, if_pos h59, if_pos h78, if_pos h91, if_neg h115]) dd_Mo_receive_120
      · refine lv_iload_n F.1 F.2.1 dd_Mo_receive_94 rfl (lv_at hl 5 rfl) ?_
        refine lv_aload_n F.1 F.2.1 dd_Mo_receive_95 rfl (lv_at hl 2 rfl) ?_
        refine zm_gF F hE hP rfl rfl zi_Mo 10 (by decide) rfl wf_Mo_38 rfl dd_Mo_receive_96 ?_
        refine lv_iload F.1 F.2.1 dd_Mo_receive_99 (lv_at hl 1 rfl) ?_
        refine zm_iald (x := 10) (k := (3 * i) + c) (N := 6) F hE hP (by decide) (fun _ => rfl) (by omega) (by decide) dd_Mo_receive_101 ?_
        refine lv_icmp_eq F.1 F.2.1 dd_Mo_receive_102 (tgt := 121) rfl (fun h102 => ?_) (fun h102 => ?_)
        · refine lv_aload_n F.1 F.2.1 dd_Mo_receive_121 rfl (lv_at hl 2 rfl) ?_
          refine zm_gF F hE hP rfl rfl zi_Mo 13 (by decide) rfl wf_Mo_47 rfl dd_Mo_receive_122 ?_
          refine lv_iload F.1 F.2.1 dd_Mo_receive_125 (lv_at hl 0 rfl) ?_
          refine zm_iald (x := 13) (k := (13 * ((3 * (1 - i)) + c)) + (j + 1)) (N := 78) F hE hP (by decide) (fun _ => rfl) (by omega) (by decide) dd_Mo_receive_127 ?_
          refine lv_iload F.1 F.2.1 dd_Mo_receive_128 (lv_at hl 7 rfl) ?_
          refine zw_goi (zw_rS F hE hP (zc_Mo_flag lc G b0 T w) zk_Mo_flag za_Mo_flag wl_Mo_124 ⟨rfl, rfl, Nat.le_of_ble_eq_true rfl, Nat.le_of_ble_eq_true rfl⟩ hl.1 rfl (Nat.le_of_ble_eq_true rfl) ⟨Nat.zero_le _, Nat.zero_le _⟩ dd_Mo_receive_130) hS (fun _ h => h) (fun H locs hP _ _ hS => ?_)
          refine lv_iadd F.1 F.2.1 dd_Mo_receive_133 ?_
          refine lv_istore F.1 F.2.1 dd_Mo_receive_134 hl (by decide) (lv' := [(8, .int ((T 13 ((13 * ((3 * (1 - i)) + c)) + (j + 1))) + (zs_fl w))), (7, .int (nI ((13 * ((3 * (1 - i)) + c)) + (j + 1)))), (6, .int (nI ((3 * i) + c))), (0, .ref (b0 + 0)), (1, .int (nI i)), (2, .int (nI c)), (3, .int (nI (j + 1))), (4, .int h), (5, .int w)]) rfl (fun ls hl => ?_)
          refine lv_aload_n F.1 F.2.1 dd_Mo_receive_136 rfl (lv_at hl 3 rfl) ?_
          refine lv_iload_n F.1 F.2.1 dd_Mo_receive_137 rfl (lv_at hl 4 rfl) ?_
          refine lv_iload F.1 F.2.1 dd_Mo_receive_138 (lv_at hl 7 rfl) ?_
          refine lv_sipush (v := nI 12288) F.1 F.2.1 dd_Mo_receive_140 (by decide) ?_
          refine lv_bipush (v := nI 64) F.1 F.2.1 dd_Mo_receive_143 (by decide) ?_
          refine lv_iload_n F.1 F.2.1 dd_Mo_receive_145 rfl (lv_at hl 5 rfl) ?_
          refine zn_imul F dd_Mo_receive_146 ?_
          refine zn_iadd F dd_Mo_receive_147 ?_
          refine lv_iload_n F.1 F.2.1 dd_Mo_receive_148 rfl (lv_at hl 6 rfl) ?_
          refine zn_iadd F dd_Mo_receive_149 ?_
          refine lv_iconst (v := nI 0) F.1 F.2.1 dd_Mo_receive_150 (by decide) ?_
          refine lv_aload_n F.1 F.2.1 dd_Mo_receive_151 rfl (lv_at hl 3 rfl) ?_
          refine lv_iload F.1 F.2.1 dd_Mo_receive_152 (lv_at hl 1 rfl) ?_
          refine lv_iload F.1 F.2.1 dd_Mo_receive_154 (lv_at hl 0 rfl) ?_
          refine zw_goi (zw_rV F hE hP (zc_Mo_print lc G b0 T ((13 * ((3 * (1 - i)) + c)) + (j + 1)) ((T 13 ((13 * ((3 * (1 - i)) + c)) + (j + 1))) + (zs_fl w)) (by first | omega | assumption)) zk_Mo_print za_Mo_print zb_Mo_print wl_Mo_103 ⟨rfl, rfl, Nat.le_of_ble_eq_true rfl, Nat.le_of_ble_eq_true rfl⟩ (zm_recv hE hP rfl rfl) hl.1 rfl (Nat.le_of_ble_eq_true rfl) ⟨Nat.zero_le _, Nat.zero_le _⟩ dd_Mo_receive_156) hS (fun _ h => h) (fun H locs hP _ _ hS => ?_)
          refine zw_goi (zw_rV F hE hP (zc_Mo_proof lc G b0 T i h (nI ((12288 + (64 * c)) + (j + 1))) (nI 0) (zs_mp T ((13 * ((3 * (1 - i)) + c)) + (j + 1)) ((T 13 ((13 * ((3 * (1 - i)) + c)) + (j + 1))) + (zs_fl w))) (by first | omega | assumption) (by assumption)) zk_Mo_proof za_Mo_proof zb_Mo_proof wl_Mo_128 ⟨rfl, rfl, Nat.le_of_ble_eq_true rfl, Nat.le_of_ble_eq_true rfl⟩ (zm_recv hE hP rfl rfl) hl.1 rfl (Nat.le_of_ble_eq_true rfl) ⟨Nat.zero_le _, Nat.zero_le _⟩ dd_Mo_receive_159) hS (fun _ h => h) (fun H locs hP _ _ hS => ?_)
          refine lv_istore F.1 F.2.1 dd_Mo_receive_162 hl (by decide) (lv' := [(9, .int (zs_pf T i h (nI ((12288 + (64 * c)) + (j + 1))) (nI 0) (zs_mp T ((13 * ((3 * (1 - i)) + c)) + (j + 1)) ((T 13 ((13 * ((3 * (1 - i)) + c)) + (j + 1))) + (zs_fl w))))), (8, .int ((T 13 ((13 * ((3 * (1 - i)) + c)) + (j + 1))) + (zs_fl w))), (7, .int (nI ((13 * ((3 * (1 - i)) + c)) + (j + 1)))), (6, .int (nI ((3 * i) + c))), (0, .ref (b0 + 0)), (1, .int (nI i)), (2, .int (nI c)), (3, .int (nI (j + 1))), (4, .int h), (5, .int w)]) rfl (fun ls hl => ?_)
          refine lv_iload F.1 F.2.1 dd_Mo_receive_164 (lv_at hl 0 rfl) ?_
          refine lv_if_eq F.1 F.2.1 dd_Mo_receive_166 (tgt := 172) rfl (fun h166 => ?_) (fun h166 => ?_)
          · refine lv_aload_n F.1 F.2.1 dd_Mo_receive_172 rfl (lv_at hl 4 rfl) ?_
            refine zm_gF F hE hP rfl rfl zi_Mo 18 (by decide) rfl wf_Mo_62 rfl dd_Mo_receive_173 ?_
            refine lv_iload F.1 F.2.1 dd_Mo_receive_176 (lv_at hl 2 rfl) ?_
            refine lv_aload_n F.1 F.2.1 dd_Mo_receive_178 rfl (lv_at hl 4 rfl) ?_
            refine lv_iload_n F.1 F.2.1 dd_Mo_receive_179 rfl (lv_at hl 5 rfl) ?_
            refine lv_iload_n F.1 F.2.1 dd_Mo_receive_180 rfl (lv_at hl 6 rfl) ?_
            refine lv_iload F.1 F.2.1 dd_Mo_receive_181 (lv_at hl 2 rfl) ?_
            refine lv_iload F.1 F.2.1 dd_Mo_receive_183 (lv_at hl 1 rfl) ?_
            refine zw_goi (zw_rV F hE hP (zc_Mo_takes lc G b0 T i c ((13 * ((3 * (1 - i)) + c)) + (j + 1)) ((T 13 ((13 * ((3 * (1 - i)) + c)) + (j + 1))) + (zs_fl w)) (zs_n (T 14 (13 * (3 * (1 - i) + c) + (j + 1)))) (zs_n (T 16 (13 * (3 * (1 - i) + c) + (j + 1)))) (zs_n (T 21 i)) (by first | omega | assumption) (by first | omega | assumption) (by first | omega | assumption) hpk.2.1.1 hpk.2.1.2 hpk.2.2.1 hpk.2.2.2 hv hv2) zk_Mo_takes za_Mo_takes zb_Mo_takes wl_Mo_136 ⟨rfl, rfl, Nat.le_of_ble_eq_true rfl, Nat.le_of_ble_eq_true rfl⟩ (zm_recv hE hP rfl rfl) hl.1 rfl (Nat.le_of_ble_eq_true rfl) ⟨Nat.zero_le _, Nat.zero_le _⟩ dd_Mo_receive_185) hS (fun _ h => h) (fun H locs hP _ _ hS => ?_)
            refine lv_if_eq F.1 F.2.1 dd_Mo_receive_188 (tgt := 195) rfl (fun h188 => ?_) (fun h188 => ?_)
            · refine lv_iconst (v := nI 2) F.1 F.2.1 dd_Mo_receive_195 (by decide) ?_
              refine zm_iast (x := 18) (k := (13 * ((3 * (1 - i)) + c)) + (j + 1)) (N := 78) F hE hP hS (fun _ h => h) (by decide) (fun _ => rfl) (by omega) (by decide)  dd_Mo_receive_196 (fun H locs hP hS => ?_)
              refine lv_aload_n F.1 F.2.1 dd_Mo_receive_197 rfl (lv_at hl 4 rfl) ?_
              refine zm_gF F hE hP rfl rfl zi_Mo 8 (by decide) rfl wf_Mo_32 rfl dd_Mo_receive_198 ?_
              refine lv_iload F.1 F.2.1 dd_Mo_receive_201 (lv_at hl 3 rfl) ?_
              refine zm_zald (x := 8) (k := (3 * i) + c) (N := 6) F hE hP (by decide) (fun _ => rfl) (by omega) (by decide) dd_Mo_receive_203 ?_
              refine zn_top (y := (zu_Mo_takes T i c ((13 * ((3 * (1 - i)) + c)) + (j + 1)) ((T 13 ((13 * ((3 * (1 - i)) + c)) + (j + 1))) + (zs_fl w)) (zs_n (T 14 (13 * (3 * (1 - i) + c) + (j + 1)))) (zs_n (T 16 (13 * (3 * (1 - i) + c) + (j + 1)))) (zs_n (T 21 i))) 8 ((3 * i) + c)) (by rw [zs_wx (by decide)]) ?_
              refine lv_if_eq F.1 F.2.1 dd_Mo_receive_204 (tgt := 217) rfl (fun h204 => ?_) (fun h204 => ?_)
              · refine lv_aload_n F.1 F.2.1 dd_Mo_receive_217 rfl (lv_at hl 4 rfl) ?_
                refine zm_gF F hE hP rfl rfl zi_Mo 18 (by decide) rfl wf_Mo_62 rfl dd_Mo_receive_218 ?_
                refine lv_iload F.1 F.2.1 dd_Mo_receive_221 (lv_at hl 2 rfl) ?_
                refine zm_iald (x := 18) (k := (13 * ((3 * (1 - i)) + c)) + (j + 1)) (N := 78) F hE hP (by decide) (fun _ => rfl) (by omega) (by decide) dd_Mo_receive_223 ?_
                refine zn_top (y := nI 2) (by rw [zs_ws]) ?_
                exact zw_iret F hr hlk hP hS (congrArg (zq_p G b0) (by rw [zu_Mo_receive, if_pos h59, if_pos h78, if_neg h91, if_pos h102, if_pos h166, if_pos h188, if_pos h204])) (by rw [zr_Mo_receive, if_pos h59, if_pos h78, if_neg h91, if_pos h102, if_pos h166, if_pos h188, if_pos h204]) dd_Mo_receive_224
              · refine lv_aload_n F.1 F.2.1 dd_Mo_receive_207 rfl (lv_at hl 4 rfl) ?_
                refine zm_gF F hE hP rfl rfl zi_Mo 10 (by decide) rfl wf_Mo_38 rfl dd_Mo_receive_208 ?_
                refine lv_iload F.1 F.2.1 dd_Mo_receive_211 (lv_at hl 3 rfl) ?_
                refine lv_iload_n F.1 F.2.1 dd_Mo_receive_213 rfl (lv_at hl 7 rfl) ?_
                refine lv_iconst (v := nI 1) F.1 F.2.1 dd_Mo_receive_214 (by decide) ?_
                refine zn_iadd F dd_Mo_receive_215 ?_
                refine zm_iast (x := 10) (k := (3 * i) + c) (N := 6) F hE hP hS (fun _ h => h) (by decide) (fun _ => rfl) (by omega) (by decide)  dd_Mo_receive_216 (fun H locs hP hS => ?_)
                refine lv_aload_n F.1 F.2.1 dd_Mo_receive_217 rfl (lv_at hl 4 rfl) ?_
                refine zm_gF F hE hP rfl rfl zi_Mo 18 (by decide) rfl wf_Mo_62 rfl dd_Mo_receive_218 ?_
                refine lv_iload F.1 F.2.1 dd_Mo_receive_221 (lv_at hl 2 rfl) ?_
                refine zm_iald (x := 18) (k := (13 * ((3 * (1 - i)) + c)) + (j + 1)) (N := 78) F hE hP (by decide) (fun _ => rfl) (by omega) (by decide) dd_Mo_receive_223 ?_
                refine zn_top (y := nI 2) (by rw [zs_wx (by decide), zs_ws]) ?_
                exact zw_iret F hr hlk hP hS (congrArg (zq_p G b0) (by rw [zu_Mo_receive, if_pos h59, if_pos h78, if_neg h91, if_pos h102, if_pos h166, if_pos h188, if_neg h204])) (by rw [zr_Mo_receive, if_pos h59, if_pos h78, if_neg h91, if_pos h102, if_pos h166, if_pos h188, if_neg h204]) dd_Mo_receive_224
            · refine lv_iconst (v := nI 1) F.1 F.2.1 dd_Mo_receive_191 (by decide) ?_
              refine lv_goto F.1 F.2.1 dd_Mo_receive_192 (tgt := 196) rfl ?_
              refine zm_iast (x := 18) (k := (13 * ((3 * (1 - i)) + c)) + (j + 1)) (N := 78) F hE hP hS (fun _ h => h) (by decide) (fun _ => rfl) (by omega) (by decide)  dd_Mo_receive_196 (fun H locs hP hS => ?_)
              refine lv_aload_n F.1 F.2.1 dd_Mo_receive_197 rfl (lv_at hl 4 rfl) ?_
              refine zm_gF F hE hP rfl rfl zi_Mo 8 (by decide) rfl wf_Mo_32 rfl dd_Mo_receive_198 ?_
              refine lv_iload F.1 F.2.1 dd_Mo_receive_201 (lv_at hl 3 rfl) ?_
              refine zm_zald (x := 8) (k := (3 * i) + c) (N := 6) F hE hP (by decide) (fun _ => rfl) (by omega) (by decide) dd_Mo_receive_203 ?_
              refine zn_top (y := (zu_Mo_takes T i c ((13 * ((3 * (1 - i)) + c)) + (j + 1)) ((T 13 ((13 * ((3 * (1 - i)) + c)) + (j + 1))) + (zs_fl w)) (zs_n (T 14 (13 * (3 * (1 - i) + c) + (j + 1)))) (zs_n (T 16 (13 * (3 * (1 - i) + c) + (j + 1)))) (zs_n (T 21 i))) 8 ((3 * i) + c)) (by rw [zs_wx (by decide)]) ?_
              refine lv_if_eq F.1 F.2.1 dd_Mo_receive_204 (tgt := 217) rfl (fun h204 => ?_) (fun h204 => ?_)
              · refine lv_aload_n F.1 F.2.1 dd_Mo_receive_217 rfl (lv_at hl 4 rfl) ?_
                refine zm_gF F hE hP rfl rfl zi_Mo 18 (by decide) rfl wf_Mo_62 rfl dd_Mo_receive_218 ?_
                refine lv_iload F.1 F.2.1 dd_Mo_receive_221 (lv_at hl 2 rfl) ?_
                refine zm_iald (x := 18) (k := (13 * ((3 * (1 - i)) + c)) + (j + 1)) (N := 78) F hE hP (by decide) (fun _ => rfl) (by omega) (by decide) dd_Mo_receive_223 ?_
                refine zn_top (y := nI 1) (by rw [zs_ws]) ?_
                exact zw_iret F hr hlk hP hS (congrArg (zq_p G b0) (by rw [zu_Mo_receive, if_pos h59, if_pos h78, if_neg h91, if_pos h102, if_pos h166, if_neg h188, if_pos h204])) (by rw [zr_Mo_receive, if_pos h59, if_pos h78, if_neg h91, if_pos h102, if_pos h166, if_neg h188, if_pos h204]) dd_Mo_receive_224
              · refine lv_aload_n F.1 F.2.1 dd_Mo_receive_207 rfl (lv_at hl 4 rfl) ?_
                refine zm_gF F hE hP rfl rfl zi_Mo 10 (by decide) rfl wf_Mo_38 rfl dd_Mo_receive_208 ?_
                refine lv_iload F.1 F.2.1 dd_Mo_receive_211 (lv_at hl 3 rfl) ?_
                refine lv_iload_n F.1 F.2.1 dd_Mo_receive_213 rfl (lv_at hl 7 rfl) ?_
                refine lv_iconst (v := nI 1) F.1 F.2.1 dd_Mo_receive_214 (by decide) ?_
                refine zn_iadd F dd_Mo_receive_215 ?_
                refine zm_iast (x := 10) (k := (3 * i) + c) (N := 6) F hE hP hS (fun _ h => h) (by decide) (fun _ => rfl) (by omega) (by decide)  dd_Mo_receive_216 (fun H locs hP hS => ?_)
                refine lv_aload_n F.1 F.2.1 dd_Mo_receive_217 rfl (lv_at hl 4 rfl) ?_
                refine zm_gF F hE hP rfl rfl zi_Mo 18 (by decide) rfl wf_Mo_62 rfl dd_Mo_receive_218 ?_
                refine lv_iload F.1 F.2.1 dd_Mo_receive_221 (lv_at hl 2 rfl) ?_
                refine zm_iald (x := 18) (k := (13 * ((3 * (1 - i)) + c)) + (j + 1)) (N := 78) F hE hP (by decide) (fun _ => rfl) (by omega) (by decide) dd_Mo_receive_223 ?_
                refine zn_top (y := nI 1) (by rw [zs_wx (by decide), zs_ws]) ?_
                exact zw_iret F hr hlk hP hS (congrArg (zq_p G b0) (by rw [zu_Mo_receive, if_pos h59, if_pos h78, if_neg h91, if_pos h102, if_pos h166, if_neg h188, if_neg h204])) (by rw [zr_Mo_receive, if_pos h59, if_pos h78, if_neg h91, if_pos h102, if_pos h166, if_neg h188, if_neg h204]) dd_Mo_receive_224
          · refine lv_iload F.1 F.2.1 dd_Mo_receive_169 (lv_at hl 0 rfl) ?_
            exact zw_iret F hr hlk hP hS (congrArg (zq_p G b0) (by rw [zu_Mo_receive, if_pos h59, if_pos h78, if_neg h91, if_pos h102, if_neg h166])) (by rw [zr_Mo_receive, if_pos h59, if_pos h78, if_neg h91, if_pos h102, if_neg h166]) dd_Mo_receive_171
        · refine lv_goto F.1 F.2.1 dd_Mo_receive_105 (tgt := 118) rfl ?_
          refine lv_bipush (v := (-8)) F.1 F.2.1 dd_Mo_receive_118 (by decide) ?_
          exact zw_iret F hr hlk hP hS (congrArg (zq_p G b0) (by rw [zu_Mo_receive, if_pos h59, if_pos h78, if_neg h91, if_neg h102])) (by rw [zr_Mo_receive, if_pos h59, if_pos h78, if_neg h91, if_neg h102]) dd_Mo_receive_120
    · refine lv_bipush (v := (-9)) F.1 F.2.1 dd_Mo_receive_81 (by decide) ?_
      exact zw_iret F hr hlk hP hS (congrArg (zq_p G b0) (by rw [zu_Mo_receive, if_pos h59, if_neg h78])) (by rw [zr_Mo_receive, if_pos h59, if_neg h78]) dd_Mo_receive_83
  · refine lv_bipush (v := (-2)) F.1 F.2.1 dd_Mo_receive_62 (by decide) ?_
    exact zw_iret F hr hlk hP hS (congrArg (zq_p G b0) (by rw [zu_Mo_receive, if_neg h59])) (by rw [zr_Mo_receive, if_neg h59]) dd_Mo_receive_64
set_option maxHeartbeats 4000000 in
set_option maxRecDepth 100000 in
theorem zc_Mo_receive_bad (lc : Launch) (G : zw_G) (b0 : Nat) (T : zs_T) (l : Int32) (d : Int32) (x : Int32) (h : Int32) (w : Int32) (hb : ¬ (zs_v l 2 ∧ zs_v d 3)) : zw_M lc ym_Mo_receive bm_Mo_receive 10 (some .int) { frames := 2, cells := 0, slots := 0, locals := 43 } G b0 26 (zq_p G b0 T) [.ref (b0 + 0), .int l, .int d, .int x, .int h, .int w] (zw_Qi G b0 26 (zq_p G b0 T) (-1)) := by
  refine zw_of (by decide) (Nat.le_of_ble_eq_true rfl) ?_
  intro p e s m below meth cx ls F hr hlk hE hP hS hl
  have hl : lv_has ls 10 [(0, .ref (b0 + 0)), (1, .int l), (2, .int d), (3, .int x), (4, .int h), (5, .int w)] := hl
  refine lv_iload_n F.1 F.2.1 dd_Mo_receive_0 rfl (lv_at hl 1 rfl) ?_
  refine lv_iload_n F.1 F.2.1 dd_Mo_receive_1 rfl (lv_at hl 2 rfl) ?_
  refine zw_goi (zw_rS F hE hP (zc_Mo_isEnd_bad lc G b0 T l d (by first | omega | assumption)) zk_Mo_isEnd za_Mo_isEnd wl_Mo_121 ⟨rfl, rfl, Nat.le_of_ble_eq_true rfl, Nat.le_of_ble_eq_true rfl⟩ hl.1 rfl (Nat.le_of_ble_eq_true rfl) ⟨Nat.zero_le _, Nat.zero_le _⟩ dd_Mo_receive_2) hS (fun _ h => h) (fun H locs hP _ _ hS => ?_)
  refine lv_if_eq F.1 F.2.1 dd_Mo_receive_5 (tgt := 28) rfl (fun h5 => ?_) (fun h5 => absurd h5 (by decide))
  refine lv_iconst (v := (-1)) F.1 F.2.1 dd_Mo_receive_28 (by decide) ?_
  exact zw_iret F hr hlk hP hS rfl rfl dd_Mo_receive_29
set_option maxHeartbeats 4000000 in
set_option maxRecDepth 100000 in
theorem zc_Mo_receive_bad2 (lc : Launch) (G : zw_G) (b0 : Nat) (T : zs_T) (i : Nat) (c : Nat) (x : Int32) (h : Int32) (w : Int32) (hi : i < 2) (hc : c < 3) (hb : x < nI 1 ∨ T 9 (3 * (1 - i) + c) < x) : zw_M lc ym_Mo_receive bm_Mo_receive 10 (some .int) { frames := 2, cells := 0, slots := 0, locals := 43 } G b0 26 (zq_p G b0 T) [.ref (b0 + 0), .int (nI i), .int (nI c), .int x, .int h, .int w] (zw_Qi G b0 26 (zq_p G b0 T) (-1)) := by
  refine zw_of (by decide) (Nat.le_of_ble_eq_true rfl) ?_
  intro p e s m below meth cx ls F hr hlk hE hP hS hl
  have hl : lv_has ls 10 [(0, .ref (b0 + 0)), (1, .int (nI i)), (2, .int (nI c)), (3, .int x), (4, .int h), (5, .int w)] := hl
  refine lv_iload_n F.1 F.2.1 dd_Mo_receive_0 rfl (lv_at hl 1 rfl) ?_
  refine lv_iload_n F.1 F.2.1 dd_Mo_receive_1 rfl (lv_at hl 2 rfl) ?_
  refine zw_goi (zw_rS F hE hP (zc_Mo_isEnd lc G b0 T i c (by first | omega | assumption) (by first | omega | assumption)) zk_Mo_isEnd za_Mo_isEnd wl_Mo_121 ⟨rfl, rfl, Nat.le_of_ble_eq_true rfl, Nat.le_of_ble_eq_true rfl⟩ hl.1 rfl (Nat.le_of_ble_eq_true rfl) ⟨Nat.zero_le _, Nat.zero_le _⟩ dd_Mo_receive_2) hS (fun _ h => h) (fun H locs hP _ _ hS => ?_)
  refine lv_if_eq F.1 F.2.1 dd_Mo_receive_5 (tgt := 28) rfl (fun h5 => absurd h5 (by decide)) (fun h5 => ?_)
  refine lv_iload_n F.1 F.2.1 dd_Mo_receive_8 rfl (lv_at hl 3 rfl) ?_
  refine lv_iconst (v := nI 1) F.1 F.2.1 dd_Mo_receive_9 (by decide) ?_
  refine lv_aload_n F.1 F.2.1 dd_Mo_receive_10 rfl (lv_at hl 0 rfl) ?_
  refine zm_gF F hE hP rfl rfl zi_Mo 9 (by decide) rfl wf_Mo_35 rfl dd_Mo_receive_11 ?_
  refine lv_iconst (v := nI 3) F.1 F.2.1 dd_Mo_receive_14 (by decide) ?_
  refine lv_iconst (v := nI 1) F.1 F.2.1 dd_Mo_receive_15 (by decide) ?_
  refine lv_iload_n F.1 F.2.1 dd_Mo_receive_16 rfl (lv_at hl 1 rfl) ?_
  refine zn_isub F dd_Mo_receive_17 (by omega) ?_
  refine zn_imul F dd_Mo_receive_18 ?_
  refine lv_iload_n F.1 F.2.1 dd_Mo_receive_19 rfl (lv_at hl 2 rfl) ?_
  refine zn_iadd F dd_Mo_receive_20 ?_
  refine zm_iald (x := 9) (k := (3 * (1 - i)) + c) (N := 6) F hE hP (by decide) (fun _ => rfl) (by omega) (by decide) dd_Mo_receive_21 ?_
  refine zw_goi (zw_rS F hE hP (zc_Mo_outside lc G b0 T x (nI 1) (T 9 ((3 * (1 - i)) + c))) zk_Mo_outside za_Mo_outside wl_Mo_91 ⟨rfl, rfl, Nat.le_of_ble_eq_true rfl, Nat.le_of_ble_eq_true rfl⟩ hl.1 rfl (Nat.le_of_ble_eq_true rfl) ⟨Nat.zero_le _, Nat.zero_le _⟩ dd_Mo_receive_22) hS (fun _ h => h) (fun H locs hP _ _ hS => ?_)
  refine zn_beq F dd_Mo_receive_25 (tgt := 30) rfl (fun h25 => absurd hb h25) (fun h25 => ?_)
  refine lv_iconst (v := (-1)) F.1 F.2.1 dd_Mo_receive_28 (by decide) ?_
  exact zw_iret F hr hlk hP hS rfl rfl dd_Mo_receive_29
set_option maxHeartbeats 4000000 in
set_option maxRecDepth 100000 in
theorem zc_Mo_refund (lc : Launch) (G : zw_G) (b0 : Nat) (T : zs_T) (i : Nat) (c : Nat) (q : Nat) (u : Nat) (k : Nat) (hi : i < 2) (hc : c < 3) (hq : q < 78) (hu : T 14 q = nI u) (hu2 : u < 16) (hk : T 12 q = nI k) (hk2 : k < 6) : zw_M lc ym_Mo_refund bm_Mo_refund 4 none { frames := 0, cells := 0, slots := 0, locals := 0 } G b0 26 (zq_p G b0 T) [.ref (b0 + 0), .int (nI i), .int (nI c), .int (nI q)] (zw_Qv G b0 26 (zq_p G b0 (zs_w (zs_w T 19 (24 * i + 6 * (u / 4) + k) (T 19 (24 * i + 6 * (u / 4) + k) + T 13 q)) 20 (18 * i + 6 * c + k) (if T 16 q = 0 then T 20 (18 * i + 6 * c + k) - T 13 q else T 20 (18 * i + 6 * c + k))))) := by
  refine zw_of (by decide) (Nat.le_of_ble_eq_true rfl) ?_
  intro p e s m below meth cx ls F hr hlk hE hP hS hl
  have hl : lv_has ls 4 [(0, .ref (b0 + 0)), (1, .int (nI i)), (2, .int (nI c)), (3, .int (nI q))] := hl
  refine lv_aload_n F.1 F.2.1 dd_Mo_refund_0 rfl (lv_at hl 0 rfl) ?_
  refine zm_gF F hE hP rfl rfl zi_Mo 19 (by decide) rfl wf_Mo_65 rfl dd_Mo_refund_1 ?_
  refine lv_bipush (v := nI 24) F.1 F.2.1 dd_Mo_refund_4 (by decide) ?_
  refine lv_iload_n F.1 F.2.1 dd_Mo_refund_6 rfl (lv_at hl 1 rfl) ?_
  refine zn_imul F dd_Mo_refund_7 ?_
  refine lv_bipush (v := nI 6) F.1 F.2.1 dd_Mo_refund_8 (by decide) ?_
  refine lv_aload_n F.1 F.2.1 dd_Mo_refund_10 rfl (lv_at hl 0 rfl) ?_
  refine zm_gF F hE hP rfl rfl zi_Mo 14 (by decide) rfl wf_Mo_50 rfl dd_Mo_refund_11 ?_
  refine lv_iload_n F.1 F.2.1 dd_Mo_refund_14 rfl (lv_at hl 3 rfl) ?_
  refine zm_iald (x := 14) (k := q) (N := 78) F hE hP (by decide) (fun _ => rfl) (by omega) (by decide) dd_Mo_refund_15 ?_
  refine zn_top (y := nI u) (hu) ?_
  refine lv_iconst (v := nI 4) F.1 F.2.1 dd_Mo_refund_16 (by decide) ?_
  refine zn_idiv F dd_Mo_refund_17 (by omega) (by decide) (by decide) ?_
  refine zn_imul F dd_Mo_refund_18 ?_
  refine zn_iadd F dd_Mo_refund_19 ?_
  refine lv_aload_n F.1 F.2.1 dd_Mo_refund_20 rfl (lv_at hl 0 rfl) ?_
  refine zm_gF F hE hP rfl rfl zi_Mo 12 (by decide) rfl wf_Mo_44 rfl dd_Mo_refund_21 ?_
  refine lv_iload_n F.1 F.2.1 dd_Mo_refund_24 rfl (lv_at hl 3 rfl) ?_
  refine zm_iald (x := 12) (k := q) (N := 78) F hE hP (by decide) (fun _ => rfl) (by omega) (by decide) dd_Mo_refund_25 ?_
  refine zn_top (y := nI k) (hk) ?_
  refine zn_iadd F dd_Mo_refund_26 ?_
  refine lv_dup2_11 F.1 F.2.1 dd_Mo_refund_27 rfl rfl ?_
  refine zm_iald (x := 19) (k := ((24 * i) + (6 * (u / 4))) + k) (N := 48) F hE hP (by decide) (fun _ => rfl) (by omega) (by decide) dd_Mo_refund_28 ?_
  refine lv_aload_n F.1 F.2.1 dd_Mo_refund_29 rfl (lv_at hl 0 rfl) ?_
  refine zm_gF F hE hP rfl rfl zi_Mo 13 (by decide) rfl wf_Mo_47 rfl dd_Mo_refund_30 ?_
  refine lv_iload_n F.1 F.2.1 dd_Mo_refund_33 rfl (lv_at hl 3 rfl) ?_
  refine zm_iald (x := 13) (k := q) (N := 78) F hE hP (by decide) (fun _ => rfl) (by omega) (by decide) dd_Mo_refund_34 ?_
  refine lv_iadd F.1 F.2.1 dd_Mo_refund_35 ?_
  refine zm_iast (x := 19) (k := ((24 * i) + (6 * (u / 4))) + k) (N := 48) F hE hP hS (fun _ h => h) (by decide) (fun _ => rfl) (by omega) (by decide)  dd_Mo_refund_36 (fun H locs hP hS => ?_)
  refine lv_aload_n F.1 F.2.1 dd_Mo_refund_37 rfl (lv_at hl 0 rfl) ?_
  refine zm_gF F hE hP rfl rfl zi_Mo 16 (by decide) rfl wf_Mo_56 rfl dd_Mo_refund_38 ?_
  refine lv_iload_n F.1 F.2.1 dd_Mo_refund_41 rfl (lv_at hl 3 rfl) ?_
  refine zm_iald (x := 16) (k := q) (N := 78) F hE hP (by decide) (fun _ => rfl) (by omega) (by decide) dd_Mo_refund_42 ?_
  refine zn_top (y := T 16 q) (by rw [zs_wx (by decide)]) ?_
  refine lv_if_ne F.1 F.2.1 dd_Mo_refund_43 (tgt := 76) rfl (fun h43 => ?_) (fun h43 => ?_)
  · exact zw_vret F hr hlk hP hS (congrArg (zq_p G b0) (by rw [if_neg h43]; exact (zs_idw (by rw [zs_wx (by decide)])).symm)) dd_Mo_refund_76
  · refine lv_aload_n F.1 F.2.1 dd_Mo_refund_46 rfl (lv_at hl 0 rfl) ?_
    refine zm_gF F hE hP rfl rfl zi_Mo 20 (by decide) rfl wf_Mo_68 rfl dd_Mo_refund_47 ?_
    refine lv_bipush (v := nI 18) F.1 F.2.1 dd_Mo_refund_50 (by decide) ?_
    refine lv_iload_n F.1 F.2.1 dd_Mo_refund_52 rfl (lv_at hl 1 rfl) ?_
    refine zn_imul F dd_Mo_refund_53 ?_
    refine lv_bipush (v := nI 6) F.1 F.2.1 dd_Mo_refund_54 (by decide) ?_
    refine lv_iload_n F.1 F.2.1 dd_Mo_refund_56 rfl (lv_at hl 2 rfl) ?_
    refine zn_imul F dd_Mo_refund_57 ?_
    refine zn_iadd F dd_Mo_refund_58 ?_
    refine lv_aload_n F.1 F.2.1 dd_Mo_refund_59 rfl (lv_at hl 0 rfl) ?_
    refine zm_gF F hE hP rfl rfl zi_Mo 12 (by decide) rfl wf_Mo_44 rfl dd_Mo_refund_60 ?_
    refine lv_iload_n F.1 F.2.1 dd_Mo_refund_63 rfl (lv_at hl 3 rfl) ?_
    refine zm_iald (x := 12) (k := q) (N := 78) F hE hP (by decide) (fun _ => rfl) (by omega) (by decide) dd_Mo_refund_64 ?_
    refine zn_top (y := T 12 q) (by rw [zs_wx (by decide)]) ?_
    refine zn_top (y := nI k) (hk) ?_
    refine zn_iadd F dd_Mo_refund_65 ?_
    refine lv_dup2_11 F.1 F.2.1 dd_Mo_refund_66 rfl rfl ?_
    refine zm_iald (x := 20) (k := ((18 * i) + (6 * c)) + k) (N := 36) F hE hP (by decide) (fun _ => rfl) (by omega) (by decide) dd_Mo_refund_67 ?_
    refine zn_top (y := T 20 (((18 * i) + (6 * c)) + k)) (by rw [zs_wx (by decide)]) ?_
    refine lv_aload_n F.1 F.2.1 dd_Mo_refund_68 rfl (lv_at hl 0 rfl) ?_
    refine zm_gF F hE hP rfl rfl zi_Mo 13 (by decide) rfl wf_Mo_47 rfl dd_Mo_refund_69 ?_
    refine lv_iload_n F.1 F.2.1 dd_Mo_refund_72 rfl (lv_at hl 3 rfl) ?_
    refine zm_iald (x := 13) (k := q) (N := 78) F hE hP (by decide) (fun _ => rfl) (by omega) (by decide) dd_Mo_refund_73 ?_
    refine zn_top (y := T 13 q) (by rw [zs_wx (by decide)]) ?_
    refine lv_isub F.1 F.2.1 dd_Mo_refund_74 ?_
    refine zm_iast (x := 20) (k := ((18 * i) + (6 * c)) + k) (N := 36) F hE hP hS (fun _ h => h) (by decide) (fun _ => rfl) (by omega) (by decide)  dd_Mo_refund_75 (fun H locs hP hS => ?_)
    exact zw_vret F hr hlk hP hS (congrArg (zq_p G b0) (by rw [if_pos h43])) dd_Mo_refund_76
