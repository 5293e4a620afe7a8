set_option maxHeartbeats 4000000 in
set_option maxRecDepth 100000 in
theorem zc_Ledger_ctor1 (lc : Launch) (G : zw_G) (b0 : Nat) (x0 : Int32) (f : Nat → va_E) (hf : ∀ x, 89 ≤ x → x < 176 → f x = zp_p G b0 (zs_0 x0) x) : zx_M lc ym_Ledger_ctor bm_Ledger_ctor 2 { frames := 3, cells := 86, slots := 3073, locals := 65 } G b0 (89) 87 (.inr (1, [.null, .null, .null, .null, .null, .null, .int 0])) f [.ref (b0 + 89)] 86 3073 := by
  refine zx_of (by decide) (Nat.le_of_ble_eq_true rfl) rfl ?_
  intro p e s m below meth cx ls F hr hlk hin2 hE hO hP hz hS hl
  have zsz : b0 + (89) ≤ s.heap.size := by rw [hz]; exact (zx_leC (k := 89) (a := 90) (by decide))
  have hl : lv_has ls 2 [(0, .ref (b0 + 89))] := hl
  refine lv_aload_n F.1 F.2.1 dd_Ledger_ctor_0 rfl (lv_at hl 0 rfl) ?_
  refine W.objInit F.1 F.2.1 F.2.2.2.1 (F.2.2.2.2 _ wl_Ledger_3) (F.2.2.2.2 _ wx_objI) (F.2.2.2.2 _ wx_objC) rfl (by rw [F.2.2.1]; exact hl.1) rfl dd_Ledger_ctor_1 (Nat.le_of_ble_eq_true rfl) (Nat.le_of_ble_eq_true rfl) ?_
  refine W.eq (g2 := F0 m 4 ls []) rfl ?_
  refine lv_aload_n F.1 F.2.1 dd_Ledger_ctor_4 rfl (lv_at hl 0 rfl) ?_
  refine zx_new (k := 90) (f := va_up (f) (89) (.inr (1, [.null, .null, .null, .null, .null, .null, .int 0]))) (fs := [.null, .null]) zy_Store F hE hP hz hS rfl zi_Store zj_Store wq_Ledger_9 wi_Store wj_Store zx_fs_Store (Nat.le_of_ble_eq_true rfl) (Nat.le_of_ble_eq_true rfl) dd_Ledger_ctor_5 (cells' := 1) (slots' := 2) rfl rfl (fun H (hP : va_P G.1 zw_cl (zw_l b0 (91) (va_up (va_up (f) (89) (.inr (1, [.null, .null, .null, .null, .null, .null, .int 0]))) (90) (.inr (2, [.null, .null])))) H) (hz : H.size = b0 + (91)) hS => ?_)
  refine lv_dup F.1 F.2.1 dd_Ledger_ctor_8 rfl ?_
  refine zx_go (k := 90) (n := 3) (f := va_up (f) (89) (.inr (1, [.null, .null, .null, .null, .null, .null, .int 0]))) (zx_runN (k := 90) (f := va_up (f) (89) (.inr (1, [.null, .null, .null, .null, .null, .null, .int 0]))) F hE hO hP hz (zc_Store_ctor lc G b0 90 (va_up (f) (89) (.inr (1, [.null, .null, .null, .null, .null, .null, .int 0]))) ((va_up_ne _ _ (by decide)).trans ((hf 90 (by decide) (by decide)))) ((va_up_ne _ _ (by decide)).trans ((hf 91 (by decide) (by decide)))) ((va_up_ne _ _ (by decide)).trans ((hf 92 (by decide) (by decide))))) zk_Store_ctor za_Store_ctor rfl wl_Ledger_11 ⟨rfl, rfl, Nat.le_of_ble_eq_true rfl, Nat.le_of_ble_eq_true rfl⟩ hl.1 rfl (Nat.le_of_ble_eq_true rfl) ⟨Nat.le_of_ble_eq_true rfl, Nat.le_of_ble_eq_true rfl⟩ dd_Ledger_ctor_9) hS (fun q h => Nat.le_trans (zx_leC (k := 89) (a := 90) (by decide)) h) (cells' := 3) (slots' := 230) rfl rfl (fun H locs (hP : va_P G.1 zw_cl (zw_l b0 (93) (va_up (f) (89) (.inr (1, [.null, .null, .null, .null, .null, .null, .int 0])))) H) (hz : H.size = b0 + (93)) _ hS => ?_)
  refine zx_pF (ty := .object "TwinLedgers$Store") (k := 93) (f := va_up (f) (89) (.inr (1, [.null, .null, .null, .null, .null, .null, .int 0]))) (x := 89) F hE hP hz hS (fun q _ h => Or.elim h (fun z => Nat.le_trans zsz z) id) (by decide) (zx_leC (k := 89) (a := 89) (by decide)) (va_up_self _ _ _) rfl zi_Ledger zy_Ledger zj_Ledger zl_Ledger 0 (by decide) rfl rfl hin2 rfl wf_Ledger_12 (by decide +kernel) rfl rfl (Nat.le_of_ble_eq_true rfl) dd_Ledger_ctor_12 (fun H locs hP (hz : H.size = b0 + (93)) hS => ?_)
  have hP : va_P G.1 zw_cl (zw_l b0 (93) (va_up (va_up (f) (89) (.inr (1, [.null, .null, .null, .null, .null, .null, .int 0]))) (89) (.inr (1, [.ref (b0 + 90), .null, .null, .null, .null, .null, .int 0])))) H := hP
  rw [zx_uu (α := va_E) (a := 89)] at hP
  refine W.eq (g2 := F0 m 15 ls []) rfl ?_
  refine lv_aload_n F.1 F.2.1 dd_Ledger_ctor_15 rfl (lv_at hl 0 rfl) ?_
  refine lv_bipush (v := nI 8) F.1 F.2.1 dd_Ledger_ctor_16 (by decide) ?_
  refine zx_newq (k := 93) (f := va_up (f) (89) (.inr (1, [.ref (b0 + 90), .null, .null, .null, .null, .null, .int 0]))) (C := "TwinLedgers$Store") (z := 3) F hE hP hz hS wq_Ledger_9 hO.2.1 rfl (by decide) (N := 8) (by decide) (by decide) (Nat.le_of_ble_eq_true rfl) (Nat.le_of_ble_eq_true rfl) dd_Ledger_ctor_18 (cells' := 4) (slots' := 238) rfl rfl (fun H (hP : va_P G.1 zw_cl (zw_l b0 (94) (va_up (va_up (f) (89) (.inr (1, [.ref (b0 + 90), .null, .null, .null, .null, .null, .int 0]))) (93) (.inl (G.2 3, 8, .inr (.inr (.inr (.inr (fun _ => none)))))))) H) (hz : H.size = b0 + (94)) hS => ?_)
  rw [zx_rf0 (b0 + (110)) 3] at hP
  refine zx_pF (ty := .array (.object "TwinLedgers$Store")) (k := 94) (f := va_up (va_up (f) (89) (.inr (1, [.ref (b0 + 90), .null, .null, .null, .null, .null, .int 0]))) (93) (.inl (G.2 3, 8, .inr (.inr (.inr (.inr (zx_rf (b0 + (110)) 3 0))))))) (x := 89) F hE hP hz hS (fun q _ h => Or.elim h (fun z => Nat.le_trans zsz z) id) (by decide) (zx_leC (k := 89) (a := 89) (by decide)) ((va_up_ne _ _ (by decide)).trans (va_up_self _ _ _)) rfl zi_Ledger zy_Ledger zj_Ledger zl_Ledger 1 (by decide) rfl rfl hin2 rfl wf_Ledger_18 (by decide +kernel) rfl rfl (Nat.le_of_ble_eq_true rfl) dd_Ledger_ctor_21 (fun H locs hP (hz : H.size = b0 + (94)) hS => ?_)
  have hP : va_P G.1 zw_cl (zw_l b0 (94) (va_up (va_up (va_up (f) (89) (.inr (1, [.ref (b0 + 90), .null, .null, .null, .null, .null, .int 0]))) (93) (.inl (G.2 3, 8, .inr (.inr (.inr (.inr (zx_rf (b0 + (110)) 3 0))))))) (89) (.inr (1, [.ref (b0 + 90), .ref (b0 + 93), .null, .null, .null, .null, .int 0])))) H := hP
  rw [zx_uc (α := va_E) (a := 89) (b := 93) (by decide)] at hP
  rw [zx_uu (α := va_E) (a := 89)] at hP
  refine W.eq (g2 := F0 m 24 ls []) rfl ?_
  refine lv_aload_n F.1 F.2.1 dd_Ledger_ctor_24 rfl (lv_at hl 0 rfl) ?_
  refine lv_bipush (v := nI 114) F.1 F.2.1 dd_Ledger_ctor_25 (by decide) ?_
  refine zx_newi (k := 94) (f := va_up (va_up (f) (89) (.inr (1, [.ref (b0 + 90), .ref (b0 + 93), .null, .null, .null, .null, .int 0]))) (93) (.inl (G.2 3, 8, .inr (.inr (.inr (.inr (zx_rf (b0 + (110)) 3 0))))))) F hE hP hz hS wx_arrI (by decide) (N := 114) (by decide) (by decide) (Nat.le_of_ble_eq_true rfl) (Nat.le_of_ble_eq_true rfl) dd_Ledger_ctor_27 (cells' := 5) (slots' := 352) rfl rfl (fun H (hP : va_P G.1 zw_cl (zw_l b0 (95) (va_up (va_up (va_up (f) (89) (.inr (1, [.ref (b0 + 90), .ref (b0 + 93), .null, .null, .null, .null, .int 0]))) (93) (.inl (G.2 3, 8, .inr (.inr (.inr (.inr (zx_rf (b0 + (110)) 3 0))))))) (94) (.inl (G.2 0, 114, .inl (fun _ => 0))))) H) (hz : H.size = b0 + (95)) hS => ?_)
  rw [zx_id (α := va_E) (f := va_up (va_up (f) (89) (.inr (1, [.ref (b0 + 90), .ref (b0 + 93), .null, .null, .null, .null, .int 0]))) (93) (.inl (G.2 3, 8, .inr (.inr (.inr (.inr (zx_rf (b0 + (110)) 3 0))))))) (a := 94) (e := .inl (G.2 0, 114, .inl (fun _ => 0))) ((va_up_ne _ _ (by decide)).trans ((va_up_ne _ _ (by decide)).trans ((hf 94 (by decide) (by decide)))))] at hP
  refine zx_pF (ty := .array .int) (k := 95) (f := va_up (va_up (f) (89) (.inr (1, [.ref (b0 + 90), .ref (b0 + 93), .null, .null, .null, .null, .int 0]))) (93) (.inl (G.2 3, 8, .inr (.inr (.inr (.inr (zx_rf (b0 + (110)) 3 0))))))) (x := 89) F hE hP hz hS (fun q _ h => Or.elim h (fun z => Nat.le_trans zsz z) id) (by decide) (zx_leC (k := 89) (a := 89) (by decide)) ((va_up_ne _ _ (by decide)).trans (va_up_self _ _ _)) rfl zi_Ledger zy_Ledger zj_Ledger zl_Ledger 2 (by decide) rfl rfl hin2 rfl wf_Ledger_22 (by decide +kernel) rfl rfl (Nat.le_of_ble_eq_true rfl) dd_Ledger_ctor_29 (fun H locs hP (hz : H.size = b0 + (95)) hS => ?_)
  have hP : va_P G.1 zw_cl (zw_l b0 (95) (va_up (va_up (va_up (f) (89) (.inr (1, [.ref (b0 + 90), .ref (b0 + 93), .null, .null, .null, .null, .int 0]))) (93) (.inl (G.2 3, 8, .inr (.inr (.inr (.inr (zx_rf (b0 + (110)) 3 0))))))) (89) (.inr (1, [.ref (b0 + 90), .ref (b0 + 93), .ref (b0 + 94), .null, .null, .null, .int 0])))) H := hP
  rw [zx_uc (α := va_E) (a := 89) (b := 93) (by decide)] at hP
  rw [zx_uu (α := va_E) (a := 89)] at hP
  refine W.eq (g2 := F0 m 32 ls []) rfl ?_
  refine lv_aload_n F.1 F.2.1 dd_Ledger_ctor_32 rfl (lv_at hl 0 rfl) ?_
  refine zx_new (k := 95) (f := va_up (va_up (f) (89) (.inr (1, [.ref (b0 + 90), .ref (b0 + 93), .ref (b0 + 94), .null, .null, .null, .int 0]))) (93) (.inl (G.2 3, 8, .inr (.inr (.inr (.inr (zx_rf (b0 + (110)) 3 0))))))) (fs := [.null, .int 0]) zy_Client F hE hP hz hS rfl zi_Client zj_Client wq_Ledger_26 wi_Client wj_Client zx_fs_Client (Nat.le_of_ble_eq_true rfl) (Nat.le_of_ble_eq_true rfl) dd_Ledger_ctor_33 (cells' := 6) (slots' := 354) rfl rfl (fun H (hP : va_P G.1 zw_cl (zw_l b0 (96) (va_up (va_up (va_up (f) (89) (.inr (1, [.ref (b0 + 90), .ref (b0 + 93), .ref (b0 + 94), .null, .null, .null, .int 0]))) (93) (.inl (G.2 3, 8, .inr (.inr (.inr (.inr (zx_rf (b0 + (110)) 3 0))))))) (95) (.inr (3, [.null, .int 0])))) H) (hz : H.size = b0 + (96)) hS => ?_)
  refine lv_dup F.1 F.2.1 dd_Ledger_ctor_36 rfl ?_
  refine zx_go (k := 95) (n := 2) (f := va_up (va_up (f) (89) (.inr (1, [.ref (b0 + 90), .ref (b0 + 93), .ref (b0 + 94), .null, .null, .null, .int 0]))) (93) (.inl (G.2 3, 8, .inr (.inr (.inr (.inr (zx_rf (b0 + (110)) 3 0))))))) (zx_runN (k := 95) (f := va_up (va_up (f) (89) (.inr (1, [.ref (b0 + 90), .ref (b0 + 93), .ref (b0 + 94), .null, .null, .null, .int 0]))) (93) (.inl (G.2 3, 8, .inr (.inr (.inr (.inr (zx_rf (b0 + (110)) 3 0))))))) F hE hO hP hz (zc_Client_ctor lc G b0 95 (va_up (va_up (f) (89) (.inr (1, [.ref (b0 + 90), .ref (b0 + 93), .ref (b0 + 94), .null, .null, .null, .int 0]))) (93) (.inl (G.2 3, 8, .inr (.inr (.inr (.inr (zx_rf (b0 + (110)) 3 0))))))) ((va_up_ne _ _ (by decide)).trans ((va_up_ne _ _ (by decide)).trans ((hf 95 (by decide) (by decide))))) ((va_up_ne _ _ (by decide)).trans ((va_up_ne _ _ (by decide)).trans ((hf 96 (by decide) (by decide)))))) zk_Client_ctor za_Client_ctor rfl wl_Ledger_28 ⟨rfl, rfl, Nat.le_of_ble_eq_true rfl, Nat.le_of_ble_eq_true rfl⟩ hl.1 rfl (Nat.le_of_ble_eq_true rfl) ⟨Nat.le_of_ble_eq_true rfl, Nat.le_of_ble_eq_true rfl⟩ dd_Ledger_ctor_37) hS (fun q h => Nat.le_trans (zx_leC (k := 89) (a := 95) (by decide)) h) (cells' := 7) (slots' := 867) rfl rfl (fun H locs (hP : va_P G.1 zw_cl (zw_l b0 (97) (va_up (va_up (f) (89) (.inr (1, [.ref (b0 + 90), .ref (b0 + 93), .ref (b0 + 94), .null, .null, .null, .int 0]))) (93) (.inl (G.2 3, 8, .inr (.inr (.inr (.inr (zx_rf (b0 + (110)) 3 0)))))))) H) (hz : H.size = b0 + (97)) _ hS => ?_)
  refine zx_pF (ty := .object "TwinLedgers$Client") (k := 97) (f := va_up (va_up (f) (89) (.inr (1, [.ref (b0 + 90), .ref (b0 + 93), .ref (b0 + 94), .null, .null, .null, .int 0]))) (93) (.inl (G.2 3, 8, .inr (.inr (.inr (.inr (zx_rf (b0 + (110)) 3 0))))))) (x := 89) F hE hP hz hS (fun q _ h => Or.elim h (fun z => Nat.le_trans zsz z) id) (by decide) (zx_leC (k := 89) (a := 89) (by decide)) ((va_up_ne _ _ (by decide)).trans (va_up_self _ _ _)) rfl zi_Ledger zy_Ledger zj_Ledger zl_Ledger 3 (by decide) rfl rfl hin2 rfl wf_Ledger_29 (by decide +kernel) rfl rfl (Nat.le_of_ble_eq_true rfl) dd_Ledger_ctor_40 (fun H locs hP (hz : H.size = b0 + (97)) hS => ?_)
  have hP : va_P G.1 zw_cl (zw_l b0 (97) (va_up (va_up (va_up (f) (89) (.inr (1, [.ref (b0 + 90), .ref (b0 + 93), .ref (b0 + 94), .null, .null, .null, .int 0]))) (93) (.inl (G.2 3, 8, .inr (.inr (.inr (.inr (zx_rf (b0 + (110)) 3 0))))))) (89) (.inr (1, [.ref (b0 + 90), .ref (b0 + 93), .ref (b0 + 94), .ref (b0 + 95), .null, .null, .int 0])))) H := hP
  rw [zx_uc (α := va_E) (a := 89) (b := 93) (by decide)] at hP
  rw [zx_uu (α := va_E) (a := 89)] at hP
  refine W.eq (g2 := F0 m 43 ls []) rfl ?_
  refine lv_aload_n F.1 F.2.1 dd_Ledger_ctor_43 rfl (lv_at hl 0 rfl) ?_
  refine zx_new (k := 97) (f := va_up (va_up (f) (89) (.inr (1, [.ref (b0 + 90), .ref (b0 + 93), .ref (b0 + 94), .ref (b0 + 95), .null, .null, .int 0]))) (93) (.inl (G.2 3, 8, .inr (.inr (.inr (.inr (zx_rf (b0 + (110)) 3 0))))))) (fs := [.null, .null, .null, .null, .int 0]) zy_Bank F hE hP hz hS rfl zi_Bank zj_Bank wq_Ledger_33 wi_Bank wj_Bank zx_fs_Bank (Nat.le_of_ble_eq_true rfl) (Nat.le_of_ble_eq_true rfl) dd_Ledger_ctor_44 (cells' := 8) (slots' := 872) rfl rfl (fun H (hP : va_P G.1 zw_cl (zw_l b0 (98) (va_up (va_up (va_up (f) (89) (.inr (1, [.ref (b0 + 90), .ref (b0 + 93), .ref (b0 + 94), .ref (b0 + 95), .null, .null, .int 0]))) (93) (.inl (G.2 3, 8, .inr (.inr (.inr (.inr (zx_rf (b0 + (110)) 3 0))))))) (97) (.inr (4, [.null, .null, .null, .null, .int 0])))) H) (hz : H.size = b0 + (98)) hS => ?_)
  refine lv_dup F.1 F.2.1 dd_Ledger_ctor_47 rfl ?_
  refine zx_go (k := 97) (n := 12) (f := va_up (va_up (f) (89) (.inr (1, [.ref (b0 + 90), .ref (b0 + 93), .ref (b0 + 94), .ref (b0 + 95), .null, .null, .int 0]))) (93) (.inl (G.2 3, 8, .inr (.inr (.inr (.inr (zx_rf (b0 + (110)) 3 0))))))) (zx_run (k := 97) (f := va_up (va_up (f) (89) (.inr (1, [.ref (b0 + 90), .ref (b0 + 93), .ref (b0 + 94), .ref (b0 + 95), .null, .null, .int 0]))) (93) (.inl (G.2 3, 8, .inr (.inr (.inr (.inr (zx_rf (b0 + (110)) 3 0))))))) F hE hO hP hz (zc_Bank_ctor lc G b0 97 (fun k => some (b0 + zp_o 12 1 k)) (fun k => some (b0 + zp_o 14 1 k)) (va_up (va_up (f) (89) (.inr (1, [.ref (b0 + 90), .ref (b0 + 93), .ref (b0 + 94), .ref (b0 + 95), .null, .null, .int 0]))) (93) (.inl (G.2 3, 8, .inr (.inr (.inr (.inr (zx_rf (b0 + (110)) 3 0))))))) ((va_up_ne _ _ (by decide)).trans ((va_up_ne _ _ (by decide)).trans ((hf 97 (by decide) (by decide))))) ((va_up_ne _ _ (by decide)).trans ((va_up_ne _ _ (by decide)).trans ((hf 98 (by decide) (by decide))))) (fun j hj => by
      match j, hj with
      | 0, _ => exact ((va_up_ne _ _ (by decide)).trans ((va_up_ne _ _ (by decide)).trans ((hf 99 (by decide) (by decide)))))
      | 1, _ => exact ((va_up_ne _ _ (by decide)).trans ((va_up_ne _ _ (by decide)).trans ((hf 100 (by decide) (by decide)))))
      | 2, _ => exact ((va_up_ne _ _ (by decide)).trans ((va_up_ne _ _ (by decide)).trans ((hf 101 (by decide) (by decide)))))
      | 3, _ => exact ((va_up_ne _ _ (by decide)).trans ((va_up_ne _ _ (by decide)).trans ((hf 102 (by decide) (by decide)))))
      | q + 4, h => exact absurd h (Nat.not_lt.mpr (Nat.le_add_left _ q))) ((va_up_ne _ _ (by decide)).trans ((va_up_ne _ _ (by decide)).trans ((hf 103 (by decide) (by decide))))) (fun j hj => by
      match j, hj with
      | 0, _ => exact ((va_up_ne _ _ (by decide)).trans ((va_up_ne _ _ (by decide)).trans ((hf 104 (by decide) (by decide)))))
      | 1, _ => exact ((va_up_ne _ _ (by decide)).trans ((va_up_ne _ _ (by decide)).trans ((hf 105 (by decide) (by decide)))))
      | 2, _ => exact ((va_up_ne _ _ (by decide)).trans ((va_up_ne _ _ (by decide)).trans ((hf 106 (by decide) (by decide)))))
      | q + 3, h => exact absurd h (Nat.not_lt.mpr (Nat.le_add_left _ q))) ((va_up_ne _ _ (by decide)).trans ((va_up_ne _ _ (by decide)).trans ((hf 107 (by decide) (by decide))))) ((va_up_ne _ _ (by decide)).trans ((va_up_ne _ _ (by decide)).trans ((hf 108 (by decide) (by decide))))) (fun j hj => by
      match j, hj with
      | 0, _ => rfl
      | 1, _ => rfl
      | 2, _ => rfl
      | 3, _ => rfl
      | q + 4, h => exact absurd h (Nat.not_lt.mpr (Nat.le_add_left _ q))) (fun j hj => by
      match j, hj with
      | 0, _ => rfl
      | 1, _ => rfl
      | 2, _ => rfl
      | q + 3, h => exact absurd h (Nat.not_lt.mpr (Nat.le_add_left _ q)))) zk_Bank_ctor za_Bank_ctor rfl wl_Ledger_35 ⟨rfl, rfl, Nat.le_of_ble_eq_true rfl, Nat.le_of_ble_eq_true rfl⟩ hl.1 rfl (Nat.le_of_ble_eq_true rfl) ⟨Nat.le_of_ble_eq_true rfl, Nat.le_of_ble_eq_true rfl⟩ dd_Ledger_ctor_48) hS (fun q h => Nat.le_trans (zx_leC (k := 89) (a := 97) (by decide)) h) (cells' := 19) (slots' := 933) rfl rfl (fun H locs (hP : va_P G.1 zw_cl (zw_l b0 (109) (va_up (va_up (f) (89) (.inr (1, [.ref (b0 + 90), .ref (b0 + 93), .ref (b0 + 94), .ref (b0 + 95), .null, .null, .int 0]))) (93) (.inl (G.2 3, 8, .inr (.inr (.inr (.inr (zx_rf (b0 + (110)) 3 0)))))))) H) (hz : H.size = b0 + (109)) _ hS => ?_)
  refine zx_pF (ty := .object "TwinLedgers$Bank") (k := 109) (f := va_up (va_up (f) (89) (.inr (1, [.ref (b0 + 90), .ref (b0 + 93), .ref (b0 + 94), .ref (b0 + 95), .null, .null, .int 0]))) (93) (.inl (G.2 3, 8, .inr (.inr (.inr (.inr (zx_rf (b0 + (110)) 3 0))))))) (x := 89) F hE hP hz hS (fun q _ h => Or.elim h (fun z => Nat.le_trans zsz z) id) (by decide) (zx_leC (k := 89) (a := 89) (by decide)) ((va_up_ne _ _ (by decide)).trans (va_up_self _ _ _)) rfl zi_Ledger zy_Ledger zj_Ledger zl_Ledger 4 (by decide) rfl rfl hin2 rfl wf_Ledger_36 (by decide +kernel) rfl rfl (Nat.le_of_ble_eq_true rfl) dd_Ledger_ctor_51 (fun H locs hP (hz : H.size = b0 + (109)) hS => ?_)
  have hP : va_P G.1 zw_cl (zw_l b0 (109) (va_up (va_up (va_up (f) (89) (.inr (1, [.ref (b0 + 90), .ref (b0 + 93), .ref (b0 + 94), .ref (b0 + 95), .null, .null, .int 0]))) (93) (.inl (G.2 3, 8, .inr (.inr (.inr (.inr (zx_rf (b0 + (110)) 3 0))))))) (89) (.inr (1, [.ref (b0 + 90), .ref (b0 + 93), .ref (b0 + 94), .ref (b0 + 95), .ref (b0 + 97), .null, .int 0])))) H := hP
  rw [zx_uc (α := va_E) (a := 89) (b := 93) (by decide)] at hP
  rw [zx_uu (α := va_E) (a := 89)] at hP
  refine W.eq (g2 := F0 m 54 ls []) rfl ?_
  refine lv_aload_n F.1 F.2.1 dd_Ledger_ctor_54 rfl (lv_at hl 0 rfl) ?_
  refine lv_iconst (v := nI 3) F.1 F.2.1 dd_Ledger_ctor_55 (by decide) ?_
  refine zx_newq (k := 109) (f := va_up (va_up (f) (89) (.inr (1, [.ref (b0 + 90), .ref (b0 + 93), .ref (b0 + 94), .ref (b0 + 95), .ref (b0 + 97), .null, .int 0]))) (93) (.inl (G.2 3, 8, .inr (.inr (.inr (.inr (zx_rf (b0 + (110)) 3 0))))))) (C := "TwinLedgers$End") (z := 4) F hE hP hz hS wq_Ledger_40 hO.2.2.1 rfl (by decide) (N := 3) (by decide) (by decide) (Nat.le_of_ble_eq_true rfl) (Nat.le_of_ble_eq_true rfl) dd_Ledger_ctor_56 (cells' := 20) (slots' := 936) rfl rfl (fun H (hP : va_P G.1 zw_cl (zw_l b0 (110) (va_up (va_up (va_up (f) (89) (.inr (1, [.ref (b0 + 90), .ref (b0 + 93), .ref (b0 + 94), .ref (b0 + 95), .ref (b0 + 97), .null, .int 0]))) (93) (.inl (G.2 3, 8, .inr (.inr (.inr (.inr (zx_rf (b0 + (110)) 3 0))))))) (109) (.inl (G.2 4, 3, .inr (.inr (.inr (.inr (fun _ => none)))))))) H) (hz : H.size = b0 + (110)) hS => ?_)
  rw [zx_rf0 (b0 + (134)) 14] at hP
  refine zx_pF (ty := .array (.object "TwinLedgers$End")) (k := 110) (f := va_up (va_up (va_up (f) (89) (.inr (1, [.ref (b0 + 90), .ref (b0 + 93), .ref (b0 + 94), .ref (b0 + 95), .ref (b0 + 97), .null, .int 0]))) (93) (.inl (G.2 3, 8, .inr (.inr (.inr (.inr (zx_rf (b0 + (110)) 3 0))))))) (109) (.inl (G.2 4, 3, .inr (.inr (.inr (.inr (zx_rf (b0 + (134)) 14 0))))))) (x := 89) F hE hP hz hS (fun q _ h => Or.elim h (fun z => Nat.le_trans zsz z) id) (by decide) (zx_leC (k := 89) (a := 89) (by decide)) ((va_up_ne _ _ (by decide)).trans ((va_up_ne _ _ (by decide)).trans (va_up_self _ _ _))) rfl zi_Ledger zy_Ledger zj_Ledger zl_Ledger 5 (by decide) rfl rfl hin2 rfl wf_Ledger_42 (by decide +kernel) rfl rfl (Nat.le_of_ble_eq_true rfl) dd_Ledger_ctor_59 (fun H locs hP (hz : H.size = b0 + (110)) hS => ?_)
  have hP : va_P G.1 zw_cl (zw_l b0 (110) (va_up (va_up (va_up (va_up (f) (89) (.inr (1, [.ref (b0 + 90), .ref (b0 + 93), .ref (b0 + 94), .ref (b0 + 95), .ref (b0 + 97), .null, .int 0]))) (93) (.inl (G.2 3, 8, .inr (.inr (.inr (.inr (zx_rf (b0 + (110)) 3 0))))))) (109) (.inl (G.2 4, 3, .inr (.inr (.inr (.inr (zx_rf (b0 + (134)) 14 0))))))) (89) (.inr (1, [.ref (b0 + 90), .ref (b0 + 93), .ref (b0 + 94), .ref (b0 + 95), .ref (b0 + 97), .ref (b0 + 109), .int 0])))) H := hP
  rw [zx_uc (α := va_E) (a := 89) (b := 109) (by decide)] at hP
  rw [zx_uc (α := va_E) (a := 89) (b := 93) (by decide)] at hP
  rw [zx_uu (α := va_E) (a := 89)] at hP
  refine W.eq (g2 := F0 m 62 ls []) rfl ?_
  rw [zx_id (α := va_E) (f := f) (a := 89) (e := .inr (1, [.ref (b0 + 90), .ref (b0 + 93), .ref (b0 + 94), .ref (b0 + 95), .ref (b0 + 97), .ref (b0 + 109), .int 0])) ((hf 89 (by decide) (by decide)))] at hP
  refine lv_iconst (v := nI 0) F.1 F.2.1 dd_Ledger_ctor_62 (by decide) ?_
  refine lv_istore_n F.1 F.2.1 dd_Ledger_ctor_63 rfl hl (by decide) (lv' := [(1, .int (nI 0)), (0, .ref (b0 + 89))]) rfl (fun ls hl => ?_)
  refine lv_iload_n F.1 F.2.1 dd_Ledger_ctor_64 rfl (lv_at hl 0 rfl) ?_
  refine lv_bipush (v := nI 8) F.1 F.2.1 dd_Ledger_ctor_65 (by decide) ?_
  refine zn_cge F dd_Ledger_ctor_67 (tgt := 89) rfl (by decide) (by decide) (fun h => absurd h (by decide)) (fun h => ?_)
  refine lv_aload_n F.1 F.2.1 dd_Ledger_ctor_70 rfl (lv_at hl 1 rfl) ?_
  refine zw_gF (n := 110) (f := va_up (va_up (f) (93) (.inl (G.2 3, 8, .inr (.inr (.inr (.inr (zx_rf (b0 + (110)) 3 0))))))) (109) (.inl (G.2 4, 3, .inr (.inr (.inr (.inr (zx_rf (b0 + (134)) 14 0))))))) (x := 89) F hE hP (by decide) ((va_up_ne _ _ (by decide)).trans ((va_up_ne _ _ (by decide)).trans ((hf 89 (by decide) (by decide))))) rfl zi_Ledger 1 (by decide) rfl wf_Ledger_18 rfl dd_Ledger_ctor_71 ?_
  refine W.eq (g2 := F0 m 74 ls [.ref (b0 + 93)]) rfl ?_
  refine lv_iload_n F.1 F.2.1 dd_Ledger_ctor_74 rfl (lv_at hl 0 rfl) ?_
  refine zx_new (k := 110) (f := va_up (va_up (f) (93) (.inl (G.2 3, 8, .inr (.inr (.inr (.inr (zx_rf (b0 + (110)) 3 0))))))) (109) (.inl (G.2 4, 3, .inr (.inr (.inr (.inr (zx_rf (b0 + (134)) 14 0))))))) (fs := [.null, .null]) zy_Store F hE hP hz hS rfl zi_Store zj_Store wq_Ledger_9 wi_Store wj_Store zx_fs_Store (Nat.le_of_ble_eq_true rfl) (Nat.le_of_ble_eq_true rfl) dd_Ledger_ctor_75 (cells' := 21) (slots' := 938) rfl rfl (fun H (hP : va_P G.1 zw_cl (zw_l b0 (111) (va_up (va_up (va_up (f) (93) (.inl (G.2 3, 8, .inr (.inr (.inr (.inr (zx_rf (b0 + (110)) 3 0))))))) (109) (.inl (G.2 4, 3, .inr (.inr (.inr (.inr (zx_rf (b0 + (134)) 14 0))))))) (110) (.inr (2, [.null, .null])))) H) (hz : H.size = b0 + (111)) hS => ?_)
  refine lv_dup F.1 F.2.1 dd_Ledger_ctor_78 rfl ?_
  refine zx_go (k := 110) (n := 3) (f := va_up (va_up (f) (93) (.inl (G.2 3, 8, .inr (.inr (.inr (.inr (zx_rf (b0 + (110)) 3 0))))))) (109) (.inl (G.2 4, 3, .inr (.inr (.inr (.inr (zx_rf (b0 + (134)) 14 0))))))) (zx_runN (k := 110) (f := va_up (va_up (f) (93) (.inl (G.2 3, 8, .inr (.inr (.inr (.inr (zx_rf (b0 + (110)) 3 0))))))) (109) (.inl (G.2 4, 3, .inr (.inr (.inr (.inr (zx_rf (b0 + (134)) 14 0))))))) F hE hO hP hz (zc_Store_ctor lc G b0 110 (va_up (va_up (f) (93) (.inl (G.2 3, 8, .inr (.inr (.inr (.inr (zx_rf (b0 + (110)) 3 0))))))) (109) (.inl (G.2 4, 3, .inr (.inr (.inr (.inr (zx_rf (b0 + (134)) 14 0))))))) ((va_up_ne _ _ (by decide)).trans ((va_up_ne _ _ (by decide)).trans ((hf 110 (by decide) (by decide))))) ((va_up_ne _ _ (by decide)).trans ((va_up_ne _ _ (by decide)).trans ((hf 111 (by decide) (by decide))))) ((va_up_ne _ _ (by decide)).trans ((va_up_ne _ _ (by decide)).trans ((hf 112 (by decide) (by decide)))))) zk_Store_ctor za_Store_ctor rfl wl_Ledger_11 ⟨rfl, rfl, Nat.le_of_ble_eq_true rfl, Nat.le_of_ble_eq_true rfl⟩ hl.1 rfl (Nat.le_of_ble_eq_true rfl) ⟨Nat.le_of_ble_eq_true rfl, Nat.le_of_ble_eq_true rfl⟩ dd_Ledger_ctor_79) hS (fun q h => Nat.le_trans (zx_leC (k := 89) (a := 110) (by decide)) h) (cells' := 23) (slots' := 1166) rfl rfl (fun H locs (hP : va_P G.1 zw_cl (zw_l b0 (113) (va_up (va_up (f) (93) (.inl (G.2 3, 8, .inr (.inr (.inr (.inr (zx_rf (b0 + (110)) 3 0))))))) (109) (.inl (G.2 4, 3, .inr (.inr (.inr (.inr (zx_rf (b0 + (134)) 14 0)))))))) H) (hz : H.size = b0 + (113)) _ hS => ?_)
  refine zx_ast (k := 113) (f := va_up (va_up (f) (93) (.inl (G.2 3, 8, .inr (.inr (.inr (.inr (zx_rf (b0 + (110)) 3 0))))))) (109) (.inl (G.2 4, 3, .inr (.inr (.inr (.inr (zx_rf (b0 + (134)) 14 0))))))) (x := 93) (y := 110) (z := 3) (j := 0) F hE hP hz hS (by decide) (zx_leC (k := 89) (a := 93) (by decide)) ((va_up_ne _ _ (by decide)).trans (va_up_self _ _ _)) rfl (by decide) ((va_up_ne _ _ (by decide)).trans ((va_up_ne _ _ (by decide)).trans ((hf 110 (by decide) (by decide))))) rfl (by decide) (by decide) rfl dd_Ledger_ctor_82 (fun H locs hP (hz : H.size = b0 + (113)) hS => ?_)
  rw [zx_rfs (n := 0) (n' := 1) (zx_rv0 (a := 110) (m := 110) (by decide)) rfl] at hP
  rw [zx_uc (α := va_E) (a := 93) (b := 109) (by decide)] at hP
  rw [zx_uu (α := va_E) (a := 93)] at hP
  refine lv_iinc F.1 F.2.1 dd_Ledger_ctor_83 hl (k := 0) rfl (v := nI 1) (by decide) (by decide) (lv' := [(1, .int (nI 1)), (0, .ref (b0 + 89))]) rfl (fun ls hl => ?_)
  refine lv_goto F.1 F.2.1 dd_Ledger_ctor_86 (tgt := 64) rfl ?_
  refine lv_iload_n F.1 F.2.1 dd_Ledger_ctor_64 rfl (lv_at hl 0 rfl) ?_
  refine lv_bipush (v := nI 8) F.1 F.2.1 dd_Ledger_ctor_65 (by decide) ?_
  refine zn_cge F dd_Ledger_ctor_67 (tgt := 89) rfl (by decide) (by decide) (fun h => absurd h (by decide)) (fun h => ?_)
  refine lv_aload_n F.1 F.2.1 dd_Ledger_ctor_70 rfl (lv_at hl 1 rfl) ?_
  refine zw_gF (n := 113) (f := va_up (va_up (f) (93) (.inl (G.2 3, 8, .inr (.inr (.inr (.inr (zx_rf (b0 + (110)) 3 1))))))) (109) (.inl (G.2 4, 3, .inr (.inr (.inr (.inr (zx_rf (b0 + (134)) 14 0))))))) (x := 89) F hE hP (by decide) ((va_up_ne _ _ (by decide)).trans ((va_up_ne _ _ (by decide)).trans ((hf 89 (by decide) (by decide))))) rfl zi_Ledger 1 (by decide) rfl wf_Ledger_18 rfl dd_Ledger_ctor_71 ?_
  refine W.eq (g2 := F0 m 74 ls [.ref (b0 + 93)]) rfl ?_
  refine lv_iload_n F.1 F.2.1 dd_Ledger_ctor_74 rfl (lv_at hl 0 rfl) ?_
  refine zx_new (k := 113) (f := va_up (va_up (f) (93) (.inl (G.2 3, 8, .inr (.inr (.inr (.inr (zx_rf (b0 + (110)) 3 1))))))) (109) (.inl (G.2 4, 3, .inr (.inr (.inr (.inr (zx_rf (b0 + (134)) 14 0))))))) (fs := [.null, .null]) zy_Store F hE hP hz hS rfl zi_Store zj_Store wq_Ledger_9 wi_Store wj_Store zx_fs_Store (Nat.le_of_ble_eq_true rfl) (Nat.le_of_ble_eq_true rfl) dd_Ledger_ctor_75 (cells' := 24) (slots' := 1168) rfl rfl (fun H (hP : va_P G.1 zw_cl (zw_l b0 (114) (va_up (va_up (va_up (f) (93) (.inl (G.2 3, 8, .inr (.inr (.inr (.inr (zx_rf (b0 + (110)) 3 1))))))) (109) (.inl (G.2 4, 3, .inr (.inr (.inr (.inr (zx_rf (b0 + (134)) 14 0))))))) (113) (.inr (2, [.null, .null])))) H) (hz : H.size = b0 + (114)) hS => ?_)
  refine lv_dup F.1 F.2.1 dd_Ledger_ctor_78 rfl ?_
  refine zx_go (k := 113) (n := 3) (f := va_up (va_up (f) (93) (.inl (G.2 3, 8, .inr (.inr (.inr (.inr (zx_rf (b0 + (110)) 3 1))))))) (109) (.inl (G.2 4, 3, .inr (.inr (.inr (.inr (zx_rf (b0 + (134)) 14 0))))))) (zx_runN (k := 113) (f := va_up (va_up (f) (93) (.inl (G.2 3, 8, .inr (.inr (.inr (.inr (zx_rf (b0 + (110)) 3 1))))))) (109) (.inl (G.2 4, 3, .inr (.inr (.inr (.inr (zx_rf (b0 + (134)) 14 0))))))) F hE hO hP hz (zc_Store_ctor lc G b0 113 (va_up (va_up (f) (93) (.inl (G.2 3, 8, .inr (.inr (.inr (.inr (zx_rf (b0 + (110)) 3 1))))))) (109) (.inl (G.2 4, 3, .inr (.inr (.inr (.inr (zx_rf (b0 + (134)) 14 0))))))) ((va_up_ne _ _ (by decide)).trans ((va_up_ne _ _ (by decide)).trans ((hf 113 (by decide) (by decide))))) ((va_up_ne _ _ (by decide)).trans ((va_up_ne _ _ (by decide)).trans ((hf 114 (by decide) (by decide))))) ((va_up_ne _ _ (by decide)).trans ((va_up_ne _ _ (by decide)).trans ((hf 115 (by decide) (by decide)))))) zk_Store_ctor za_Store_ctor rfl wl_Ledger_11 ⟨rfl, rfl, Nat.le_of_ble_eq_true rfl, Nat.le_of_ble_eq_true rfl⟩ hl.1 rfl (Nat.le_of_ble_eq_true rfl) ⟨Nat.le_of_ble_eq_true rfl, Nat.le_of_ble_eq_true rfl⟩ dd_Ledger_ctor_79) hS (fun q h => Nat.le_trans (zx_leC (k := 89) (a := 113) (by decide)) h) (cells' := 26) (slots' := 1396) rfl rfl (fun H locs (hP : va_P G.1 zw_cl (zw_l b0 (116) (va_up (va_up (f) (93) (.inl (G.2 3, 8, .inr (.inr (.inr (.inr (zx_rf (b0 + (110)) 3 1))))))) (109) (.inl (G.2 4, 3, .inr (.inr (.inr (.inr (zx_rf (b0 + (134)) 14 0)))))))) H) (hz : H.size = b0 + (116)) _ hS => ?_)
  refine zx_ast (k := 116) (f := va_up (va_up (f) (93) (.inl (G.2 3, 8, .inr (.inr (.inr (.inr (zx_rf (b0 + (110)) 3 1))))))) (109) (.inl (G.2 4, 3, .inr (.inr (.inr (.inr (zx_rf (b0 + (134)) 14 0))))))) (x := 93) (y := 113) (z := 3) (j := 1) F hE hP hz hS (by decide) (zx_leC (k := 89) (a := 93) (by decide)) ((va_up_ne _ _ (by decide)).trans (va_up_self _ _ _)) rfl (by decide) ((va_up_ne _ _ (by decide)).trans ((va_up_ne _ _ (by decide)).trans ((hf 113 (by decide) (by decide))))) rfl (by decide) (by decide) rfl dd_Ledger_ctor_82 (fun H locs hP (hz : H.size = b0 + (116)) hS => ?_)
  rw [zx_rfs (n := 1) (n' := 2) (zx_rv0 (a := 110) (m := 113) (by decide)) rfl] at hP
  rw [zx_uc (α := va_E) (a := 93) (b := 109) (by decide)] at hP
  rw [zx_uu (α := va_E) (a := 93)] at hP
  refine lv_iinc F.1 F.2.1 dd_Ledger_ctor_83 hl (k := 0) rfl (v := nI 2) (by decide) (by decide) (lv' := [(1, .int (nI 2)), (0, .ref (b0 + 89))]) rfl (fun ls hl => ?_)
  refine lv_goto F.1 F.2.1 dd_Ledger_ctor_86 (tgt := 64) rfl ?_
  refine lv_iload_n F.1 F.2.1 dd_Ledger_ctor_64 rfl (lv_at hl 0 rfl) ?_
  refine lv_bipush (v := nI 8) F.1 F.2.1 dd_Ledger_ctor_65 (by decide) ?_
  refine zn_cge F dd_Ledger_ctor_67 (tgt := 89) rfl (by decide) (by decide) (fun h => absurd h (by decide)) (fun h => ?_)
  refine lv_aload_n F.1 F.2.1 dd_Ledger_ctor_70 rfl (lv_at hl 1 rfl) ?_
  refine zw_gF (n := 116) (f := va_up (va_up (f) (93) (.inl (G.2 3, 8, .inr (.inr (.inr (.inr (zx_rf (b0 + (110)) 3 2))))))) (109) (.inl (G.2 4, 3, .inr (.inr (.inr (.inr (zx_rf (b0 + (134)) 14 0))))))) (x := 89) F hE hP (by decide) ((va_up_ne _ _ (by decide)).trans ((va_up_ne _ _ (by decide)).trans ((hf 89 (by decide) (by decide))))) rfl zi_Ledger 1 (by decide) rfl wf_Ledger_18 rfl dd_Ledger_ctor_71 ?_
  refine W.eq (g2 := F0 m 74 ls [.ref (b0 + 93)]) rfl ?_
  refine lv_iload_n F.1 F.2.1 dd_Ledger_ctor_74 rfl (lv_at hl 0 rfl) ?_
  refine zx_new (k := 116) (f := va_up (va_up (f) (93) (.inl (G.2 3, 8, .inr (.inr (.inr (.inr (zx_rf (b0 + (110)) 3 2))))))) (109) (.inl (G.2 4, 3, .inr (.inr (.inr (.inr (zx_rf (b0 + (134)) 14 0))))))) (fs := [.null, .null]) zy_Store F hE hP hz hS rfl zi_Store zj_Store wq_Ledger_9 wi_Store wj_Store zx_fs_Store (Nat.le_of_ble_eq_true rfl) (Nat.le_of_ble_eq_true rfl) dd_Ledger_ctor_75 (cells' := 27) (slots' := 1398) rfl rfl (fun H (hP : va_P G.1 zw_cl (zw_l b0 (117) (va_up (va_up (va_up (f) (93) (.inl (G.2 3, 8, .inr (.inr (.inr (.inr (zx_rf (b0 + (110)) 3 2))))))) (109) (.inl (G.2 4, 3, .inr (.inr (.inr (.inr (zx_rf (b0 + (134)) 14 0))))))) (116) (.inr (2, [.null, .null])))) H) (hz : H.size = b0 + (117)) hS => ?_)
  refine lv_dup F.1 F.2.1 dd_Ledger_ctor_78 rfl ?_
  refine zx_go (k := 116) (n := 3) (f := va_up (va_up (f) (93) (.inl (G.2 3, 8, .inr (.inr (.inr (.inr (zx_rf (b0 + (110)) 3 2))))))) (109) (.inl (G.2 4, 3, .inr (.inr (.inr (.inr (zx_rf (b0 + (134)) 14 0))))))) (zx_runN (k := 116) (f := va_up (va_up (f) (93) (.inl (G.2 3, 8, .inr (.inr (.inr (.inr (zx_rf (b0 + (110)) 3 2))))))) (109) (.inl (G.2 4, 3, .inr (.inr (.inr (.inr (zx_rf (b0 + (134)) 14 0))))))) F hE hO hP hz (zc_Store_ctor lc G b0 116 (va_up (va_up (f) (93) (.inl (G.2 3, 8, .inr (.inr (.inr (.inr (zx_rf (b0 + (110)) 3 2))))))) (109) (.inl (G.2 4, 3, .inr (.inr (.inr (.inr (zx_rf (b0 + (134)) 14 0))))))) ((va_up_ne _ _ (by decide)).trans ((va_up_ne _ _ (by decide)).trans ((hf 116 (by decide) (by decide))))) ((va_up_ne _ _ (by decide)).trans ((va_up_ne _ _ (by decide)).trans ((hf 117 (by decide) (by decide))))) ((va_up_ne _ _ (by decide)).trans ((va_up_ne _ _ (by decide)).trans ((hf 118 (by decide) (by decide)))))) zk_Store_ctor za_Store_ctor rfl wl_Ledger_11 ⟨rfl, rfl, Nat.le_of_ble_eq_true rfl, Nat.le_of_ble_eq_true rfl⟩ hl.1 rfl (Nat.le_of_ble_eq_true rfl) ⟨Nat.le_of_ble_eq_true rfl, Nat.le_of_ble_eq_true rfl⟩ dd_Ledger_ctor_79) hS (fun q h => Nat.le_trans (zx_leC (k := 89) (a := 116) (by decide)) h) (cells' := 29) (slots' := 1626) rfl rfl (fun H locs (hP : va_P G.1 zw_cl (zw_l b0 (119) (va_up (va_up (f) (93) (.inl (G.2 3, 8, .inr (.inr (.inr (.inr (zx_rf (b0 + (110)) 3 2))))))) (109) (.inl (G.2 4, 3, .inr (.inr (.inr (.inr (zx_rf (b0 + (134)) 14 0)))))))) H) (hz : H.size = b0 + (119)) _ hS => ?_)
  refine zx_ast (k := 119) (f := va_up (va_up (f) (93) (.inl (G.2 3, 8, .inr (.inr (.inr (.inr (zx_rf (b0 + (110)) 3 2))))))) (109) (.inl (G.2 4, 3, .inr (.inr (.inr (.inr (zx_rf (b0 + (134)) 14 0))))))) (x := 93) (y := 116) (z := 3) (j := 2) F hE hP hz hS (by decide) (zx_leC (k := 89) (a := 93) (by decide)) ((va_up_ne _ _ (by decide)).trans (va_up_self _ _ _)) rfl (by decide) ((va_up_ne _ _ (by decide)).trans ((va_up_ne _ _ (by decide)).trans ((hf 116 (by decide) (by decide))))) rfl (by decide) (by decide) rfl dd_Ledger_ctor_82 (fun H locs hP (hz : H.size = b0 + (119)) hS => ?_)
  rw [zx_rfs (n := 2) (n' := 3) (zx_rv0 (a := 110) (m := 116) (by decide)) rfl] at hP
  rw [zx_uc (α := va_E) (a := 93) (b := 109) (by decide)] at hP
  rw [zx_uu (α := va_E) (a := 93)] at hP
  refine lv_iinc F.1 F.2.1 dd_Ledger_ctor_83 hl (k := 0) rfl (v := nI 3) (by decide) (by decide) (lv' := [(1, .int (nI 3)), (0, .ref (b0 + 89))]) rfl (fun ls hl => ?_)
  refine lv_goto F.1 F.2.1 dd_Ledger_ctor_86 (tgt := 64) rfl ?_
  refine lv_iload_n F.1 F.2.1 dd_Ledger_ctor_64 rfl (lv_at hl 0 rfl) ?_
  refine lv_bipush (v := nI 8) F.1 F.2.1 dd_Ledger_ctor_65 (by decide) ?_
  refine zn_cge F dd_Ledger_ctor_67 (tgt := 89) rfl (by decide) (by decide) (fun h => absurd h (by decide)) (fun h => ?_)
  refine lv_aload_n F.1 F.2.1 dd_Ledger_ctor_70 rfl (lv_at hl 1 rfl) ?_
  refine zw_gF (n := 119) (f := va_up (va_up (f) (93) (.inl (G.2 3, 8, .inr (.inr (.inr (.inr (zx_rf (b0 + (110)) 3 3))))))) (109) (.inl (G.2 4, 3, .inr (.inr (.inr (.inr (zx_rf (b0 + (134)) 14 0))))))) (x := 89) F hE hP (by decide) ((va_up_ne _ _ (by decide)).trans ((va_up_ne _ _ (by decide)).trans ((hf 89 (by decide) (by decide))))) rfl zi_Ledger 1 (by decide) rfl wf_Ledger_18 rfl dd_Ledger_ctor_71 ?_
  refine W.eq (g2 := F0 m 74 ls [.ref (b0 + 93)]) rfl ?_
  refine lv_iload_n F.1 F.2.1 dd_Ledger_ctor_74 rfl (lv_at hl 0 rfl) ?_
  refine zx_new (k := 119) (f := va_up (va_up (f) (93) (.inl (G.2 3, 8, .inr (.inr (.inr (.inr (zx_rf (b0 + (110)) 3 3))))))) (109) (.inl (G.2 4, 3, .inr (.inr (.inr (.inr (zx_rf (b0 + (134)) 14 0))))))) (fs := [.null, .null]) zy_Store F hE hP hz hS rfl zi_Store zj_Store wq_Ledger_9 wi_Store wj_Store zx_fs_Store (Nat.le_of_ble_eq_true rfl) (Nat.le_of_ble_eq_true rfl) dd_Ledger_ctor_75 (cells' := 30) (slots' := 1628) rfl rfl (fun H (hP : va_P G.1 zw_cl (zw_l b0 (120) (va_up (va_up (va_up (f) (93) (.inl (G.2 3, 8, .inr (.inr (.inr (.inr (zx_rf (b0 + (110)) 3 3))))))) (109) (.inl (G.2 4, 3, .inr (.inr (.inr (.inr (zx_rf (b0 + (134)) 14 0))))))) (119) (.inr (2, [.null, .null])))) H) (hz : H.size = b0 + (120)) hS => ?_)
  refine lv_dup F.1 F.2.1 dd_Ledger_ctor_78 rfl ?_
  refine zx_go (k := 119) (n := 3) (f := va_up (va_up (f) (93) (.inl (G.2 3, 8, .inr (.inr (.inr (.inr (zx_rf (b0 + (110)) 3 3))))))) (109) (.inl (G.2 4, 3, .inr (.inr (.inr (.inr (zx_rf (b0 + (134)) 14 0))))))) (zx_runN (k := 119) (f := va_up (va_up (f) (93) (.inl (G.2 3, 8, .inr (.inr (.inr (.inr (zx_rf (b0 + (110)) 3 3))))))) (109) (.inl (G.2 4, 3, .inr (.inr (.inr (.inr (zx_rf (b0 + (134)) 14 0))))))) F hE hO hP hz (zc_Store_ctor lc G b0 119 (va_up (va_up (f) (93) (.inl (G.2 3, 8, .inr (.inr (.inr (.inr (zx_rf (b0 + (110)) 3 3))))))) (109) (.inl (G.2 4, 3, .inr (.inr (.inr (.inr (zx_rf (b0 + (134)) 14 0))))))) ((va_up_ne _ _ (by decide)).trans ((va_up_ne _ _ (by decide)).trans ((hf 119 (by decide) (by decide))))) ((va_up_ne _ _ (by decide)).trans ((va_up_ne _ _ (by decide)).trans ((hf 120 (by decide) (by decide))))) ((va_up_ne _ _ (by decide)).trans ((va_up_ne _ _ (by decide)).trans ((hf 121 (by decide) (by decide)))))) zk_Store_ctor za_Store_ctor rfl wl_Ledger_11 ⟨rfl, rfl, Nat.le_of_ble_eq_true rfl, Nat.le_of_ble_eq_true rfl⟩ hl.1 rfl (Nat.le_of_ble_eq_true rfl) ⟨Nat.le_of_ble_eq_true rfl, Nat.le_of_ble_eq_true rfl⟩ dd_Ledger_ctor_79) hS (fun q h => Nat.le_trans (zx_leC (k := 89) (a := 119) (by decide)) h) (cells' := 32) (slots' := 1856) rfl rfl (fun H locs (hP : va_P G.1 zw_cl (zw_l b0 (122) (va_up (va_up (f) (93) (.inl (G.2 3, 8, .inr (.inr (.inr (.inr (zx_rf (b0 + (110)) 3 3))))))) (109) (.inl (G.2 4, 3, .inr (.inr (.inr (.inr (zx_rf (b0 + (134)) 14 0)))))))) H) (hz : H.size = b0 + (122)) _ hS => ?_)
  refine zx_ast (k := 122) (f := va_up (va_up (f) (93) (.inl (G.2 3, 8, .inr (.inr (.inr (.inr (zx_rf (b0 + (110)) 3 3))))))) (109) (.inl (G.2 4, 3, .inr (.inr (.inr (.inr (zx_rf (b0 + (134)) 14 0))))))) (x := 93) (y := 119) (z := 3) (j := 3) F hE hP hz hS (by decide) (zx_leC (k := 89) (a := 93) (by decide)) ((va_up_ne _ _ (by decide)).trans (va_up_self _ _ _)) rfl (by decide) ((va_up_ne _ _ (by decide)).trans ((va_up_ne _ _ (by decide)).trans ((hf 119 (by decide) (by decide))))) rfl (by decide) (by decide) rfl dd_Ledger_ctor_82 (fun H locs hP (hz : H.size = b0 + (122)) hS => ?_)
  rw [zx_rfs (n := 3) (n' := 4) (zx_rv0 (a := 110) (m := 119) (by decide)) rfl] at hP
  rw [zx_uc (α := va_E) (a := 93) (b := 109) (by decide)] at hP
  rw [zx_uu (α := va_E) (a := 93)] at hP
  refine lv_iinc F.1 F.2.1 dd_Ledger_ctor_83 hl (k := 0) rfl (v := nI 4) (by decide) (by decide) (lv' := [(1, .int (nI 4)), (0, .ref (b0 + 89))]) rfl (fun ls hl => ?_)
  refine lv_goto F.1 F.2.1 dd_Ledger_ctor_86 (tgt := 64) rfl ?_
  refine lv_iload_n F.1 F.2.1 dd_Ledger_ctor_64 rfl (lv_at hl 0 rfl) ?_
  refine lv_bipush (v := nI 8) F.1 F.2.1 dd_Ledger_ctor_65 (by decide) ?_
  refine zn_cge F dd_Ledger_ctor_67 (tgt := 89) rfl (by decide) (by decide) (fun h => absurd h (by decide)) (fun h => ?_)
  refine lv_aload_n F.1 F.2.1 dd_Ledger_ctor_70 rfl (lv_at hl 1 rfl) ?_
  refine zw_gF (n := 122) (f := va_up (va_up (f) (93) (.inl (G.2 3, 8, .inr (.inr (.inr (.inr (zx_rf (b0 + (110)) 3 4))))))) (109) (.inl (G.2 4, 3, .inr (.inr (.inr (.inr (zx_rf (b0 + (134)) 14 0))))))) (x := 89) F hE hP (by decide) ((va_up_ne _ _ (by decide)).trans ((va_up_ne _ _ (by decide)).trans ((hf 89 (by decide) (by decide))))) rfl zi_Ledger 1 (by decide) rfl wf_Ledger_18 rfl dd_Ledger_ctor_71 ?_
  refine W.eq (g2 := F0 m 74 ls [.ref (b0 + 93)]) rfl ?_
  refine lv_iload_n F.1 F.2.1 dd_Ledger_ctor_74 rfl (lv_at hl 0 rfl) ?_
  refine zx_new (k := 122) (f := va_up (va_up (f) (93) (.inl (G.2 3, 8, .inr (.inr (.inr (.inr (zx_rf (b0 + (110)) 3 4))))))) (109) (.inl (G.2 4, 3, .inr (.inr (.inr (.inr (zx_rf (b0 + (134)) 14 0))))))) (fs := [.null, .null]) zy_Store F hE hP hz hS rfl zi_Store zj_Store wq_Ledger_9 wi_Store wj_Store zx_fs_Store (Nat.le_of_ble_eq_true rfl) (Nat.le_of_ble_eq_true rfl) dd_Ledger_ctor_75 (cells' := 33) (slots' := 1858) rfl rfl (fun H (hP : va_P G.1 zw_cl (zw_l b0 (123) (va_up (va_up (va_up (f) (93) (.inl (G.2 3, 8, .inr (.inr (.inr (.inr (zx_rf (b0 + (110)) 3 4))))))) (109) (.inl (G.2 4, 3, .inr (.inr (.inr (.inr (zx_rf (b0 + (134)) 14 0))))))) (122) (.inr (2, [.null, .null])))) H) (hz : H.size = b0 + (123)) hS => ?_)
  refine lv_dup F.1 F.2.1 dd_Ledger_ctor_78 rfl ?_
  refine zx_go (k := 122) (n := 3) (f := va_up (va_up (f) (93) (.inl (G.2 3, 8, .inr (.inr (.inr (.inr (zx_rf (b0 + (110)) 3 4))))))) (109) (.inl (G.2 4, 3, .inr (.inr (.inr (.inr (zx_rf (b0 + (134)) 14 0))))))) (zx_runN (k := 122) (f := va_up (va_up (f) (93) (.inl (G.2 3, 8, .inr (.inr (.inr (.inr (zx_rf (b0 + (110)) 3 4))))))) (109) (.inl (G.2 4, 3, .inr (.inr (.inr (.inr (zx_rf (b0 + (134)) 14 0))))))) F hE hO hP hz (zc_Store_ctor lc G b0 122 (va_up (va_up (f) (93) (.inl (G.2 3, 8, .inr (.inr (.inr (.inr (zx_rf (b0 + (110)) 3 4))))))) (109) (.inl (G.2 4, 3, .inr (.inr (.inr (.inr (zx_rf (b0 + (134)) 14 0))))))) ((va_up_ne _ _ (by decide)).trans ((va_up_ne _ _ (by decide)).trans ((hf 122 (by decide) (by decide))))) ((va_up_ne _ _ (by decide)).trans ((va_up_ne _ _ (by decide)).trans ((hf 123 (by decide) (by decide))))) ((va_up_ne _ _ (by decide)).trans ((va_up_ne _ _ (by decide)).trans ((hf 124 (by decide) (by decide)))))) zk_Store_ctor za_Store_ctor rfl wl_Ledger_11 ⟨rfl, rfl, Nat.le_of_ble_eq_true rfl, Nat.le_of_ble_eq_true rfl⟩ hl.1 rfl (Nat.le_of_ble_eq_true rfl) ⟨Nat.le_of_ble_eq_true rfl, Nat.le_of_ble_eq_true rfl⟩ dd_Ledger_ctor_79) hS (fun q h => Nat.le_trans (zx_leC (k := 89) (a := 122) (by decide)) h) (cells' := 35) (slots' := 2086) rfl rfl (fun H locs (hP : va_P G.1 zw_cl (zw_l b0 (125) (va_up (va_up (f) (93) (.inl (G.2 3, 8, .inr (.inr (.inr (.inr (zx_rf (b0 + (110)) 3 4))))))) (109) (.inl (G.2 4, 3, .inr (.inr (.inr (.inr (zx_rf (b0 + (134)) 14 0)))))))) H) (hz : H.size = b0 + (125)) _ hS => ?_)
  refine zx_ast (k := 125) (f := va_up (va_up (f) (93) (.inl (G.2 3, 8, .inr (.inr (.inr (.inr (zx_rf (b0 + (110)) 3 4))))))) (109) (.inl (G.2 4, 3, .inr (.inr (.inr (.inr (zx_rf (b0 + (134)) 14 0))))))) (x := 93) (y := 122) (z := 3) (j := 4) F hE hP hz hS (by decide) (zx_leC (k := 89) (a := 93) (by decide)) ((va_up_ne _ _ (by decide)).trans (va_up_self _ _ _)) rfl (by decide) ((va_up_ne _ _ (by decide)).trans ((va_up_ne _ _ (by decide)).trans ((hf 122 (by decide) (by decide))))) rfl (by decide) (by decide) rfl dd_Ledger_ctor_82 (fun H locs hP (hz : H.size = b0 + (125)) hS => ?_)
  rw [zx_rfs (n := 4) (n' := 5) (zx_rv0 (a := 110) (m := 122) (by decide)) rfl] at hP
  rw [zx_uc (α := va_E) (a := 93) (b := 109) (by decide)] at hP
  rw [zx_uu (α := va_E) (a := 93)] at hP
  refine lv_iinc F.1 F.2.1 dd_Ledger_ctor_83 hl (k := 0) rfl (v := nI 5) (by decide) (by decide) (lv' := [(1, .int (nI 5)), (0, .ref (b0 + 89))]) rfl (fun ls hl => ?_)
  refine lv_goto F.1 F.2.1 dd_Ledger_ctor_86 (tgt := 64) rfl ?_
  refine lv_iload_n F.1 F.2.1 dd_Ledger_ctor_64 rfl (lv_at hl 0 rfl) ?_
  refine lv_bipush (v := nI 8) F.1 F.2.1 dd_Ledger_ctor_65 (by decide) ?_
  refine zn_cge F dd_Ledger_ctor_67 (tgt := 89) rfl (by decide) (by decide) (fun h => absurd h (by decide)) (fun h => ?_)
  refine lv_aload_n F.1 F.2.1 dd_Ledger_ctor_70 rfl (lv_at hl 1 rfl) ?_
  refine zw_gF (n := 125) (f := va_up (va_up (f) (93) (.inl (G.2 3, 8, .inr (.inr (.inr (.inr (zx_rf (b0 + (110)) 3 5))))))) (109) (.inl (G.2 4, 3, .inr (.inr (.inr (.inr (zx_rf (b0 + (134)) 14 0))))))) (x := 89) F hE hP (by decide) ((va_up_ne _ _ (by decide)).trans ((va_up_ne _ _ (by decide)).trans ((hf 89 (by decide) (by decide))))) rfl zi_Ledger 1 (by decide) rfl wf_Ledger_18 rfl dd_Ledger_ctor_71 ?_
  refine W.eq (g2 := F0 m 74 ls [.ref (b0 + 93)]) rfl ?_
  refine lv_iload_n F.1 F.2.1 dd_Ledger_ctor_74 rfl (lv_at hl 0 rfl) ?_
  refine zx_new (k := 125) (f := va_up (va_up (f) (93) (.inl (G.2 3, 8, .inr (.inr (.inr (.inr (zx_rf (b0 + (110)) 3 5))))))) (109) (.inl (G.2 4, 3, .inr (.inr (.inr (.inr (zx_rf (b0 + (134)) 14 0))))))) (fs := [.null, .null]) zy_Store F hE hP hz hS rfl zi_Store zj_Store wq_Ledger_9 wi_Store wj_Store zx_fs_Store (Nat.le_of_ble_eq_true rfl) (Nat.le_of_ble_eq_true rfl) dd_Ledger_ctor_75 (cells' := 36) (slots' := 2088) rfl rfl (fun H (hP : va_P G.1 zw_cl (zw_l b0 (126) (va_up (va_up (va_up (f) (93) (.inl (G.2 3, 8, .inr (.inr (.inr (.inr (zx_rf (b0 + (110)) 3 5))))))) (109) (.inl (G.2 4, 3, .inr (.inr (.inr (.inr (zx_rf (b0 + (134)) 14 0))))))) (125) (.inr (2, [.null, .null])))) H) (hz : H.size = b0 + (126)) hS => ?_)
  refine lv_dup F.1 F.2.1 dd_Ledger_ctor_78 rfl ?_
  refine zx_go (k := 125) (n := 3) (f := va_up (va_up (f) (93) (.inl (G.2 3, 8, .inr (.inr (.inr (.inr (zx_rf (b0 + (110)) 3 5))))))) (109) (.inl (G.2 4, 3, .inr (.inr (.inr (.inr (zx_rf (b0 + (134)) 14 0))))))) (zx_runN (k := 125) (f := va_up (va_up (f) (93) (.inl (G.2 3, 8, .inr (.inr (.inr (.inr (zx_rf (b0 + (110)) 3 5))))))) (109) (.inl (G.2 4, 3, .inr (.inr (.inr (.inr (zx_rf (b0 + (134)) 14 0))))))) F hE hO hP hz (zc_Store_ctor lc G b0 125 (va_up (va_up (f) (93) (.inl (G.2 3, 8, .inr (.inr (.inr (.inr (zx_rf (b0 + (110)) 3 5))))))) (109) (.inl (G.2 4, 3, .inr (.inr (.inr (.inr (zx_rf (b0 + (134)) 14 0))))))) ((va_up_ne _ _ (by decide)).trans ((va_up_ne _ _ (by decide)).trans ((hf 125 (by decide) (by decide))))) ((va_up_ne _ _ (by decide)).trans ((va_up_ne _ _ (by decide)).trans ((hf 126 (by decide) (by decide))))) ((va_up_ne _ _ (by decide)).trans ((va_up_ne _ _ (by decide)).trans ((hf 127 (by decide) (by decide)))))) zk_Store_ctor za_Store_ctor rfl wl_Ledger_11 ⟨rfl, rfl, Nat.le_of_ble_eq_true rfl, Nat.le_of_ble_eq_true rfl⟩ hl.1 rfl (Nat.le_of_ble_eq_true rfl) ⟨Nat.le_of_ble_eq_true rfl, Nat.le_of_ble_eq_true rfl⟩ dd_Ledger_ctor_79) hS (fun q h => Nat.le_trans (zx_leC (k := 89) (a := 125) (by decide)) h) (cells' := 38) (slots' := 2316) rfl rfl (fun H locs (hP : va_P G.1 zw_cl (zw_l b0 (128) (va_up (va_up (f) (93) (.inl (G.2 3, 8, .inr (.inr (.inr (.inr (zx_rf (b0 + (110)) 3 5))))))) (109) (.inl (G.2 4, 3, .inr (.inr (.inr (.inr (zx_rf (b0 + (134)) 14 0)))))))) H) (hz : H.size = b0 + (128)) _ hS => ?_)
  refine zx_ast (k := 128) (f := va_up (va_up (f) (93) (.inl (G.2 3, 8, .inr (.inr (.inr (.inr (zx_rf (b0 + (110)) 3 5))))))) (109) (.inl (G.2 4, 3, .inr (.inr (.inr (.inr (zx_rf (b0 + (134)) 14 0))))))) (x := 93) (y := 125) (z := 3) (j := 5) F hE hP hz hS (by decide) (zx_leC (k := 89) (a := 93) (by decide)) ((va_up_ne _ _ (by decide)).trans (va_up_self _ _ _)) rfl (by decide) ((va_up_ne _ _ (by decide)).trans ((va_up_ne _ _ (by decide)).trans ((hf 125 (by decide) (by decide))))) rfl (by decide) (by decide) rfl dd_Ledger_ctor_82 (fun H locs hP (hz : H.size = b0 + (128)) hS => ?_)
  rw [zx_rfs (n := 5) (n' := 6) (zx_rv0 (a := 110) (m := 125) (by decide)) rfl] at hP
  rw [zx_uc (α := va_E) (a := 93) (b := 109) (by decide)] at hP
  rw [zx_uu (α := va_E) (a := 93)] at hP
  refine lv_iinc F.1 F.2.1 dd_Ledger_ctor_83 hl (k := 0) rfl (v := nI 6) (by decide) (by decide) (lv' := [(1, .int (nI 6)), (0, .ref (b0 + 89))]) rfl (fun ls hl => ?_)
  refine lv_goto F.1 F.2.1 dd_Ledger_ctor_86 (tgt := 64) rfl ?_
  refine lv_iload_n F.1 F.2.1 dd_Ledger_ctor_64 rfl (lv_at hl 0 rfl) ?_
  refine lv_bipush (v := nI 8) F.1 F.2.1 dd_Ledger_ctor_65 (by decide) ?_
  refine zn_cge F dd_Ledger_ctor_67 (tgt := 89) rfl (by decide) (by decide) (fun h => absurd h (by decide)) (fun h => ?_)
  refine lv_aload_n F.1 F.2.1 dd_Ledger_ctor_70 rfl (lv_at hl 1 rfl) ?_
  refine zw_gF (n := 128) (f := va_up (va_up (f) (93) (.inl (G.2 3, 8, .inr (.inr (.inr (.inr (zx_rf (b0 + (110)) 3 6))))))) (109) (.inl (G.2 4, 3, .inr (.inr (.inr (.inr (zx_rf (b0 + (134)) 14 0))))))) (x := 89) F hE hP (by decide) ((va_up_ne _ _ (by decide)).trans ((va_up_ne _ _ (by decide)).trans ((hf 89 (by decide) (by decide))))) rfl zi_Ledger 1 (by decide) rfl wf_Ledger_18 rfl dd_Ledger_ctor_71 ?_
  refine W.eq (g2 := F0 m 74 ls [.ref (b0 + 93)]) rfl ?_
  refine lv_iload_n F.1 F.2.1 dd_Ledger_ctor_74 rfl (lv_at hl 0 rfl) ?_
  refine zx_new (k := 128) (f := va_up (va_up (f) (93) (.inl (G.2 3, 8, .inr (.inr (.inr (.inr (zx_rf (b0 + (110)) 3 6))))))) (109) (.inl (G.2 4, 3, .inr (.inr (.inr (.inr (zx_rf (b0 + (134)) 14 0))))))) (fs := [.null, .null]) zy_Store F hE hP hz hS rfl zi_Store zj_Store wq_Ledger_9 wi_Store wj_Store zx_fs_Store (Nat.le_of_ble_eq_true rfl) (Nat.le_of_ble_eq_true rfl) dd_Ledger_ctor_75 (cells' := 39) (slots' := 2318) rfl rfl (fun H (hP : va_P G.1 zw_cl (zw_l b0 (129) (va_up (va_up (va_up (f) (93) (.inl (G.2 3, 8, .inr (.inr (.inr (.inr (zx_rf (b0 + (110)) 3 6))))))) (109) (.inl (G.2 4, 3, .inr (.inr (.inr (.inr (zx_rf (b0 + (134)) 14 0))))))) (128) (.inr (2, [.null, .null])))) H) (hz : H.size = b0 + (129)) hS => ?_)
  refine lv_dup F.1 F.2.1 dd_Ledger_ctor_78 rfl ?_
  refine zx_go (k := 128) (n := 3) (f := va_up (va_up (f) (93) (.inl (G.2 3, 8, .inr (.inr (.inr (.inr (zx_rf (b0 + (110)) 3 6))))))) (109) (.inl (G.2 4, 3, .inr (.inr (.inr (.inr (zx_rf (b0 + (134)) 14 0))))))) (zx_runN (k := 128) (f := va_up (va_up (f) (93) (.inl (G.2 3, 8, .inr (.inr (.inr (.inr (zx_rf (b0 + (110)) 3 6))))))) (109) (.inl (G.2 4, 3, .inr (.inr (.inr (.inr (zx_rf (b0 + (134)) 14 0))))))) F hE hO hP hz (zc_Store_ctor lc G b0 128 (va_up (va_up (f) (93) (.inl (G.2 3, 8, .inr (.inr (.inr (.inr (zx_rf (b0 + (110)) 3 6))))))) (109) (.inl (G.2 4, 3, .inr (.inr (.inr (.inr (zx_rf (b0 + (134)) 14 0))))))) ((va_up_ne _ _ (by decide)).trans ((va_up_ne _ _ (by decide)).trans ((hf 128 (by decide) (by decide))))) ((va_up_ne _ _ (by decide)).trans ((va_up_ne _ _ (by decide)).trans ((hf 129 (by decide) (by decide))))) ((va_up_ne _ _ (by decide)).trans ((va_up_ne _ _ (by decide)).trans ((hf 130 (by decide) (by decide)))))) zk_Store_ctor za_Store_ctor rfl wl_Ledger_11 ⟨rfl, rfl, Nat.le_of_ble_eq_true rfl, Nat.le_of_ble_eq_true rfl⟩ hl.1 rfl (Nat.le_of_ble_eq_true rfl) ⟨Nat.le_of_ble_eq_true rfl, Nat.le_of_ble_eq_true rfl⟩ dd_Ledger_ctor_79) hS (fun q h => Nat.le_trans (zx_leC (k := 89) (a := 128) (by decide)) h) (cells' := 41) (slots' := 2546) rfl rfl (fun H locs (hP : va_P G.1 zw_cl (zw_l b0 (131) (va_up (va_up (f) (93) (.inl (G.2 3, 8, .inr (.inr (.inr (.inr (zx_rf (b0 + (110)) 3 6))))))) (109) (.inl (G.2 4, 3, .inr (.inr (.inr (.inr (zx_rf (b0 + (134)) 14 0)))))))) H) (hz : H.size = b0 + (131)) _ hS => ?_)
  refine zx_ast (k := 131) (f := va_up (va_up (f) (93) (.inl (G.2 3, 8, .inr (.inr (.inr (.inr (zx_rf (b0 + (110)) 3 6))))))) (109) (.inl (G.2 4, 3, .inr (.inr (.inr (.inr (zx_rf (b0 + (134)) 14 0))))))) (x := 93) (y := 128) (z := 3) (j := 6) F hE hP hz hS (by decide) (zx_leC (k := 89) (a := 93) (by decide)) ((va_up_ne _ _ (by decide)).trans (va_up_self _ _ _)) rfl (by decide) ((va_up_ne _ _ (by decide)).trans ((va_up_ne _ _ (by decide)).trans ((hf 128 (by decide) (by decide))))) rfl (by decide) (by decide) rfl dd_Ledger_ctor_82 (fun H locs hP (hz : H.size = b0 + (131)) hS => ?_)
  rw [zx_rfs (n := 6) (n' := 7) (zx_rv0 (a := 110) (m := 128) (by decide)) rfl] at hP
  rw [zx_uc (α := va_E) (a := 93) (b := 109) (by decide)] at hP
  rw [zx_uu (α := va_E) (a := 93)] at hP
  refine lv_iinc F.1 F.2.1 dd_Ledger_ctor_83 hl (k := 0) rfl (v := nI 7) (by decide) (by decide) (lv' := [(1, .int (nI 7)), (0, .ref (b0 + 89))]) rfl (fun ls hl => ?_)
  refine lv_goto F.1 F.2.1 dd_Ledger_ctor_86 (tgt := 64) rfl ?_
  refine lv_iload_n F.1 F.2.1 dd_Ledger_ctor_64 rfl (lv_at hl 0 rfl) ?_
  refine lv_bipush (v := nI 8) F.1 F.2.1 dd_Ledger_ctor_65 (by decide) ?_
  refine zn_cge F dd_Ledger_ctor_67 (tgt := 89) rfl (by decide) (by decide) (fun h => absurd h (by decide)) (fun h => ?_)
  refine lv_aload_n F.1 F.2.1 dd_Ledger_ctor_70 rfl (lv_at hl 1 rfl) ?_
  refine zw_gF (n := 131) (f := va_up (va_up (f) (93) (.inl (G.2 3, 8, .inr (.inr (.inr (.inr (zx_rf (b0 + (110)) 3 7))))))) (109) (.inl (G.2 4, 3, .inr (.inr (.inr (.inr (zx_rf (b0 + (134)) 14 0))))))) (x := 89) F hE hP (by decide) ((va_up_ne _ _ (by decide)).trans ((va_up_ne _ _ (by decide)).trans ((hf 89 (by decide) (by decide))))) rfl zi_Ledger 1 (by decide) rfl wf_Ledger_18 rfl dd_Ledger_ctor_71 ?_
  refine W.eq (g2 := F0 m 74 ls [.ref (b0 + 93)]) rfl ?_
  refine lv_iload_n F.1 F.2.1 dd_Ledger_ctor_74 rfl (lv_at hl 0 rfl) ?_
  refine zx_new (k := 131) (f := va_up (va_up (f) (93) (.inl (G.2 3, 8, .inr (.inr (.inr (.inr (zx_rf (b0 + (110)) 3 7))))))) (109) (.inl (G.2 4, 3, .inr (.inr (.inr (.inr (zx_rf (b0 + (134)) 14 0))))))) (fs := [.null, .null]) zy_Store F hE hP hz hS rfl zi_Store zj_Store wq_Ledger_9 wi_Store wj_Store zx_fs_Store (Nat.le_of_ble_eq_true rfl) (Nat.le_of_ble_eq_true rfl) dd_Ledger_ctor_75 (cells' := 42) (slots' := 2548) rfl rfl (fun H (hP : va_P G.1 zw_cl (zw_l b0 (132) (va_up (va_up (va_up (f) (93) (.inl (G.2 3, 8, .inr (.inr (.inr (.inr (zx_rf (b0 + (110)) 3 7))))))) (109) (.inl (G.2 4, 3, .inr (.inr (.inr (.inr (zx_rf (b0 + (134)) 14 0))))))) (131) (.inr (2, [.null, .null])))) H) (hz : H.size = b0 + (132)) hS => ?_)
  refine lv_dup F.1 F.2.1 dd_Ledger_ctor_78 rfl ?_
  refine zx_go (k := 131) (n := 3) (f := va_up (va_up (f) (93) (.inl (G.2 3, 8, .inr (.inr (.inr (.inr (zx_rf (b0 + (110)) 3 7))))))) (109) (.inl (G.2 4, 3, .inr (.inr (.inr (.inr (zx_rf (b0 + (134)) 14 0))))))) (zx_runN (k := 131) (f := va_up (va_up (f) (93) (.inl (G.2 3, 8, .inr (.inr (.inr (.inr (zx_rf (b0 + (110)) 3 7))))))) (109) (.inl (G.2 4, 3, .inr (.inr (.inr (.inr (zx_rf (b0 + (134)) 14 0))))))) F hE hO hP hz (zc_Store_ctor lc G b0 131 (va_up (va_up (f) (93) (.inl (G.2 3, 8, .inr (.inr (.inr (.inr (zx_rf (b0 + (110)) 3 7))))))) (109) (.inl (G.2 4, 3, .inr (.inr (.inr (.inr (zx_rf (b0 + (134)) 14 0))))))) ((va_up_ne _ _ (by decide)).trans ((va_up_ne _ _ (by decide)).trans ((hf 131 (by decide) (by decide))))) ((va_up_ne _ _ (by decide)).trans ((va_up_ne _ _ (by decide)).trans ((hf 132 (by decide) (by decide))))) ((va_up_ne _ _ (by decide)).trans ((va_up_ne _ _ (by decide)).trans ((hf 133 (by decide) (by decide)))))) zk_Store_ctor za_Store_ctor rfl wl_Ledger_11 ⟨rfl, rfl, Nat.le_of_ble_eq_true rfl, Nat.le_of_ble_eq_true rfl⟩ hl.1 rfl (Nat.le_of_ble_eq_true rfl) ⟨Nat.le_of_ble_eq_true rfl, Nat.le_of_ble_eq_true rfl⟩ dd_Ledger_ctor_79) hS (fun q h => Nat.le_trans (zx_leC (k := 89) (a := 131) (by decide)) h) (cells' := 44) (slots' := 2776) rfl rfl (fun H locs (hP : va_P G.1 zw_cl (zw_l b0 (134) (va_up (va_up (f) (93) (.inl (G.2 3, 8, .inr (.inr (.inr (.inr (zx_rf (b0 + (110)) 3 7))))))) (109) (.inl (G.2 4, 3, .inr (.inr (.inr (.inr (zx_rf (b0 + (134)) 14 0)))))))) H) (hz : H.size = b0 + (134)) _ hS => ?_)
  refine zx_ast (k := 134) (f := va_up (va_up (f) (93) (.inl (G.2 3, 8, .inr (.inr (.inr (.inr (zx_rf (b0 + (110)) 3 7))))))) (109) (.inl (G.2 4, 3, .inr (.inr (.inr (.inr (zx_rf (b0 + (134)) 14 0))))))) (x := 93) (y := 131) (z := 3) (j := 7) F hE hP hz hS (by decide) (zx_leC (k := 89) (a := 93) (by decide)) ((va_up_ne _ _ (by decide)).trans (va_up_self _ _ _)) rfl (by decide) ((va_up_ne _ _ (by decide)).trans ((va_up_ne _ _ (by decide)).trans ((hf 131 (by decide) (by decide))))) rfl (by decide) (by decide) rfl dd_Ledger_ctor_82 (fun H locs hP (hz : H.size = b0 + (134)) hS => ?_)
  rw [zx_rfs (n := 7) (n' := 8) (zx_rv0 (a := 110) (m := 131) (by decide)) rfl] at hP
  rw [zx_uc (α := va_E) (a := 93) (b := 109) (by decide)] at hP
  rw [zx_uu (α := va_E) (a := 93)] at hP
  have hP := zx_refs (x := 93) (g' := fun k => some (b0 + zp_o 3 1 (k + 1))) hP ((va_up_ne _ _ (by decide)).trans (va_up_self _ _ _)) (fun j hj => by
      match j, hj with
      | 0, _ => rfl
      | 1, _ => rfl
      | 2, _ => rfl
      | 3, _ => rfl
      | 4, _ => rfl
      | 5, _ => rfl
      | 6, _ => rfl
      | 7, _ => rfl
      | q + 8, h => exact absurd h (Nat.not_lt.mpr (Nat.le_add_left _ q)))
  rw [zx_uc (α := va_E) (a := 93) (b := 109) (by decide)] at hP
  rw [zx_uu (α := va_E) (a := 93)] at hP
  rw [zx_id (α := va_E) (f := f) (a := 93) (e := .inl (G.2 3, 8, .inr (.inr (.inr (.inr (fun k => some (b0 + zp_o 3 1 (k + 1)))))))) ((hf 93 (by decide) (by decide)))] at hP
  refine lv_iinc F.1 F.2.1 dd_Ledger_ctor_83 hl (k := 0) rfl (v := nI 8) (by decide) (by decide) (lv' := [(1, .int (nI 8)), (0, .ref (b0 + 89))]) rfl (fun ls hl => ?_)
  refine lv_goto F.1 F.2.1 dd_Ledger_ctor_86 (tgt := 64) rfl ?_
  refine lv_iload_n F.1 F.2.1 dd_Ledger_ctor_64 rfl (lv_at hl 0 rfl) ?_
  refine lv_bipush (v := nI 8) F.1 F.2.1 dd_Ledger_ctor_65 (by decide) ?_
  refine zn_cge F dd_Ledger_ctor_67 (tgt := 89) rfl (by decide) (by decide) (fun h => ?_) (fun h => absurd h (by decide))
  refine lv_iconst (v := nI 0) F.1 F.2.1 dd_Ledger_ctor_89 (by decide) ?_
  refine lv_istore_n F.1 F.2.1 dd_Ledger_ctor_90 rfl hl (by decide) (lv' := [(1, .int (nI 0)), (0, .ref (b0 + 89))]) rfl (fun ls hl => ?_)
  refine lv_iload_n F.1 F.2.1 dd_Ledger_ctor_91 rfl (lv_at hl 0 rfl) ?_
  refine lv_iconst (v := nI 3) F.1 F.2.1 dd_Ledger_ctor_92 (by decide) ?_
  refine zn_cge F dd_Ledger_ctor_93 (tgt := 115) rfl (by decide) (by decide) (fun h => absurd h (by decide)) (fun h => ?_)
  refine lv_aload_n F.1 F.2.1 dd_Ledger_ctor_96 rfl (lv_at hl 1 rfl) ?_
  refine zw_gF (n := 134) (f := va_up (f) (109) (.inl (G.2 4, 3, .inr (.inr (.inr (.inr (zx_rf (b0 + (134)) 14 0))))))) (x := 89) F hE hP (by decide) ((va_up_ne _ _ (by decide)).trans ((hf 89 (by decide) (by decide)))) rfl zi_Ledger 5 (by decide) rfl wf_Ledger_42 rfl dd_Ledger_ctor_97 ?_
  refine W.eq (g2 := F0 m 100 ls [.ref (b0 + 109)]) rfl ?_
  refine lv_iload_n F.1 F.2.1 dd_Ledger_ctor_100 rfl (lv_at hl 0 rfl) ?_
  refine zx_new (k := 134) (f := va_up (f) (109) (.inl (G.2 4, 3, .inr (.inr (.inr (.inr (zx_rf (b0 + (134)) 14 0))))))) (fs := [.null, .int 0, .int 0]) zy_End F hE hP hz hS rfl zi_End zj_End wq_Ledger_40 wi_End wj_End zx_fs_End (Nat.le_of_ble_eq_true rfl) (Nat.le_of_ble_eq_true rfl) dd_Ledger_ctor_101 (cells' := 45) (slots' := 2779) rfl rfl (fun H (hP : va_P G.1 zw_cl (zw_l b0 (135) (va_up (va_up (f) (109) (.inl (G.2 4, 3, .inr (.inr (.inr (.inr (zx_rf (b0 + (134)) 14 0))))))) (134) (.inr (5, [.null, .int 0, .int 0])))) H) (hz : H.size = b0 + (135)) hS => ?_)
  refine lv_dup F.1 F.2.1 dd_Ledger_ctor_104 rfl ?_
  refine zx_go (k := 134) (n := 14) (f := va_up (f) (109) (.inl (G.2 4, 3, .inr (.inr (.inr (.inr (zx_rf (b0 + (134)) 14 0))))))) (zx_run (k := 134) (f := va_up (f) (109) (.inl (G.2 4, 3, .inr (.inr (.inr (.inr (zx_rf (b0 + (134)) 14 0))))))) F hE hO hP hz (zc_End_ctor lc G b0 134 (fun k => some (b0 + zp_o 20 1 (12 * 0 + k))) (va_up (f) (109) (.inl (G.2 4, 3, .inr (.inr (.inr (.inr (zx_rf (b0 + (134)) 14 0))))))) ((va_up_ne _ _ (by decide)).trans ((hf 134 (by decide) (by decide)))) ((va_up_ne _ _ (by decide)).trans ((hf 135 (by decide) (by decide)))) (fun j hj => by
      match j, hj with
      | 0, _ => exact ((va_up_ne _ _ (by decide)).trans ((hf 136 (by decide) (by decide))))
      | 1, _ => exact ((va_up_ne _ _ (by decide)).trans ((hf 137 (by decide) (by decide))))
      | 2, _ => exact ((va_up_ne _ _ (by decide)).trans ((hf 138 (by decide) (by decide))))
      | 3, _ => exact ((va_up_ne _ _ (by decide)).trans ((hf 139 (by decide) (by decide))))
      | 4, _ => exact ((va_up_ne _ _ (by decide)).trans ((hf 140 (by decide) (by decide))))
      | 5, _ => exact ((va_up_ne _ _ (by decide)).trans ((hf 141 (by decide) (by decide))))
      | 6, _ => exact ((va_up_ne _ _ (by decide)).trans ((hf 142 (by decide) (by decide))))
      | 7, _ => exact ((va_up_ne _ _ (by decide)).trans ((hf 143 (by decide) (by decide))))
      | 8, _ => exact ((va_up_ne _ _ (by decide)).trans ((hf 144 (by decide) (by decide))))
      | 9, _ => exact ((va_up_ne _ _ (by decide)).trans ((hf 145 (by decide) (by decide))))
      | 10, _ => exact ((va_up_ne _ _ (by decide)).trans ((hf 146 (by decide) (by decide))))
      | 11, _ => exact ((va_up_ne _ _ (by decide)).trans ((hf 147 (by decide) (by decide))))
      | q + 12, h => exact absurd h (Nat.not_lt.mpr (Nat.le_add_left _ q))) (fun j hj => by
      match j, hj with
      | 0, _ => rfl
      | 1, _ => rfl
      | 2, _ => rfl
      | 3, _ => rfl
      | 4, _ => rfl
      | 5, _ => rfl
      | 6, _ => rfl
      | 7, _ => rfl
      | 8, _ => rfl
      | 9, _ => rfl
      | 10, _ => rfl
      | 11, _ => rfl
      | q + 12, h => exact absurd h (Nat.not_lt.mpr (Nat.le_add_left _ q)))) zk_End_ctor za_End_ctor rfl wl_Ledger_46 ⟨rfl, rfl, Nat.le_of_ble_eq_true rfl, Nat.le_of_ble_eq_true rfl⟩ hl.1 rfl (Nat.le_of_ble_eq_true rfl) ⟨Nat.le_of_ble_eq_true rfl, Nat.le_of_ble_eq_true rfl⟩ dd_Ledger_ctor_105) hS (fun q h => Nat.le_trans (zx_leC (k := 89) (a := 134) (by decide)) h) (cells' := 58) (slots' := 2875) rfl rfl (fun H locs (hP : va_P G.1 zw_cl (zw_l b0 (148) (va_up (f) (109) (.inl (G.2 4, 3, .inr (.inr (.inr (.inr (zx_rf (b0 + (134)) 14 0)))))))) H) (hz : H.size = b0 + (148)) _ hS => ?_)
  refine zx_ast (k := 148) (f := va_up (f) (109) (.inl (G.2 4, 3, .inr (.inr (.inr (.inr (zx_rf (b0 + (134)) 14 0))))))) (x := 109) (y := 134) (z := 4) (j := 0) F hE hP hz hS (by decide) (zx_leC (k := 89) (a := 109) (by decide)) (va_up_self _ _ _) rfl (by decide) ((va_up_ne _ _ (by decide)).trans ((hf 134 (by decide) (by decide)))) rfl (by decide) (by decide) rfl dd_Ledger_ctor_108 (fun H locs hP (hz : H.size = b0 + (148)) hS => ?_)
  rw [zx_rfs (n := 0) (n' := 1) (zx_rv0 (a := 134) (m := 134) (by decide)) rfl] at hP
  rw [zx_uu (α := va_E) (a := 109)] at hP
  refine lv_iinc F.1 F.2.1 dd_Ledger_ctor_109 hl (k := 0) rfl (v := nI 1) (by decide) (by decide) (lv' := [(1, .int (nI 1)), (0, .ref (b0 + 89))]) rfl (fun ls hl => ?_)
  refine lv_goto F.1 F.2.1 dd_Ledger_ctor_112 (tgt := 91) rfl ?_
  refine lv_iload_n F.1 F.2.1 dd_Ledger_ctor_91 rfl (lv_at hl 0 rfl) ?_
  refine lv_iconst (v := nI 3) F.1 F.2.1 dd_Ledger_ctor_92 (by decide) ?_
  refine zn_cge F dd_Ledger_ctor_93 (tgt := 115) rfl (by decide) (by decide) (fun h => absurd h (by decide)) (fun h => ?_)
  refine lv_aload_n F.1 F.2.1 dd_Ledger_ctor_96 rfl (lv_at hl 1 rfl) ?_
  refine zw_gF (n := 148) (f := va_up (f) (109) (.inl (G.2 4, 3, .inr (.inr (.inr (.inr (zx_rf (b0 + (134)) 14 1))))))) (x := 89) F hE hP (by decide) ((va_up_ne _ _ (by decide)).trans ((hf 89 (by decide) (by decide)))) rfl zi_Ledger 5 (by decide) rfl wf_Ledger_42 rfl dd_Ledger_ctor_97 ?_
  refine W.eq (g2 := F0 m 100 ls [.ref (b0 + 109)]) rfl ?_
  refine lv_iload_n F.1 F.2.1 dd_Ledger_ctor_100 rfl (lv_at hl 0 rfl) ?_
  refine zx_new (k := 148) (f := va_up (f) (109) (.inl (G.2 4, 3, .inr (.inr (.inr (.inr (zx_rf (b0 + (134)) 14 1))))))) (fs := [.null, .int 0, .int 0]) zy_End F hE hP hz hS rfl zi_End zj_End wq_Ledger_40 wi_End wj_End zx_fs_End (Nat.le_of_ble_eq_true rfl) (Nat.le_of_ble_eq_true rfl) dd_Ledger_ctor_101 (cells' := 59) (slots' := 2878) rfl rfl (fun H (hP : va_P G.1 zw_cl (zw_l b0 (149) (va_up (va_up (f) (109) (.inl (G.2 4, 3, .inr (.inr (.inr (.inr (zx_rf (b0 + (134)) 14 1))))))) (148) (.inr (5, [.null, .int 0, .int 0])))) H) (hz : H.size = b0 + (149)) hS => ?_)
  refine lv_dup F.1 F.2.1 dd_Ledger_ctor_104 rfl ?_
  refine zx_go (k := 148) (n := 14) (f := va_up (f) (109) (.inl (G.2 4, 3, .inr (.inr (.inr (.inr (zx_rf (b0 + (134)) 14 1))))))) (zx_run (k := 148) (f := va_up (f) (109) (.inl (G.2 4, 3, .inr (.inr (.inr (.inr (zx_rf (b0 + (134)) 14 1))))))) F hE hO hP hz (zc_End_ctor lc G b0 148 (fun k => some (b0 + zp_o 20 1 (12 * 1 + k))) (va_up (f) (109) (.inl (G.2 4, 3, .inr (.inr (.inr (.inr (zx_rf (b0 + (134)) 14 1))))))) ((va_up_ne _ _ (by decide)).trans ((hf 148 (by decide) (by decide)))) ((va_up_ne _ _ (by decide)).trans ((hf 149 (by decide) (by decide)))) (fun j hj => by
      match j, hj with
      | 0, _ => exact ((va_up_ne _ _ (by decide)).trans ((hf 150 (by decide) (by decide))))
      | 1, _ => exact ((va_up_ne _ _ (by decide)).trans ((hf 151 (by decide) (by decide))))
      | 2, _ => exact ((va_up_ne _ _ (by decide)).trans ((hf 152 (by decide) (by decide))))
      | 3, _ => exact ((va_up_ne _ _ (by decide)).trans ((hf 153 (by decide) (by decide))))
      | 4, _ => exact ((va_up_ne _ _ (by decide)).trans ((hf 154 (by decide) (by decide))))
      | 5, _ => exact ((va_up_ne _ _ (by decide)).trans ((hf 155 (by decide) (by decide))))
      | 6, _ => exact ((va_up_ne _ _ (by decide)).trans ((hf 156 (by decide) (by decide))))
      | 7, _ => exact ((va_up_ne _ _ (by decide)).trans ((hf 157 (by decide) (by decide))))
      | 8, _ => exact ((va_up_ne _ _ (by decide)).trans ((hf 158 (by decide) (by decide))))
      | 9, _ => exact ((va_up_ne _ _ (by decide)).trans ((hf 159 (by decide) (by decide))))
      | 10, _ => exact ((va_up_ne _ _ (by decide)).trans ((hf 160 (by decide) (by decide))))
      | 11, _ => exact ((va_up_ne _ _ (by decide)).trans ((hf 161 (by decide) (by decide))))
      | q + 12, h => exact absurd h (Nat.not_lt.mpr (Nat.le_add_left _ q))) (fun j hj => by
      match j, hj with
      | 0, _ => rfl
      | 1, _ => rfl
      | 2, _ => rfl
      | 3, _ => rfl
      | 4, _ => rfl
      | 5, _ => rfl
      | 6, _ => rfl
      | 7, _ => rfl
      | 8, _ => rfl
      | 9, _ => rfl
      | 10, _ => rfl
      | 11, _ => rfl
      | q + 12, h => exact absurd h (Nat.not_lt.mpr (Nat.le_add_left _ q)))) zk_End_ctor za_End_ctor rfl wl_Ledger_46 ⟨rfl, rfl, Nat.le_of_ble_eq_true rfl, Nat.le_of_ble_eq_true rfl⟩ hl.1 rfl (Nat.le_of_ble_eq_true rfl) ⟨Nat.le_of_ble_eq_true rfl, Nat.le_of_ble_eq_true rfl⟩ dd_Ledger_ctor_105) hS (fun q h => Nat.le_trans (zx_leC (k := 89) (a := 148) (by decide)) h) (cells' := 72) (slots' := 2974) rfl rfl (fun H locs (hP : va_P G.1 zw_cl (zw_l b0 (162) (va_up (f) (109) (.inl (G.2 4, 3, .inr (.inr (.inr (.inr (zx_rf (b0 + (134)) 14 1)))))))) H) (hz : H.size = b0 + (162)) _ hS => ?_)
  refine zx_ast (k := 162) (f := va_up (f) (109) (.inl (G.2 4, 3, .inr (.inr (.inr (.inr (zx_rf (b0 + (134)) 14 1))))))) (x := 109) (y := 148) (z := 4) (j := 1) F hE hP hz hS (by decide) (zx_leC (k := 89) (a := 109) (by decide)) (va_up_self _ _ _) rfl (by decide) ((va_up_ne _ _ (by decide)).trans ((hf 148 (by decide) (by decide)))) rfl (by decide) (by decide) rfl dd_Ledger_ctor_108 (fun H locs hP (hz : H.size = b0 + (162)) hS => ?_)
  rw [zx_rfs (n := 1) (n' := 2) (zx_rv0 (a := 134) (m := 148) (by decide)) rfl] at hP
  rw [zx_uu (α := va_E) (a := 109)] at hP
  refine lv_iinc F.1 F.2.1 dd_Ledger_ctor_109 hl (k := 0) rfl (v := nI 2) (by decide) (by decide) (lv' := [(1, .int (nI 2)), (0, .ref (b0 + 89))]) rfl (fun ls hl => ?_)
  refine lv_goto F.1 F.2.1 dd_Ledger_ctor_112 (tgt := 91) rfl ?_
  refine lv_iload_n F.1 F.2.1 dd_Ledger_ctor_91 rfl (lv_at hl 0 rfl) ?_
  refine lv_iconst (v := nI 3) F.1 F.2.1 dd_Ledger_ctor_92 (by decide) ?_
  refine zn_cge F dd_Ledger_ctor_93 (tgt := 115) rfl (by decide) (by decide) (fun h => absurd h (by decide)) (fun h => ?_)
  refine lv_aload_n F.1 F.2.1 dd_Ledger_ctor_96 rfl (lv_at hl 1 rfl) ?_
  refine zw_gF (n := 162) (f := va_up (f) (109) (.inl (G.2 4, 3, .inr (.inr (.inr (.inr (zx_rf (b0 + (134)) 14 2))))))) (x := 89) F hE hP (by decide) ((va_up_ne _ _ (by decide)).trans ((hf 89 (by decide) (by decide)))) rfl zi_Ledger 5 (by decide) rfl wf_Ledger_42 rfl dd_Ledger_ctor_97 ?_
  refine W.eq (g2 := F0 m 100 ls [.ref (b0 + 109)]) rfl ?_
  refine lv_iload_n F.1 F.2.1 dd_Ledger_ctor_100 rfl (lv_at hl 0 rfl) ?_
  refine zx_new (k := 162) (f := va_up (f) (109) (.inl (G.2 4, 3, .inr (.inr (.inr (.inr (zx_rf (b0 + (134)) 14 2))))))) (fs := [.null, .int 0, .int 0]) zy_End F hE hP hz hS rfl zi_End zj_End wq_Ledger_40 wi_End wj_End zx_fs_End (Nat.le_of_ble_eq_true rfl) (Nat.le_of_ble_eq_true rfl) dd_Ledger_ctor_101 (cells' := 73) (slots' := 2977) rfl rfl (fun H (hP : va_P G.1 zw_cl (zw_l b0 (163) (va_up (va_up (f) (109) (.inl (G.2 4, 3, .inr (.inr (.inr (.inr (zx_rf (b0 + (134)) 14 2))))))) (162) (.inr (5, [.null, .int 0, .int 0])))) H) (hz : H.size = b0 + (163)) hS => ?_)
  refine lv_dup F.1 F.2.1 dd_Ledger_ctor_104 rfl ?_
  refine zx_go (k := 162) (n := 14) (f := va_up (f) (109) (.inl (G.2 4, 3, .inr (.inr (.inr (.inr (zx_rf (b0 + (134)) 14 2))))))) (zx_run (k := 162) (f := va_up (f) (109) (.inl (G.2 4, 3, .inr (.inr (.inr (.inr (zx_rf (b0 + (134)) 14 2))))))) F hE hO hP hz (zc_End_ctor lc G b0 162 (fun k => some (b0 + zp_o 20 1 (12 * 2 + k))) (va_up (f) (109) (.inl (G.2 4, 3, .inr (.inr (.inr (.inr (zx_rf (b0 + (134)) 14 2))))))) ((va_up_ne _ _ (by decide)).trans ((hf 162 (by decide) (by decide)))) ((va_up_ne _ _ (by decide)).trans ((hf 163 (by decide) (by decide)))) (fun j hj => by
      match j, hj with
      | 0, _ => exact ((va_up_ne _ _ (by decide)).trans ((hf 164 (by decide) (by decide))))
      | 1, _ => exact ((va_up_ne _ _ (by decide)).trans ((hf 165 (by decide) (by decide))))
      | 2, _ => exact ((va_up_ne _ _ (by decide)).trans ((hf 166 (by decide) (by decide))))
      | 3, _ => exact ((va_up_ne _ _ (by decide)).trans ((hf 167 (by decide) (by decide))))
      | 4, _ => exact ((va_up_ne _ _ (by decide)).trans ((hf 168 (by decide) (by decide))))
      | 5, _ => exact ((va_up_ne _ _ (by decide)).trans ((hf 169 (by decide) (by decide))))
      | 6, _ => exact ((va_up_ne _ _ (by decide)).trans ((hf 170 (by decide) (by decide))))
      | 7, _ => exact ((va_up_ne _ _ (by decide)).trans ((hf 171 (by decide) (by decide))))
      | 8, _ => exact ((va_up_ne _ _ (by decide)).trans ((hf 172 (by decide) (by decide))))
      | 9, _ => exact ((va_up_ne _ _ (by decide)).trans ((hf 173 (by decide) (by decide))))
      | 10, _ => exact ((va_up_ne _ _ (by decide)).trans ((hf 174 (by decide) (by decide))))
      | 11, _ => exact ((va_up_ne _ _ (by decide)).trans ((hf 175 (by decide) (by decide))))
      | q + 12, h => exact absurd h (Nat.not_lt.mpr (Nat.le_add_left _ q))) (fun j hj => by
      match j, hj with
      | 0, _ => rfl
      | 1, _ => rfl
      | 2, _ => rfl
      | 3, _ => rfl
      | 4, _ => rfl
      | 5, _ => rfl
      | 6, _ => rfl
      | 7, _ => rfl
      | 8, _ => rfl
      | 9, _ => rfl
      | 10, _ => rfl
      | 11, _ => rfl
      | q + 12, h => exact absurd h (Nat.not_lt.mpr (Nat.le_add_left _ q)))) zk_End_ctor za_End_ctor rfl wl_Ledger_46 ⟨rfl, rfl, Nat.le_of_ble_eq_true rfl, Nat.le_of_ble_eq_true rfl⟩ hl.1 rfl (Nat.le_of_ble_eq_true rfl) ⟨Nat.le_of_ble_eq_true rfl, Nat.le_of_ble_eq_true rfl⟩ dd_Ledger_ctor_105) hS (fun q h => Nat.le_trans (zx_leC (k := 89) (a := 162) (by decide)) h) (cells' := 86) (slots' := 3073) rfl rfl (fun H locs (hP : va_P G.1 zw_cl (zw_l b0 (176) (va_up (f) (109) (.inl (G.2 4, 3, .inr (.inr (.inr (.inr (zx_rf (b0 + (134)) 14 2)))))))) H) (hz : H.size = b0 + (176)) _ hS => ?_)
  refine zx_ast (k := 176) (f := va_up (f) (109) (.inl (G.2 4, 3, .inr (.inr (.inr (.inr (zx_rf (b0 + (134)) 14 2))))))) (x := 109) (y := 162) (z := 4) (j := 2) F hE hP hz hS (by decide) (zx_leC (k := 89) (a := 109) (by decide)) (va_up_self _ _ _) rfl (by decide) ((va_up_ne _ _ (by decide)).trans ((hf 162 (by decide) (by decide)))) rfl (by decide) (by decide) rfl dd_Ledger_ctor_108 (fun H locs hP (hz : H.size = b0 + (176)) hS => ?_)
  rw [zx_rfs (n := 2) (n' := 3) (zx_rv0 (a := 134) (m := 162) (by decide)) rfl] at hP
  rw [zx_uu (α := va_E) (a := 109)] at hP
  have hP := zx_refs (x := 109) (g' := fun k => some (b0 + zp_o 18 1 k)) hP (va_up_self _ _ _) (fun j hj => by
      match j, hj with
      | 0, _ => rfl
      | 1, _ => rfl
      | 2, _ => rfl
      | q + 3, h => exact absurd h (Nat.not_lt.mpr (Nat.le_add_left _ q)))
  rw [zx_uu (α := va_E) (a := 109)] at hP
  rw [zx_id (α := va_E) (f := f) (a := 109) (e := .inl (G.2 4, 3, .inr (.inr (.inr (.inr (fun k => some (b0 + zp_o 18 1 k))))))) ((hf 109 (by decide) (by decide)))] at hP
  refine lv_iinc F.1 F.2.1 dd_Ledger_ctor_109 hl (k := 0) rfl (v := nI 3) (by decide) (by decide) (lv' := [(1, .int (nI 3)), (0, .ref (b0 + 89))]) rfl (fun ls hl => ?_)
  refine lv_goto F.1 F.2.1 dd_Ledger_ctor_112 (tgt := 91) rfl ?_
  refine lv_iload_n F.1 F.2.1 dd_Ledger_ctor_91 rfl (lv_at hl 0 rfl) ?_
  refine lv_iconst (v := nI 3) F.1 F.2.1 dd_Ledger_ctor_92 (by decide) ?_
  refine zn_cge F dd_Ledger_ctor_93 (tgt := 115) rfl (by decide) (by decide) (fun h => ?_) (fun h => absurd h (by decide))
  exact zx_vret (k := 89) (n := 87) F hr hlk hP hz hS rfl (fun _ _ => rfl) dd_Ledger_ctor_115
