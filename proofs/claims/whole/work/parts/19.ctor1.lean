set_option maxHeartbeats 4000000 in
set_option maxRecDepth 100000 in
theorem zc_Ledger_ctor0 (lc : Launch) (G : zw_G) (b0 : Nat) (x0 : Int32) (f : Nat → va_E) (hf : ∀ x, 2 ≤ x → x < 89 → f x = zp_p G b0 (zs_0 x0) x) : zx_M lc ym_Ledger_ctor bm_Ledger_ctor 2 { frames := 3, cells := 86, slots := 3073, locals := 65 } G b0 (2) 87 (.inr (1, [.null, .null, .null, .null, .null, .null, .int 0])) f [.ref (b0 + 2)] 86 3073 := by
  refine zx_of (by decide) (Nat.le_of_ble_eq_true rfl) rfl ?_
  intro p e s m below meth cx ls F hr hlk hin2 hE hO hP hz hS hl
  have zsz : b0 + (2) ≤ s.heap.size := by rw [hz]; exact (zx_leC (k := 2) (a := 3) (by decide))
  have hl : lv_has ls 2 [(0, .ref (b0 + 2))] := hl
  refine lv_aload_n F.1 F.2.1 dd_Ledger_ctor_0 rfl (lv_at hl 0 rfl) ?_
  refine W.objInit F.1 F.2.1 F.2.2.2.1 (F.2.2.2.2 _ wl_Ledger_3) (F.2.2.2.2 _ wx_objI) (F.2.2.2.2 _ wx_objC) rfl (by rw [F.2.2.1]; exact hl.1) rfl dd_Ledger_ctor_1 (Nat.le_of_ble_eq_true rfl) (Nat.le_of_ble_eq_true rfl) ?_
  refine W.eq (g2 := F0 m 4 ls []) rfl ?_
  refine lv_aload_n F.1 F.2.1 dd_Ledger_ctor_4 rfl (lv_at hl 0 rfl) ?_
  refine zx_new (k := 3) (f := va_up (f) (2) (.inr (1, [.null, .null, .null, .null, .null, .null, .int 0]))) (fs := [.null, .null]) zy_Store F hE hP hz hS rfl zi_Store zj_Store wq_Ledger_9 wi_Store wj_Store zx_fs_Store (Nat.le_of_ble_eq_true rfl) (Nat.le_of_ble_eq_true rfl) dd_Ledger_ctor_5 (cells' := 1) (slots' := 2) rfl rfl (fun H (hP : va_P G.1 zw_cl (zw_l b0 (4) (va_up (va_up (f) (2) (.inr (1, [.null, .null, .null, .null, .null, .null, .int 0]))) (3) (.inr (2, [.null, .null])))) H) (hz : H.size = b0 + (4)) hS => ?_)
  refine lv_dup F.1 F.2.1 dd_Ledger_ctor_8 rfl ?_
  refine zx_go (k := 3) (n := 3) (f := va_up (f) (2) (.inr (1, [.null, .null, .null, .null, .null, .null, .int 0]))) (zx_runN (k := 3) (f := va_up (f) (2) (.inr (1, [.null, .null, .null, .null, .null, .null, .int 0]))) F hE hO hP hz (zc_Store_ctor lc G b0 3 (va_up (f) (2) (.inr (1, [.null, .null, .null, .null, .null, .null, .int 0]))) ((va_up_ne _ _ (by decide)).trans ((hf 3 (by decide) (by decide)))) ((va_up_ne _ _ (by decide)).trans ((hf 4 (by decide) (by decide)))) ((va_up_ne _ _ (by decide)).trans ((hf 5 (by decide) (by decide))))) zk_Store_ctor za_Store_ctor rfl wl_Ledger_11 ⟨rfl, rfl, Nat.le_of_ble_eq_true rfl, Nat.le_of_ble_eq_true rfl⟩ hl.1 rfl (Nat.le_of_ble_eq_true rfl) ⟨Nat.le_of_ble_eq_true rfl, Nat.le_of_ble_eq_true rfl⟩ dd_Ledger_ctor_9) hS (fun q h => Nat.le_trans (zx_leC (k := 2) (a := 3) (by decide)) h) (cells' := 3) (slots' := 230) rfl rfl (fun H locs (hP : va_P G.1 zw_cl (zw_l b0 (6) (va_up (f) (2) (.inr (1, [.null, .null, .null, .null, .null, .null, .int 0])))) H) (hz : H.size = b0 + (6)) _ hS => ?_)
  refine zx_pF (ty := .object "TwinLedgers$Store") (k := 6) (f := va_up (f) (2) (.inr (1, [.null, .null, .null, .null, .null, .null, .int 0]))) (x := 2) F hE hP hz hS (fun q _ h => Or.elim h (fun z => Nat.le_trans zsz z) id) (by decide) (zx_leC (k := 2) (a := 2) (by decide)) (va_up_self _ _ _) rfl zi_Ledger zy_Ledger zj_Ledger zl_Ledger 0 (by decide) rfl rfl hin2 rfl wf_Ledger_12 (by decide +kernel) rfl rfl (Nat.le_of_ble_eq_true rfl) dd_Ledger_ctor_12 (fun H locs hP (hz : H.size = b0 + (6)) hS => ?_)
  have hP : va_P G.1 zw_cl (zw_l b0 (6) (va_up (va_up (f) (2) (.inr (1, [.null, .null, .null, .null, .null, .null, .int 0]))) (2) (.inr (1, [.ref (b0 + 3), .null, .null, .null, .null, .null, .int 0])))) H := hP
  rw [zx_uu (α := va_E) (a := 2)] at hP
  refine W.eq (g2 := F0 m 15 ls []) rfl ?_
  refine lv_aload_n F.1 F.2.1 dd_Ledger_ctor_15 rfl (lv_at hl 0 rfl) ?_
  refine lv_bipush (v := nI 8) F.1 F.2.1 dd_Ledger_ctor_16 (by decide) ?_
  refine zx_newq (k := 6) (f := va_up (f) (2) (.inr (1, [.ref (b0 + 3), .null, .null, .null, .null, .null, .int 0]))) (C := "TwinLedgers$Store") (z := 3) F hE hP hz hS wq_Ledger_9 hO.2.1 rfl (by decide) (N := 8) (by decide) (by decide) (Nat.le_of_ble_eq_true rfl) (Nat.le_of_ble_eq_true rfl) dd_Ledger_ctor_18 (cells' := 4) (slots' := 238) rfl rfl (fun H (hP : va_P G.1 zw_cl (zw_l b0 (7) (va_up (va_up (f) (2) (.inr (1, [.ref (b0 + 3), .null, .null, .null, .null, .null, .int 0]))) (6) (.inl (G.2 3, 8, .inr (.inr (.inr (.inr (fun _ => none)))))))) H) (hz : H.size = b0 + (7)) hS => ?_)
  rw [zx_rf0 (b0 + (23)) 3] at hP
  refine zx_pF (ty := .array (.object "TwinLedgers$Store")) (k := 7) (f := va_up (va_up (f) (2) (.inr (1, [.ref (b0 + 3), .null, .null, .null, .null, .null, .int 0]))) (6) (.inl (G.2 3, 8, .inr (.inr (.inr (.inr (zx_rf (b0 + (23)) 3 0))))))) (x := 2) F hE hP hz hS (fun q _ h => Or.elim h (fun z => Nat.le_trans zsz z) id) (by decide) (zx_leC (k := 2) (a := 2) (by decide)) ((va_up_ne _ _ (by decide)).trans (va_up_self _ _ _)) rfl zi_Ledger zy_Ledger zj_Ledger zl_Ledger 1 (by decide) rfl rfl hin2 rfl wf_Ledger_18 (by decide +kernel) rfl rfl (Nat.le_of_ble_eq_true rfl) dd_Ledger_ctor_21 (fun H locs hP (hz : H.size = b0 + (7)) hS => ?_)
  have hP : va_P G.1 zw_cl (zw_l b0 (7) (va_up (va_up (va_up (f) (2) (.inr (1, [.ref (b0 + 3), .null, .null, .null, .null, .null, .int 0]))) (6) (.inl (G.2 3, 8, .inr (.inr (.inr (.inr (zx_rf (b0 + (23)) 3 0))))))) (2) (.inr (1, [.ref (b0 + 3), .ref (b0 + 6), .null, .null, .null, .null, .int 0])))) H := hP
  rw [zx_uc (α := va_E) (a := 2) (b := 6) (by decide)] at hP
  rw [zx_uu (α := va_E) (a := 2)] at hP
  refine W.eq (g2 := F0 m 24 ls []) rfl ?_
  refine lv_aload_n F.1 F.2.1 dd_Ledger_ctor_24 rfl (lv_at hl 0 rfl) ?_
  refine lv_bipush (v := nI 114) F.1 F.2.1 dd_Ledger_ctor_25 (by decide) ?_
  refine zx_newi (k := 7) (f := va_up (va_up (f) (2) (.inr (1, [.ref (b0 + 3), .ref (b0 + 6), .null, .null, .null, .null, .int 0]))) (6) (.inl (G.2 3, 8, .inr (.inr (.inr (.inr (zx_rf (b0 + (23)) 3 0))))))) F hE hP hz hS wx_arrI (by decide) (N := 114) (by decide) (by decide) (Nat.le_of_ble_eq_true rfl) (Nat.le_of_ble_eq_true rfl) dd_Ledger_ctor_27 (cells' := 5) (slots' := 352) rfl rfl (fun H (hP : va_P G.1 zw_cl (zw_l b0 (8) (va_up (va_up (va_up (f) (2) (.inr (1, [.ref (b0 + 3), .ref (b0 + 6), .null, .null, .null, .null, .int 0]))) (6) (.inl (G.2 3, 8, .inr (.inr (.inr (.inr (zx_rf (b0 + (23)) 3 0))))))) (7) (.inl (G.2 0, 114, .inl (fun _ => 0))))) H) (hz : H.size = b0 + (8)) hS => ?_)
  rw [zx_id (α := va_E) (f := va_up (va_up (f) (2) (.inr (1, [.ref (b0 + 3), .ref (b0 + 6), .null, .null, .null, .null, .int 0]))) (6) (.inl (G.2 3, 8, .inr (.inr (.inr (.inr (zx_rf (b0 + (23)) 3 0))))))) (a := 7) (e := .inl (G.2 0, 114, .inl (fun _ => 0))) ((va_up_ne _ _ (by decide)).trans ((va_up_ne _ _ (by decide)).trans ((hf 7 (by decide) (by decide)))))] at hP
  refine zx_pF (ty := .array .int) (k := 8) (f := va_up (va_up (f) (2) (.inr (1, [.ref (b0 + 3), .ref (b0 + 6), .null, .null, .null, .null, .int 0]))) (6) (.inl (G.2 3, 8, .inr (.inr (.inr (.inr (zx_rf (b0 + (23)) 3 0))))))) (x := 2) F hE hP hz hS (fun q _ h => Or.elim h (fun z => Nat.le_trans zsz z) id) (by decide) (zx_leC (k := 2) (a := 2) (by decide)) ((va_up_ne _ _ (by decide)).trans (va_up_self _ _ _)) rfl zi_Ledger zy_Ledger zj_Ledger zl_Ledger 2 (by decide) rfl rfl hin2 rfl wf_Ledger_22 (by decide +kernel) rfl rfl (Nat.le_of_ble_eq_true rfl) dd_Ledger_ctor_29 (fun H locs hP (hz : H.size = b0 + (8)) hS => ?_)
  have hP : va_P G.1 zw_cl (zw_l b0 (8) (va_up (va_up (va_up (f) (2) (.inr (1, [.ref (b0 + 3), .ref (b0 + 6), .null, .null, .null, .null, .int 0]))) (6) (.inl (G.2 3, 8, .inr (.inr (.inr (.inr (zx_rf (b0 + (23)) 3 0))))))) (2) (.inr (1, [.ref (b0 + 3), .ref (b0 + 6), .ref (b0 + 7), .null, .null, .null, .int 0])))) H := hP
  rw [zx_uc (α := va_E) (a := 2) (b := 6) (by decide)] at hP
  rw [zx_uu (α := va_E) (a := 2)] at hP
  refine W.eq (g2 := F0 m 32 ls []) rfl ?_
  refine lv_aload_n F.1 F.2.1 dd_Ledger_ctor_32 rfl (lv_at hl 0 rfl) ?_
  refine zx_new (k := 8) (f := va_up (va_up (f) (2) (.inr (1, [.ref (b0 + 3), .ref (b0 + 6), .ref (b0 + 7), .null, .null, .null, .int 0]))) (6) (.inl (G.2 3, 8, .inr (.inr (.inr (.inr (zx_rf (b0 + (23)) 3 0))))))) (fs := [.null, .int 0]) zy_Client F hE hP hz hS rfl zi_Client zj_Client wq_Ledger_26 wi_Client wj_Client zx_fs_Client (Nat.le_of_ble_eq_true rfl) (Nat.le_of_ble_eq_true rfl) dd_Ledger_ctor_33 (cells' := 6) (slots' := 354) rfl rfl (fun H (hP : va_P G.1 zw_cl (zw_l b0 (9) (va_up (va_up (va_up (f) (2) (.inr (1, [.ref (b0 + 3), .ref (b0 + 6), .ref (b0 + 7), .null, .null, .null, .int 0]))) (6) (.inl (G.2 3, 8, .inr (.inr (.inr (.inr (zx_rf (b0 + (23)) 3 0))))))) (8) (.inr (3, [.null, .int 0])))) H) (hz : H.size = b0 + (9)) hS => ?_)
  refine lv_dup F.1 F.2.1 dd_Ledger_ctor_36 rfl ?_
  refine zx_go (k := 8) (n := 2) (f := va_up (va_up (f) (2) (.inr (1, [.ref (b0 + 3), .ref (b0 + 6), .ref (b0 + 7), .null, .null, .null, .int 0]))) (6) (.inl (G.2 3, 8, .inr (.inr (.inr (.inr (zx_rf (b0 + (23)) 3 0))))))) (zx_runN (k := 8) (f := va_up (va_up (f) (2) (.inr (1, [.ref (b0 + 3), .ref (b0 + 6), .ref (b0 + 7), .null, .null, .null, .int 0]))) (6) (.inl (G.2 3, 8, .inr (.inr (.inr (.inr (zx_rf (b0 + (23)) 3 0))))))) F hE hO hP hz (zc_Client_ctor lc G b0 8 (va_up (va_up (f) (2) (.inr (1, [.ref (b0 + 3), .ref (b0 + 6), .ref (b0 + 7), .null, .null, .null, .int 0]))) (6) (.inl (G.2 3, 8, .inr (.inr (.inr (.inr (zx_rf (b0 + (23)) 3 0))))))) ((va_up_ne _ _ (by decide)).trans ((va_up_ne _ _ (by decide)).trans ((hf 8 (by decide) (by decide))))) ((va_up_ne _ _ (by decide)).trans ((va_up_ne _ _ (by decide)).trans ((hf 9 (by decide) (by decide)))))) zk_Client_ctor za_Client_ctor rfl wl_Ledger_28 ⟨rfl, rfl, Nat.le_of_ble_eq_true rfl, Nat.le_of_ble_eq_true rfl⟩ hl.1 rfl (Nat.le_of_ble_eq_true rfl) ⟨Nat.le_of_ble_eq_true rfl, Nat.le_of_ble_eq_true rfl⟩ dd_Ledger_ctor_37) hS (fun q h => Nat.le_trans (zx_leC (k := 2) (a := 8) (by decide)) h) (cells' := 7) (slots' := 867) rfl rfl (fun H locs (hP : va_P G.1 zw_cl (zw_l b0 (10) (va_up (va_up (f) (2) (.inr (1, [.ref (b0 + 3), .ref (b0 + 6), .ref (b0 + 7), .null, .null, .null, .int 0]))) (6) (.inl (G.2 3, 8, .inr (.inr (.inr (.inr (zx_rf (b0 + (23)) 3 0)))))))) H) (hz : H.size = b0 + (10)) _ hS => ?_)
  refine zx_pF (ty := .object "TwinLedgers$Client") (k := 10) (f := va_up (va_up (f) (2) (.inr (1, [.ref (b0 + 3), .ref (b0 + 6), .ref (b0 + 7), .null, .null, .null, .int 0]))) (6) (.inl (G.2 3, 8, .inr (.inr (.inr (.inr (zx_rf (b0 + (23)) 3 0))))))) (x := 2) F hE hP hz hS (fun q _ h => Or.elim h (fun z => Nat.le_trans zsz z) id) (by decide) (zx_leC (k := 2) (a := 2) (by decide)) ((va_up_ne _ _ (by decide)).trans (va_up_self _ _ _)) rfl zi_Ledger zy_Ledger zj_Ledger zl_Ledger 3 (by decide) rfl rfl hin2 rfl wf_Ledger_29 (by decide +kernel) rfl rfl (Nat.le_of_ble_eq_true rfl) dd_Ledger_ctor_40 (fun H locs hP (hz : H.size = b0 + (10)) hS => ?_)
  have hP : va_P G.1 zw_cl (zw_l b0 (10) (va_up (va_up (va_up (f) (2) (.inr (1, [.ref (b0 + 3), .ref (b0 + 6), .ref (b0 + 7), .null, .null, .null, .int 0]))) (6) (.inl (G.2 3, 8, .inr (.inr (.inr (.inr (zx_rf (b0 + (23)) 3 0))))))) (2) (.inr (1, [.ref (b0 + 3), .ref (b0 + 6), .ref (b0 + 7), .ref (b0 + 8), .null, .null, .int 0])))) H := hP
  rw [zx_uc (α := va_E) (a := 2) (b := 6) (by decide)] at hP
  rw [zx_uu (α := va_E) (a := 2)] at hP
  refine W.eq (g2 := F0 m 43 ls []) rfl ?_
  refine lv_aload_n F.1 F.2.1 dd_Ledger_ctor_43 rfl (lv_at hl 0 rfl) ?_
  refine zx_new (k := 10) (f := va_up (va_up (f) (2) (.inr (1, [.ref (b0 + 3), .ref (b0 + 6), .ref (b0 + 7), .ref (b0 + 8), .null, .null, .int 0]))) (6) (.inl (G.2 3, 8, .inr (.inr (.inr (.inr (zx_rf (b0 + (23)) 3 0))))))) (fs := [.null, .null, .null, .null, .int 0]) zy_Bank F hE hP hz hS rfl zi_Bank zj_Bank wq_Ledger_33 wi_Bank wj_Bank zx_fs_Bank (Nat.le_of_ble_eq_true rfl) (Nat.le_of_ble_eq_true rfl) dd_Ledger_ctor_44 (cells' := 8) (slots' := 872) rfl rfl (fun H (hP : va_P G.1 zw_cl (zw_l b0 (11) (va_up (va_up (va_up (f) (2) (.inr (1, [.ref (b0 + 3), .ref (b0 + 6), .ref (b0 + 7), .ref (b0 + 8), .null, .null, .int 0]))) (6) (.inl (G.2 3, 8, .inr (.inr (.inr (.inr (zx_rf (b0 + (23)) 3 0))))))) (10) (.inr (4, [.null, .null, .null, .null, .int 0])))) H) (hz : H.size = b0 + (11)) hS => ?_)
  refine lv_dup F.1 F.2.1 dd_Ledger_ctor_47 rfl ?_
  refine zx_go (k := 10) (n := 12) (f := va_up (va_up (f) (2) (.inr (1, [.ref (b0 + 3), .ref (b0 + 6), .ref (b0 + 7), .ref (b0 + 8), .null, .null, .int 0]))) (6) (.inl (G.2 3, 8, .inr (.inr (.inr (.inr (zx_rf (b0 + (23)) 3 0))))))) (zx_run (k := 10) (f := va_up (va_up (f) (2) (.inr (1, [.ref (b0 + 3), .ref (b0 + 6), .ref (b0 + 7), .ref (b0 + 8), .null, .null, .int 0]))) (6) (.inl (G.2 3, 8, .inr (.inr (.inr (.inr (zx_rf (b0 + (23)) 3 0))))))) F hE hO hP hz (zc_Bank_ctor lc G b0 10 (fun k => some (b0 + zp_o 12 0 k)) (fun k => some (b0 + zp_o 14 0 k)) (va_up (va_up (f) (2) (.inr (1, [.ref (b0 + 3), .ref (b0 + 6), .ref (b0 + 7), .ref (b0 + 8), .null, .null, .int 0]))) (6) (.inl (G.2 3, 8, .inr (.inr (.inr (.inr (zx_rf (b0 + (23)) 3 0))))))) ((va_up_ne _ _ (by decide)).trans ((va_up_ne _ _ (by decide)).trans ((hf 10 (by decide) (by decide))))) ((va_up_ne _ _ (by decide)).trans ((va_up_ne _ _ (by decide)).trans ((hf 11 (by decide) (by decide))))) (fun j hj => by
      match j, hj with
      | 0, _ => exact ((va_up_ne _ _ (by decide)).trans ((va_up_ne _ _ (by decide)).trans ((hf 12 (by decide) (by decide)))))
      | 1, _ => exact ((va_up_ne _ _ (by decide)).trans ((va_up_ne _ _ (by decide)).trans ((hf 13 (by decide) (by decide)))))
      | 2, _ => exact ((va_up_ne _ _ (by decide)).trans ((va_up_ne _ _ (by decide)).trans ((hf 14 (by decide) (by decide)))))
      | 3, _ => exact ((va_up_ne _ _ (by decide)).trans ((va_up_ne _ _ (by decide)).trans ((hf 15 (by decide) (by decide)))))
      | q + 4, h => exact absurd h (Nat.not_lt.mpr (Nat.le_add_left _ q))) ((va_up_ne _ _ (by decide)).trans ((va_up_ne _ _ (by decide)).trans ((hf 16 (by decide) (by decide))))) (fun j hj => by
      match j, hj with
      | 0, _ => exact ((va_up_ne _ _ (by decide)).trans ((va_up_ne _ _ (by decide)).trans ((hf 17 (by decide) (by decide)))))
      | 1, _ => exact ((va_up_ne _ _ (by decide)).trans ((va_up_ne _ _ (by decide)).trans ((hf 18 (by decide) (by decide)))))
      | 2, _ => exact ((va_up_ne _ _ (by decide)).trans ((va_up_ne _ _ (by decide)).trans ((hf 19 (by decide) (by decide)))))
      | q + 3, h => exact absurd h (Nat.not_lt.mpr (Nat.le_add_left _ q))) ((va_up_ne _ _ (by decide)).trans ((va_up_ne _ _ (by decide)).trans ((hf 20 (by decide) (by decide))))) ((va_up_ne _ _ (by decide)).trans ((va_up_ne _ _ (by decide)).trans ((hf 21 (by decide) (by decide))))) (fun j hj => by
      match j, hj with
      | 0, _ => rfl
      | 1, _ => rfl
      | 2, _ => rfl
      | 3, _ => rfl
      | q + 4, h => exact absurd h (Nat.not_lt.mpr (Nat.le_add_left _ q))) (fun j hj => by
      match j, hj with
      | 0, _ => rfl
      | 1, _ => rfl
      | 2, _ => rfl
      | q + 3, h => exact absurd h (Nat.not_lt.mpr (Nat.le_add_left _ q)))) zk_Bank_ctor za_Bank_ctor rfl wl_Ledger_35 ⟨rfl, rfl, Nat.le_of_ble_eq_true rfl, Nat.le_of_ble_eq_true rfl⟩ hl.1 rfl (Nat.le_of_ble_eq_true rfl) ⟨Nat.le_of_ble_eq_true rfl, Nat.le_of_ble_eq_true rfl⟩ dd_Ledger_ctor_48) hS (fun q h => Nat.le_trans (zx_leC (k := 2) (a := 10) (by decide)) h) (cells' := 19) (slots' := 933) rfl rfl (fun H locs (hP : va_P G.1 zw_cl (zw_l b0 (22) (va_up (va_up (f) (2) (.inr (1, [.ref (b0 + 3), .ref (b0 + 6), .ref (b0 + 7), .ref (b0 + 8), .null, .null, .int 0]))) (6) (.inl (G.2 3, 8, .inr (.inr (.inr (.inr (zx_rf (b0 + (23)) 3 0)))))))) H) (hz : H.size = b0 + (22)) _ hS => ?_)
  refine zx_pF (ty := .object "TwinLedgers$Bank") (k := 22) (f := va_up (va_up (f) (2) (.inr (1, [.ref (b0 + 3), .ref (b0 + 6), .ref (b0 + 7), .ref (b0 + 8), .null, .null, .int 0]))) (6) (.inl (G.2 3, 8, .inr (.inr (.inr (.inr (zx_rf (b0 + (23)) 3 0))))))) (x := 2) F hE hP hz hS (fun q _ h => Or.elim h (fun z => Nat.le_trans zsz z) id) (by decide) (zx_leC (k := 2) (a := 2) (by decide)) ((va_up_ne _ _ (by decide)).trans (va_up_self _ _ _)) rfl zi_Ledger zy_Ledger zj_Ledger zl_Ledger 4 (by decide) rfl rfl hin2 rfl wf_Ledger_36 (by decide +kernel) rfl rfl (Nat.le_of_ble_eq_true rfl) dd_Ledger_ctor_51 (fun H locs hP (hz : H.size = b0 + (22)) hS => ?_)
  have hP : va_P G.1 zw_cl (zw_l b0 (22) (va_up (va_up (va_up (f) (2) (.inr (1, [.ref (b0 + 3), .ref (b0 + 6), .ref (b0 + 7), .ref (b0 + 8), .null, .null, .int 0]))) (6) (.inl (G.2 3, 8, .inr (.inr (.inr (.inr (zx_rf (b0 + (23)) 3 0))))))) (2) (.inr (1, [.ref (b0 + 3), .ref (b0 + 6), .ref (b0 + 7), .ref (b0 + 8), .ref (b0 + 10), .null, .int 0])))) H := hP
  rw [zx_uc (α := va_E) (a := 2) (b := 6) (by decide)] at hP
  rw [zx_uu (α := va_E) (a := 2)] at hP
  refine W.eq (g2 := F0 m 54 ls []) rfl ?_
  refine lv_aload_n F.1 F.2.1 dd_Ledger_ctor_54 rfl (lv_at hl 0 rfl) ?_
  refine lv_iconst (v := nI 3) F.1 F.2.1 dd_Ledger_ctor_55 (by decide) ?_
  refine zx_newq (k := 22) (f := va_up (va_up (f) (2) (.inr (1, [.ref (b0 + 3), .ref (b0 + 6), .ref (b0 + 7), .ref (b0 + 8), .ref (b0 + 10), .null, .int 0]))) (6) (.inl (G.2 3, 8, .inr (.inr (.inr (.inr (zx_rf (b0 + (23)) 3 0))))))) (C := "TwinLedgers$End") (z := 4) F hE hP hz hS wq_Ledger_40 hO.2.2.1 rfl (by decide) (N := 3) (by decide) (by decide) (Nat.le_of_ble_eq_true rfl) (Nat.le_of_ble_eq_true rfl) dd_Ledger_ctor_56 (cells' := 20) (slots' := 936) rfl rfl (fun H (hP : va_P G.1 zw_cl (zw_l b0 (23) (va_up (va_up (va_up (f) (2) (.inr (1, [.ref (b0 + 3), .ref (b0 + 6), .ref (b0 + 7), .ref (b0 + 8), .ref (b0 + 10), .null, .int 0]))) (6) (.inl (G.2 3, 8, .inr (.inr (.inr (.inr (zx_rf (b0 + (23)) 3 0))))))) (22) (.inl (G.2 4, 3, .inr (.inr (.inr (.inr (fun _ => none)))))))) H) (hz : H.size = b0 + (23)) hS => ?_)
  rw [zx_rf0 (b0 + (47)) 14] at hP
  refine zx_pF (ty := .array (.object "TwinLedgers$End")) (k := 23) (f := va_up (va_up (va_up (f) (2) (.inr (1, [.ref (b0 + 3), .ref (b0 + 6), .ref (b0 + 7), .ref (b0 + 8), .ref (b0 + 10), .null, .int 0]))) (6) (.inl (G.2 3, 8, .inr (.inr (.inr (.inr (zx_rf (b0 + (23)) 3 0))))))) (22) (.inl (G.2 4, 3, .inr (.inr (.inr (.inr (zx_rf (b0 + (47)) 14 0))))))) (x := 2) F hE hP hz hS (fun q _ h => Or.elim h (fun z => Nat.le_trans zsz z) id) (by decide) (zx_leC (k := 2) (a := 2) (by decide)) ((va_up_ne _ _ (by decide)).trans ((va_up_ne _ _ (by decide)).trans (va_up_self _ _ _))) rfl zi_Ledger zy_Ledger zj_Ledger zl_Ledger 5 (by decide) rfl rfl hin2 rfl wf_Ledger_42 (by decide +kernel) rfl rfl (Nat.le_of_ble_eq_true rfl) dd_Ledger_ctor_59 (fun H locs hP (hz : H.size = b0 + (23)) hS => ?_)
  have hP : va_P G.1 zw_cl (zw_l b0 (23) (va_up (va_up (va_up (va_up (f) (2) (.inr (1, [.ref (b0 + 3), .ref (b0 + 6), .ref (b0 + 7), .ref (b0 + 8), .ref (b0 + 10), .null, .int 0]))) (6) (.inl (G.2 3, 8, .inr (.inr (.inr (.inr (zx_rf (b0 + (23)) 3 0))))))) (22) (.inl (G.2 4, 3, .inr (.inr (.inr (.inr (zx_rf (b0 + (47)) 14 0))))))) (2) (.inr (1, [.ref (b0 + 3), .ref (b0 + 6), .ref (b0 + 7), .ref (b0 + 8), .ref (b0 + 10), .ref (b0 + 22), .int 0])))) H := hP
  rw [zx_uc (α := va_E) (a := 2) (b := 22) (by decide)] at hP
  rw [zx_uc (α := va_E) (a := 2) (b := 6) (by decide)] at hP
  rw [zx_uu (α := va_E) (a := 2)] at hP
  refine W.eq (g2 := F0 m 62 ls []) rfl ?_
  rw [zx_id (α := va_E) (f := f) (a := 2) (e := .inr (1, [.ref (b0 + 3), .ref (b0 + 6), .ref (b0 + 7), .ref (b0 + 8), .ref (b0 + 10), .ref (b0 + 22), .int 0])) ((hf 2 (by decide) (by decide)))] at hP
  refine lv_iconst (v := nI 0) F.1 F.2.1 dd_Ledger_ctor_62 (by decide) ?_
  refine lv_istore_n F.1 F.2.1 dd_Ledger_ctor_63 rfl hl (by decide) (lv' := [(1, .int (nI 0)), (0, .ref (b0 + 2))]) rfl (fun ls hl => ?_)
  refine lv_iload_n F.1 F.2.1 dd_Ledger_ctor_64 rfl (lv_at hl 0 rfl) ?_
  refine lv_bipush (v := nI 8) F.1 F.2.1 dd_Ledger_ctor_65 (by decide) ?_
  refine zn_cge F dd_Ledger_ctor_67 (tgt := 89) rfl (by decide) (by decide) (fun h => absurd h (by decide)) (fun h => ?_)
  refine lv_aload_n F.1 F.2.1 dd_Ledger_ctor_70 rfl (lv_at hl 1 rfl) ?_
  refine zw_gF (n := 23) (f := va_up (va_up (f) (6) (.inl (G.2 3, 8, .inr (.inr (.inr (.inr (zx_rf (b0 + (23)) 3 0))))))) (22) (.inl (G.2 4, 3, .inr (.inr (.inr (.inr (zx_rf (b0 + (47)) 14 0))))))) (x := 2) F hE hP (by decide) ((va_up_ne _ _ (by decide)).trans ((va_up_ne _ _ (by decide)).trans ((hf 2 (by decide) (by decide))))) rfl zi_Ledger 1 (by decide) rfl wf_Ledger_18 rfl dd_Ledger_ctor_71 ?_
  refine W.eq (g2 := F0 m 74 ls [.ref (b0 + 6)]) rfl ?_
  refine lv_iload_n F.1 F.2.1 dd_Ledger_ctor_74 rfl (lv_at hl 0 rfl) ?_
  refine zx_new (k := 23) (f := va_up (va_up (f) (6) (.inl (G.2 3, 8, .inr (.inr (.inr (.inr (zx_rf (b0 + (23)) 3 0))))))) (22) (.inl (G.2 4, 3, .inr (.inr (.inr (.inr (zx_rf (b0 + (47)) 14 0))))))) (fs := [.null, .null]) zy_Store F hE hP hz hS rfl zi_Store zj_Store wq_Ledger_9 wi_Store wj_Store zx_fs_Store (Nat.le_of_ble_eq_true rfl) (Nat.le_of_ble_eq_true rfl) dd_Ledger_ctor_75 (cells' := 21) (slots' := 938) rfl rfl (fun H (hP : va_P G.1 zw_cl (zw_l b0 (24) (va_up (va_up (va_up (f) (6) (.inl (G.2 3, 8, .inr (.inr (.inr (.inr (zx_rf (b0 + (23)) 3 0))))))) (22) (.inl (G.2 4, 3, .inr (.inr (.inr (.inr (zx_rf (b0 + (47)) 14 0))))))) (23) (.inr (2, [.null, .null])))) H) (hz : H.size = b0 + (24)) hS => ?_)
  refine lv_dup F.1 F.2.1 dd_Ledger_ctor_78 rfl ?_
  refine zx_go (k := 23) (n := 3) (f := va_up (va_up (f) (6) (.inl (G.2 3, 8, .inr (.inr (.inr (.inr (zx_rf (b0 + (23)) 3 0))))))) (22) (.inl (G.2 4, 3, .inr (.inr (.inr (.inr (zx_rf (b0 + (47)) 14 0))))))) (zx_runN (k := 23) (f := va_up (va_up (f) (6) (.inl (G.2 3, 8, .inr (.inr (.inr (.inr (zx_rf (b0 + (23)) 3 0))))))) (22) (.inl (G.2 4, 3, .inr (.inr (.inr (.inr (zx_rf (b0 + (47)) 14 0))))))) F hE hO hP hz (zc_Store_ctor lc G b0 23 (va_up (va_up (f) (6) (.inl (G.2 3, 8, .inr (.inr (.inr (.inr (zx_rf (b0 + (23)) 3 0))))))) (22) (.inl (G.2 4, 3, .inr (.inr (.inr (.inr (zx_rf (b0 + (47)) 14 0))))))) ((va_up_ne _ _ (by decide)).trans ((va_up_ne _ _ (by decide)).trans ((hf 23 (by decide) (by decide))))) ((va_up_ne _ _ (by decide)).trans ((va_up_ne _ _ (by decide)).trans ((hf 24 (by decide) (by decide))))) ((va_up_ne _ _ (by decide)).trans ((va_up_ne _ _ (by decide)).trans ((hf 25 (by decide) (by decide)))))) zk_Store_ctor za_Store_ctor rfl wl_Ledger_11 ⟨rfl, rfl, Nat.le_of_ble_eq_true rfl, Nat.le_of_ble_eq_true rfl⟩ hl.1 rfl (Nat.le_of_ble_eq_true rfl) ⟨Nat.le_of_ble_eq_true rfl, Nat.le_of_ble_eq_true rfl⟩ dd_Ledger_ctor_79) hS (fun q h => Nat.le_trans (zx_leC (k := 2) (a := 23) (by decide)) h) (cells' := 23) (slots' := 1166) rfl rfl (fun H locs (hP : va_P G.1 zw_cl (zw_l b0 (26) (va_up (va_up (f) (6) (.inl (G.2 3, 8, .inr (.inr (.inr (.inr (zx_rf (b0 + (23)) 3 0))))))) (22) (.inl (G.2 4, 3, .inr (.inr (.inr (.inr (zx_rf (b0 + (47)) 14 0)))))))) H) (hz : H.size = b0 + (26)) _ hS => ?_)
  refine zx_ast (k := 26) (f := va_up (va_up (f) (6) (.inl (G.2 3, 8, .inr (.inr (.inr (.inr (zx_rf (b0 + (23)) 3 0))))))) (22) (.inl (G.2 4, 3, .inr (.inr (.inr (.inr (zx_rf (b0 + (47)) 14 0))))))) (x := 6) (y := 23) (z := 3) (j := 0) F hE hP hz hS (by decide) (zx_leC (k := 2) (a := 6) (by decide)) ((va_up_ne _ _ (by decide)).trans (va_up_self _ _ _)) rfl (by decide) ((va_up_ne _ _ (by decide)).trans ((va_up_ne _ _ (by decide)).trans ((hf 23 (by decide) (by decide))))) rfl (by decide) (by decide) rfl dd_Ledger_ctor_82 (fun H locs hP (hz : H.size = b0 + (26)) hS => ?_)
  rw [zx_rfs (n := 0) (n' := 1) (zx_rv0 (a := 23) (m := 23) (by decide)) rfl] at hP
  rw [zx_uc (α := va_E) (a := 6) (b := 22) (by decide)] at hP
  rw [zx_uu (α := va_E) (a := 6)] at hP
  refine lv_iinc F.1 F.2.1 dd_Ledger_ctor_83 hl (k := 0) rfl (v := nI 1) (by decide) (by decide) (lv' := [(1, .int (nI 1)), (0, .ref (b0 + 2))]) rfl (fun ls hl => ?_)
  refine lv_goto F.1 F.2.1 dd_Ledger_ctor_86 (tgt := 64) rfl ?_
  refine lv_iload_n F.1 F.2.1 dd_Ledger_ctor_64 rfl (lv_at hl 0 rfl) ?_
  refine lv_bipush (v := nI 8) F.1 F.2.1 dd_Ledger_ctor_65 (by decide) ?_
  refine zn_cge F dd_Ledger_ctor_67 (tgt := 89) rfl (by decide) (by decide) (fun h => absurd h (by decide)) (fun h => ?_)
  refine lv_aload_n F.1 F.2.1 dd_Ledger_ctor_70 rfl (lv_at hl 1 rfl) ?_
  refine zw_gF (n := 26) (f := va_up (va_up (f) (6) (.inl (G.2 3, 8, .inr (.inr (.inr (.inr (zx_rf (b0 + (23)) 3 1))))))) (22) (.inl (G.2 4, 3, .inr (.inr (.inr (.inr (zx_rf (b0 + (47)) 14 0))))))) (x := 2) F hE hP (by decide) ((va_up_ne _ _ (by decide)).trans ((va_up_ne _ _ (by decide)).trans ((hf 2 (by decide) (by decide))))) rfl zi_Ledger 1 (by decide) rfl wf_Ledger_18 rfl dd_Ledger_ctor_71 ?_
  refine W.eq (g2 := F0 m 74 ls [.ref (b0 + 6)]) rfl ?_
  refine lv_iload_n F.1 F.2.1 dd_Ledger_ctor_74 rfl (lv_at hl 0 rfl) ?_
  refine zx_new (k := 26) (f := va_up (va_up (f) (6) (.inl (G.2 3, 8, .inr (.inr (.inr (.inr (zx_rf (b0 + (23)) 3 1))))))) (22) (.inl (G.2 4, 3, .inr (.inr (.inr (.inr (zx_rf (b0 + (47)) 14 0))))))) (fs := [.null, .null]) zy_Store F hE hP hz hS rfl zi_Store zj_Store wq_Ledger_9 wi_Store wj_Store zx_fs_Store (Nat.le_of_ble_eq_true rfl) (Nat.le_of_ble_eq_true rfl) dd_Ledger_ctor_75 (cells' := 24) (slots' := 1168) rfl rfl (fun H (hP : va_P G.1 zw_cl (zw_l b0 (27) (va_up (va_up (va_up (f) (6) (.inl (G.2 3, 8, .inr (.inr (.inr (.inr (zx_rf (b0 + (23)) 3 1))))))) (22) (.inl (G.2 4, 3, .inr (.inr (.inr (.inr (zx_rf (b0 + (47)) 14 0))))))) (26) (.inr (2, [.null, .null])))) H) (hz : H.size = b0 + (27)) hS => ?_)
  refine lv_dup F.1 F.2.1 dd_Ledger_ctor_78 rfl ?_
  refine zx_go (k := 26) (n := 3) (f := va_up (va_up (f) (6) (.inl (G.2 3, 8, .inr (.inr (.inr (.inr (zx_rf (b0 + (23)) 3 1))))))) (22) (.inl (G.2 4, 3, .inr (.inr (.inr (.inr (zx_rf (b0 + (47)) 14 0))))))) (zx_runN (k := 26) (f := va_up (va_up (f) (6) (.inl (G.2 3, 8, .inr (.inr (.inr (.inr (zx_rf (b0 + (23)) 3 1))))))) (22) (.inl (G.2 4, 3, .inr (.inr (.inr (.inr (zx_rf (b0 + (47)) 14 0))))))) F hE hO hP hz (zc_Store_ctor lc G b0 26 (va_up (va_up (f) (6) (.inl (G.2 3, 8, .inr (.inr (.inr (.inr (zx_rf (b0 + (23)) 3 1))))))) (22) (.inl (G.2 4, 3, .inr (.inr (.inr (.inr (zx_rf (b0 + (47)) 14 0))))))) ((va_up_ne _ _ (by decide)).trans ((va_up_ne _ _ (by decide)).trans ((hf 26 (by decide) (by decide))))) ((va_up_ne _ _ (by decide)).trans ((va_up_ne _ _ (by decide)).trans ((hf 27 (by decide) (by decide))))) ((va_up_ne _ _ (by decide)).trans ((va_up_ne _ _ (by decide)).trans ((hf 28 (by decide) (by decide)))))) zk_Store_ctor za_Store_ctor rfl wl_Ledger_11 ⟨rfl, rfl, Nat.le_of_ble_eq_true rfl, Nat.le_of_ble_eq_true rfl⟩ hl.1 rfl (Nat.le_of_ble_eq_true rfl) ⟨Nat.le_of_ble_eq_true rfl, Nat.le_of_ble_eq_true rfl⟩ dd_Ledger_ctor_79) hS (fun q h => Nat.le_trans (zx_leC (k := 2) (a := 26) (by decide)) h) (cells' := 26) (slots' := 1396) rfl rfl (fun H locs (hP : va_P G.1 zw_cl (zw_l b0 (29) (va_up (va_up (f) (6) (.inl (G.2 3, 8, .inr (.inr (.inr (.inr (zx_rf (b0 + (23)) 3 1))))))) (22) (.inl (G.2 4, 3, .inr (.inr (.inr (.inr (zx_rf (b0 + (47)) 14 0)))))))) H) (hz : H.size = b0 + (29)) _ hS => ?_)
  refine zx_ast (k := 29) (f := va_up (va_up (f) (6) (.inl (G.2 3, 8, .inr (.inr (.inr (.inr (zx_rf (b0 + (23)) 3 1))))))) (22) (.inl (G.2 4, 3, .inr (.inr (.inr (.inr (zx_rf (b0 + (47)) 14 0))))))) (x := 6) (y := 26) (z := 3) (j := 1) F hE hP hz hS (by decide) (zx_leC (k := 2) (a := 6) (by decide)) ((va_up_ne _ _ (by decide)).trans (va_up_self _ _ _)) rfl (by decide) ((va_up_ne _ _ (by decide)).trans ((va_up_ne _ _ (by decide)).trans ((hf 26 (by decide) (by decide))))) rfl (by decide) (by decide) rfl dd_Ledger_ctor_82 (fun H locs hP (hz : H.size = b0 + (29)) hS => ?_)
  rw [zx_rfs (n := 1) (n' := 2) (zx_rv0 (a := 23) (m := 26) (by decide)) rfl] at hP
  rw [zx_uc (α := va_E) (a := 6) (b := 22) (by decide)] at hP
  rw [zx_uu (α := va_E) (a := 6)] at hP
  refine lv_iinc F.1 F.2.1 dd_Ledger_ctor_83 hl (k := 0) rfl (v := nI 2) (by decide) (by decide) (lv' := [(1, .int (nI 2)), (0, .ref (b0 + 2))]) rfl (fun ls hl => ?_)
  refine lv_goto F.1 F.2.1 dd_Ledger_ctor_86 (tgt := 64) rfl ?_
  refine lv_iload_n F.1 F.2.1 dd_Ledger_ctor_64 rfl (lv_at hl 0 rfl) ?_
  refine lv_bipush (v := nI 8) F.1 F.2.1 dd_Ledger_ctor_65 (by decide) ?_
  refine zn_cge F dd_Ledger_ctor_67 (tgt := 89) rfl (by decide) (by decide) (fun h => absurd h (by decide)) (fun h => ?_)
  refine lv_aload_n F.1 F.2.1 dd_Ledger_ctor_70 rfl (lv_at hl 1 rfl) ?_
  refine zw_gF (n := 29) (f := va_up (va_up (f) (6) (.inl (G.2 3, 8, .inr (.inr (.inr (.inr (zx_rf (b0 + (23)) 3 2))))))) (22) (.inl (G.2 4, 3, .inr (.inr (.inr (.inr (zx_rf (b0 + (47)) 14 0))))))) (x := 2) F hE hP (by decide) ((va_up_ne _ _ (by decide)).trans ((va_up_ne _ _ (by decide)).trans ((hf 2 (by decide) (by decide))))) rfl zi_Ledger 1 (by decide) rfl wf_Ledger_18 rfl dd_Ledger_ctor_71 ?_
  refine W.eq (g2 := F0 m 74 ls [.ref (b0 + 6)]) rfl ?_
  refine lv_iload_n F.1 F.2.1 dd_Ledger_ctor_74 rfl (lv_at hl 0 rfl) ?_
  refine zx_new (k := 29) (f := va_up (va_up (f) (6) (.inl (G.2 3, 8, .inr (.inr (.inr (.inr (zx_rf (b0 + (23)) 3 2))))))) (22) (.inl (G.2 4, 3, .inr (.inr (.inr (.inr (zx_rf (b0 + (47)) 14 0))))))) (fs := [.null, .null]) zy_Store F hE hP hz hS rfl zi_Store zj_Store wq_Ledger_9 wi_Store wj_Store zx_fs_Store (Nat.le_of_ble_eq_true rfl) (Nat.le_of_ble_eq_true rfl) dd_Ledger_ctor_75 (cells' := 27) (slots' := 1398) rfl rfl (fun H (hP : va_P G.1 zw_cl (zw_l b0 (30) (va_up (va_up (va_up (f) (6) (.inl (G.2 3, 8, .inr (.inr (.inr (.inr (zx_rf (b0 + (23)) 3 2))))))) (22) (.inl (G.2 4, 3, .inr (.inr (.inr (.inr (zx_rf (b0 + (47)) 14 0))))))) (29) (.inr (2, [.null, .null])))) H) (hz : H.size = b0 + (30)) hS => ?_)
  refine lv_dup F.1 F.2.1 dd_Ledger_ctor_78 rfl ?_
  refine zx_go (k := 29) (n := 3) (f := va_up (va_up (f) (6) (.inl (G.2 3, 8, .inr (.inr (.inr (.inr (zx_rf (b0 + (23)) 3 2))))))) (22) (.inl (G.2 4, 3, .inr (.inr (.inr (.inr (zx_rf (b0 + (47)) 14 0))))))) (zx_runN (k := 29) (f := va_up (va_up (f) (6) (.inl (G.2 3, 8, .inr (.inr (.inr (.inr (zx_rf (b0 + (23)) 3 2))))))) (22) (.inl (G.2 4, 3, .inr (.inr (.inr (.inr (zx_rf (b0 + (47)) 14 0))))))) F hE hO hP hz (zc_Store_ctor lc G b0 29 (va_up (va_up (f) (6) (.inl (G.2 3, 8, .inr (.inr (.inr (.inr (zx_rf (b0 + (23)) 3 2))))))) (22) (.inl (G.2 4, 3, .inr (.inr (.inr (.inr (zx_rf (b0 + (47)) 14 0))))))) ((va_up_ne _ _ (by decide)).trans ((va_up_ne _ _ (by decide)).trans ((hf 29 (by decide) (by decide))))) ((va_up_ne _ _ (by decide)).trans ((va_up_ne _ _ (by decide)).trans ((hf 30 (by decide) (by decide))))) ((va_up_ne _ _ (by decide)).trans ((va_up_ne _ _ (by decide)).trans ((hf 31 (by decide) (by decide)))))) zk_Store_ctor za_Store_ctor rfl wl_Ledger_11 ⟨rfl, rfl, Nat.le_of_ble_eq_true rfl, Nat.le_of_ble_eq_true rfl⟩ hl.1 rfl (Nat.le_of_ble_eq_true rfl) ⟨Nat.le_of_ble_eq_true rfl, Nat.le_of_ble_eq_true rfl⟩ dd_Ledger_ctor_79) hS (fun q h => Nat.le_trans (zx_leC (k := 2) (a := 29) (by decide)) h) (cells' := 29) (slots' := 1626) rfl rfl (fun H locs (hP : va_P G.1 zw_cl (zw_l b0 (32) (va_up (va_up (f) (6) (.inl (G.2 3, 8, .inr (.inr (.inr (.inr (zx_rf (b0 + (23)) 3 2))))))) (22) (.inl (G.2 4, 3, .inr (.inr (.inr (.inr (zx_rf (b0 + (47)) 14 0)))))))) H) (hz : H.size = b0 + (32)) _ hS => ?_)
  refine zx_ast (k := 32) (f := va_up (va_up (f) (6) (.inl (G.2 3, 8, .inr (.inr (.inr (.inr (zx_rf (b0 + (23)) 3 2))))))) (22) (.inl (G.2 4, 3, .inr (.inr (.inr (.inr (zx_rf (b0 + (47)) 14 0))))))) (x := 6) (y := 29) (z := 3) (j := 2) F hE hP hz hS (by decide) (zx_leC (k := 2) (a := 6) (by decide)) ((va_up_ne _ _ (by decide)).trans (va_up_self _ _ _)) rfl (by decide) ((va_up_ne _ _ (by decide)).trans ((va_up_ne _ _ (by decide)).trans ((hf 29 (by decide) (by decide))))) rfl (by decide) (by decide) rfl dd_Ledger_ctor_82 (fun H locs hP (hz : H.size = b0 + (32)) hS => ?_)
  rw [zx_rfs (n := 2) (n' := 3) (zx_rv0 (a := 23) (m := 29) (by decide)) rfl] at hP
  rw [zx_uc (α := va_E) (a := 6) (b := 22) (by decide)] at hP
  rw [zx_uu (α := va_E) (a := 6)] at hP
  refine lv_iinc F.1 F.2.1 dd_Ledger_ctor_83 hl (k := 0) rfl (v := nI 3) (by decide) (by decide) (lv' := [(1, .int (nI 3)), (0, .ref (b0 + 2))]) rfl (fun ls hl => ?_)
  refine lv_goto F.1 F.2.1 dd_Ledger_ctor_86 (tgt := 64) rfl ?_
  refine lv_iload_n F.1 F.2.1 dd_Ledger_ctor_64 rfl (lv_at hl 0 rfl) ?_
  refine lv_bipush (v := nI 8) F.1 F.2.1 dd_Ledger_ctor_65 (by decide) ?_
  refine zn_cge F dd_Ledger_ctor_67 (tgt := 89) rfl (by decide) (by decide) (fun h => absurd h (by decide)) (fun h => ?_)
  refine lv_aload_n F.1 F.2.1 dd_Ledger_ctor_70 rfl (lv_at hl 1 rfl) ?_
  refine zw_gF (n := 32) (f := va_up (va_up (f) (6) (.inl (G.2 3, 8, .inr (.inr (.inr (.inr (zx_rf (b0 + (23)) 3 3))))))) (22) (.inl (G.2 4, 3, .inr (.inr (.inr (.inr (zx_rf (b0 + (47)) 14 0))))))) (x := 2) F hE hP (by decide) ((va_up_ne _ _ (by decide)).trans ((va_up_ne _ _ (by decide)).trans ((hf 2 (by decide) (by decide))))) rfl zi_Ledger 1 (by decide) rfl wf_Ledger_18 rfl dd_Ledger_ctor_71 ?_
  refine W.eq (g2 := F0 m 74 ls [.ref (b0 + 6)]) rfl ?_
  refine lv_iload_n F.1 F.2.1 dd_Ledger_ctor_74 rfl (lv_at hl 0 rfl) ?_
  refine zx_new (k := 32) (f := va_up (va_up (f) (6) (.inl (G.2 3, 8, .inr (.inr (.inr (.inr (zx_rf (b0 + (23)) 3 3))))))) (22) (.inl (G.2 4, 3, .inr (.inr (.inr (.inr (zx_rf (b0 + (47)) 14 0))))))) (fs := [.null, .null]) zy_Store F hE hP hz hS rfl zi_Store zj_Store wq_Ledger_9 wi_Store wj_Store zx_fs_Store (Nat.le_of_ble_eq_true rfl) (Nat.le_of_ble_eq_true rfl) dd_Ledger_ctor_75 (cells' := 30) (slots' := 1628) rfl rfl (fun H (hP : va_P G.1 zw_cl (zw_l b0 (33) (va_up (va_up (va_up (f) (6) (.inl (G.2 3, 8, .inr (.inr (.inr (.inr (zx_rf (b0 + (23)) 3 3))))))) (22) (.inl (G.2 4, 3, .inr (.inr (.inr (.inr (zx_rf (b0 + (47)) 14 0))))))) (32) (.inr (2, [.null, .null])))) H) (hz : H.size = b0 + (33)) hS => ?_)
  refine lv_dup F.1 F.2.1 dd_Ledger_ctor_78 rfl ?_
  refine zx_go (k := 32) (n := 3) (f := va_up (va_up (f) (6) (.inl (G.2 3, 8, .inr (.inr (.inr (.inr (zx_rf (b0 + (23)) 3 3))))))) (22) (.inl (G.2 4, 3, .inr (.inr (.inr (.inr (zx_rf (b0 + (47)) 14 0))))))) (zx_runN (k := 32) (f := va_up (va_up (f) (6) (.inl (G.2 3, 8, .inr (.inr (.inr (.inr (zx_rf (b0 + (23)) 3 3))))))) (22) (.inl (G.2 4, 3, .inr (.inr (.inr (.inr (zx_rf (b0 + (47)) 14 0))))))) F hE hO hP hz (zc_Store_ctor lc G b0 32 (va_up (va_up (f) (6) (.inl (G.2 3, 8, .inr (.inr (.inr (.inr (zx_rf (b0 + (23)) 3 3))))))) (22) (.inl (G.2 4, 3, .inr (.inr (.inr (.inr (zx_rf (b0 + (47)) 14 0))))))) ((va_up_ne _ _ (by decide)).trans ((va_up_ne _ _ (by decide)).trans ((hf 32 (by decide) (by decide))))) ((va_up_ne _ _ (by decide)).trans ((va_up_ne _ _ (by decide)).trans ((hf 33 (by decide) (by decide))))) ((va_up_ne _ _ (by decide)).trans ((va_up_ne _ _ (by decide)).trans ((hf 34 (by decide) (by decide)))))) zk_Store_ctor za_Store_ctor rfl wl_Ledger_11 ⟨rfl, rfl, Nat.le_of_ble_eq_true rfl, Nat.le_of_ble_eq_true rfl⟩ hl.1 rfl (Nat.le_of_ble_eq_true rfl) ⟨Nat.le_of_ble_eq_true rfl, Nat.le_of_ble_eq_true rfl⟩ dd_Ledger_ctor_79) hS (fun q h => Nat.le_trans (zx_leC (k := 2) (a := 32) (by decide)) h) (cells' := 32) (slots' := 1856) rfl rfl (fun H locs (hP : va_P G.1 zw_cl (zw_l b0 (35) (va_up (va_up (f) (6) (.inl (G.2 3, 8, .inr (.inr (.inr (.inr (zx_rf (b0 + (23)) 3 3))))))) (22) (.inl (G.2 4, 3, .inr (.inr (.inr (.inr (zx_rf (b0 + (47)) 14 0)))))))) H) (hz : H.size = b0 + (35)) _ hS => ?_)
  refine zx_ast (k := 35) (f := va_up (va_up (f) (6) (.inl (G.2 3, 8, .inr (.inr (.inr (.inr (zx_rf (b0 + (23)) 3 3))))))) (22) (.inl (G.2 4, 3, .inr (.inr (.inr (.inr (zx_rf (b0 + (47)) 14 0))))))) (x := 6) (y := 32) (z := 3) (j := 3) F hE hP hz hS (by decide) (zx_leC (k := 2) (a := 6) (by decide)) ((va_up_ne _ _ (by decide)).trans (va_up_self _ _ _)) rfl (by decide) ((va_up_ne _ _ (by decide)).trans ((va_up_ne _ _ (by decide)).trans ((hf 32 (by decide) (by decide))))) rfl (by decide) (by decide) rfl dd_Ledger_ctor_82 (fun H locs hP (hz : H.size = b0 + (35)) hS => ?_)
  rw [zx_rfs (n := 3) (n' := 4) (zx_rv0 (a := 23) (m := 32) (by decide)) rfl] at hP
  rw [zx_uc (α := va_E) (a := 6) (b := 22) (by decide)] at hP
  rw [zx_uu (α := va_E) (a := 6)] at hP
  refine lv_iinc F.1 F.2.1 dd_Ledger_ctor_83 hl (k := 0) rfl (v := nI 4) (by decide) (by decide) (lv' := [(1, .int (nI 4)), (0, .ref (b0 + 2))]) rfl (fun ls hl => ?_)
  refine lv_goto F.1 F.2.1 dd_Ledger_ctor_86 (tgt := 64) rfl ?_
  refine lv_iload_n F.1 F.2.1 dd_Ledger_ctor_64 rfl (lv_at hl 0 rfl) ?_
  refine lv_bipush (v := nI 8) F.1 F.2.1 dd_Ledger_ctor_65 (by decide) ?_
  refine zn_cge F dd_Ledger_ctor_67 (tgt := 89) rfl (by decide) (by decide) (fun h => absurd h (by decide)) (fun h => ?_)
  refine lv_aload_n F.1 F.2.1 dd_Ledger_ctor_70 rfl (lv_at hl 1 rfl) ?_
  refine zw_gF (n := 35) (f := va_up (va_up (f) (6) (.inl (G.2 3, 8, .inr (.inr (.inr (.inr (zx_rf (b0 + (23)) 3 4))))))) (22) (.inl (G.2 4, 3, .inr (.inr (.inr (.inr (zx_rf (b0 + (47)) 14 0))))))) (x := 2) F hE hP (by decide) ((va_up_ne _ _ (by decide)).trans ((va_up_ne _ _ (by decide)).trans ((hf 2 (by decide) (by decide))))) rfl zi_Ledger 1 (by decide) rfl wf_Ledger_18 rfl dd_Ledger_ctor_71 ?_
  refine W.eq (g2 := F0 m 74 ls [.ref (b0 + 6)]) rfl ?_
  refine lv_iload_n F.1 F.2.1 dd_Ledger_ctor_74 rfl (lv_at hl 0 rfl) ?_
  refine zx_new (k := 35) (f := va_up (va_up (f) (6) (.inl (G.2 3, 8, .inr (.inr (.inr (.inr (zx_rf (b0 + (23)) 3 4))))))) (22) (.inl (G.2 4, 3, .inr (.inr (.inr (.inr (zx_rf (b0 + (47)) 14 0))))))) (fs := [.null, .null]) zy_Store F hE hP hz hS rfl zi_Store zj_Store wq_Ledger_9 wi_Store wj_Store zx_fs_Store (Nat.le_of_ble_eq_true rfl) (Nat.le_of_ble_eq_true rfl) dd_Ledger_ctor_75 (cells' := 33) (slots' := 1858) rfl rfl (fun H (hP : va_P G.1 zw_cl (zw_l b0 (36) (va_up (va_up (va_up (f) (6) (.inl (G.2 3, 8, .inr (.inr (.inr (.inr (zx_rf (b0 + (23)) 3 4))))))) (22) (.inl (G.2 4, 3, .inr (.inr (.inr (.inr (zx_rf (b0 + (47)) 14 0))))))) (35) (.inr (2, [.null, .null])))) H) (hz : H.size = b0 + (36)) hS => ?_)
  refine lv_dup F.1 F.2.1 dd_Ledger_ctor_78 rfl ?_
  refine zx_go (k := 35) (n := 3) (f := va_up (va_up (f) (6) (.inl (G.2 3, 8, .inr (.inr (.inr (.inr (zx_rf (b0 + (23)) 3 4))))))) (22) (.inl (G.2 4, 3, .inr (.inr (.inr (.inr (zx_rf (b0 + (47)) 14 0))))))) (zx_runN (k := 35) (f := va_up (va_up (f) (6) (.inl (G.2 3, 8, .inr (.inr (.inr (.inr (zx_rf (b0 + (23)) 3 4))))))) (22) (.inl (G.2 4, 3, .inr (.inr (.inr (.inr (zx_rf (b0 + (47)) 14 0))))))) F hE hO hP hz (zc_Store_ctor lc G b0 35 (va_up (va_up (f) (6) (.inl (G.2 3, 8, .inr (.inr (.inr (.inr (zx_rf (b0 + (23)) 3 4))))))) (22) (.inl (G.2 4, 3, .inr (.inr (.inr (.inr (zx_rf (b0 + (47)) 14 0))))))) ((va_up_ne _ _ (by decide)).trans ((va_up_ne _ _ (by decide)).trans ((hf 35 (by decide) (by decide))))) ((va_up_ne _ _ (by decide)).trans ((va_up_ne _ _ (by decide)).trans ((hf 36 (by decide) (by decide))))) ((va_up_ne _ _ (by decide)).trans ((va_up_ne _ _ (by decide)).trans ((hf 37 (by decide) (by decide)))))) zk_Store_ctor za_Store_ctor rfl wl_Ledger_11 ⟨rfl, rfl, Nat.le_of_ble_eq_true rfl, Nat.le_of_ble_eq_true rfl⟩ hl.1 rfl (Nat.le_of_ble_eq_true rfl) ⟨Nat.le_of_ble_eq_true rfl, Nat.le_of_ble_eq_true rfl⟩ dd_Ledger_ctor_79) hS (fun q h => Nat.le_trans (zx_leC (k := 2) (a := 35) (by decide)) h) (cells' := 35) (slots' := 2086) rfl rfl (fun H locs (hP : va_P G.1 zw_cl (zw_l b0 (38) (va_up (va_up (f) (6) (.inl (G.2 3, 8, .inr (.inr (.inr (.inr (zx_rf (b0 + (23)) 3 4))))))) (22) (.inl (G.2 4, 3, .inr (.inr (.inr (.inr (zx_rf (b0 + (47)) 14 0)))))))) H) (hz : H.size = b0 + (38)) _ hS => ?_)
  refine zx_ast (k := 38) (f := va_up (va_up (f) (6) (.inl (G.2 3, 8, .inr (.inr (.inr (.inr (zx_rf (b0 + (23)) 3 4))))))) (22) (.inl (G.2 4, 3, .inr (.inr (.inr (.inr (zx_rf (b0 + (47)) 14 0))))))) (x := 6) (y := 35) (z := 3) (j := 4) F hE hP hz hS (by decide) (zx_leC (k := 2) (a := 6) (by decide)) ((va_up_ne _ _ (by decide)).trans (va_up_self _ _ _)) rfl (by decide) ((va_up_ne _ _ (by decide)).trans ((va_up_ne _ _ (by decide)).trans ((hf 35 (by decide) (by decide))))) rfl (by decide) (by decide) rfl dd_Ledger_ctor_82 (fun H locs hP (hz : H.size = b0 + (38)) hS => ?_)
  rw [zx_rfs (n := 4) (n' := 5) (zx_rv0 (a := 23) (m := 35) (by decide)) rfl] at hP
  rw [zx_uc (α := va_E) (a := 6) (b := 22) (by decide)] at hP
  rw [zx_uu (α := va_E) (a := 6)] at hP
  refine lv_iinc F.1 F.2.1 dd_Ledger_ctor_83 hl (k := 0) rfl (v := nI 5) (by decide) (by decide) (lv' := [(1, .int (nI 5)), (0, .ref (b0 + 2))]) rfl (fun ls hl => ?_)
  refine lv_goto F.1 F.2.1 dd_Ledger_ctor_86 (tgt := 64) rfl ?_
  refine lv_iload_n F.1 F.2.1 dd_Ledger_ctor_64 rfl (lv_at hl 0 rfl) ?_
  refine lv_bipush (v := nI 8) F.1 F.2.1 dd_Ledger_ctor_65 (by decide) ?_
  refine zn_cge F dd_Ledger_ctor_67 (tgt := 89) rfl (by decide) (by decide) (fun h => absurd h (by decide)) (fun h => ?_)
  refine lv_aload_n F.1 F.2.1 dd_Ledger_ctor_70 rfl (lv_at hl 1 rfl) ?_
  refine zw_gF (n := 38) (f := va_up (va_up (f) (6) (.inl (G.2 3, 8, .inr (.inr (.inr (.inr (zx_rf (b0 + (23)) 3 5))))))) (22) (.inl (G.2 4, 3, .inr (.inr (.inr (.inr (zx_rf (b0 + (47)) 14 0))))))) (x := 2) F hE hP (by decide) ((va_up_ne _ _ (by decide)).trans ((va_up_ne _ _ (by decide)).trans ((hf 2 (by decide) (by decide))))) rfl zi_Ledger 1 (by decide) rfl wf_Ledger_18 rfl dd_Ledger_ctor_71 ?_
  refine W.eq (g2 := F0 m 74 ls [.ref (b0 + 6)]) rfl ?_
  refine lv_iload_n F.1 F.2.1 dd_Ledger_ctor_74 rfl (lv_at hl 0 rfl) ?_
  refine zx_new (k := 38) (f := va_up (va_up (f) (6) (.inl (G.2 3, 8, .inr (.inr (.inr (.inr (zx_rf (b0 + (23)) 3 5))))))) (22) (.inl (G.2 4, 3, .inr (.inr (.inr (.inr (zx_rf (b0 + (47)) 14 0))))))) (fs := [.null, .null]) zy_Store F hE hP hz hS rfl zi_Store zj_Store wq_Ledger_9 wi_Store wj_Store zx_fs_Store (Nat.le_of_ble_eq_true rfl) (Nat.le_of_ble_eq_true rfl) dd_Ledger_ctor_75 (cells' := 36) (slots' := 2088) rfl rfl (fun H (hP : va_P G.1 zw_cl (zw_l b0 (39) (va_up (va_up (va_up (f) (6) (.inl (G.2 3, 8, .inr (.inr (.inr (.inr (zx_rf (b0 + (23)) 3 5))))))) (22) (.inl (G.2 4, 3, .inr (.inr (.inr (.inr (zx_rf (b0 + (47)) 14 0))))))) (38) (.inr (2, [.null, .null])))) H) (hz : H.size = b0 + (39)) hS => ?_)
  refine lv_dup F.1 F.2.1 dd_Ledger_ctor_78 rfl ?_
  refine zx_go (k := 38) (n := 3) (f := va_up (va_up (f) (6) (.inl (G.2 3, 8, .inr (.inr (.inr (.inr (zx_rf (b0 + (23)) 3 5))))))) (22) (.inl (G.2 4, 3, .inr (.inr (.inr (.inr (zx_rf (b0 + (47)) 14 0))))))) (zx_runN (k := 38) (f := va_up (va_up (f) (6) (.inl (G.2 3, 8, .inr (.inr (.inr (.inr (zx_rf (b0 + (23)) 3 5))))))) (22) (.inl (G.2 4, 3, .inr (.inr (.inr (.inr (zx_rf (b0 + (47)) 14 0))))))) F hE hO hP hz (zc_Store_ctor lc G b0 38 (va_up (va_up (f) (6) (.inl (G.2 3, 8, .inr (.inr (.inr (.inr (zx_rf (b0 + (23)) 3 5))))))) (22) (.inl (G.2 4, 3, .inr (.inr (.inr (.inr (zx_rf (b0 + (47)) 14 0))))))) ((va_up_ne _ _ (by decide)).trans ((va_up_ne _ _ (by decide)).trans ((hf 38 (by decide) (by decide))))) ((va_up_ne _ _ (by decide)).trans ((va_up_ne _ _ (by decide)).trans ((hf 39 (by decide) (by decide))))) ((va_up_ne _ _ (by decide)).trans ((va_up_ne _ _ (by decide)).trans ((hf 40 (by decide) (by decide)))))) zk_Store_ctor za_Store_ctor rfl wl_Ledger_11 ⟨rfl, rfl, Nat.le_of_ble_eq_true rfl, Nat.le_of_ble_eq_true rfl⟩ hl.1 rfl (Nat.le_of_ble_eq_true rfl) ⟨Nat.le_of_ble_eq_true rfl, Nat.le_of_ble_eq_true rfl⟩ dd_Ledger_ctor_79) hS (fun q h => Nat.le_trans (zx_leC (k := 2) (a := 38) (by decide)) h) (cells' := 38) (slots' := 2316) rfl rfl (fun H locs (hP : va_P G.1 zw_cl (zw_l b0 (41) (va_up (va_up (f) (6) (.inl (G.2 3, 8, .inr (.inr (.inr (.inr (zx_rf (b0 + (23)) 3 5))))))) (22) (.inl (G.2 4, 3, .inr (.inr (.inr (.inr (zx_rf (b0 + (47)) 14 0)))))))) H) (hz : H.size = b0 + (41)) _ hS => ?_)
  refine zx_ast (k := 41) (f := va_up (va_up (f) (6) (.inl (G.2 3, 8, .inr (.inr (.inr (.inr (zx_rf (b0 + (23)) 3 5))))))) (22) (.inl (G.2 4, 3, .inr (.inr (.inr (.inr (zx_rf (b0 + (47)) 14 0))))))) (x := 6) (y := 38) (z := 3) (j := 5) F hE hP hz hS (by decide) (zx_leC (k := 2) (a := 6) (by decide)) ((va_up_ne _ _ (by decide)).trans (va_up_self _ _ _)) rfl (by decide) ((va_up_ne _ _ (by decide)).trans ((va_up_ne _ _ (by decide)).trans ((hf 38 (by decide) (by decide))))) rfl (by decide) (by decide) rfl dd_Ledger_ctor_82 (fun H locs hP (hz : H.size = b0 + (41)) hS => ?_)
  rw [zx_rfs (n := 5) (n' := 6) (zx_rv0 (a := 23) (m := 38) (by decide)) rfl] at hP
  rw [zx_uc (α := va_E) (a := 6) (b := 22) (by decide)] at hP
  rw [zx_uu (α := va_E) (a := 6)] at hP
  refine lv_iinc F.1 F.2.1 dd_Ledger_ctor_83 hl (k := 0) rfl (v := nI 6) (by decide) (by decide) (lv' := [(1, .int (nI 6)), (0, .ref (b0 + 2))]) rfl (fun ls hl => ?_)
  refine lv_goto F.1 F.2.1 dd_Ledger_ctor_86 (tgt := 64) rfl ?_
  refine lv_iload_n F.1 F.2.1 dd_Ledger_ctor_64 rfl (lv_at hl 0 rfl) ?_
  refine lv_bipush (v := nI 8) F.1 F.2.1 dd_Ledger_ctor_65 (by decide) ?_
  refine zn_cge F dd_Ledger_ctor_67 (tgt := 89) rfl (by decide) (by decide) (fun h => absurd h (by decide)) (fun h => ?_)
  refine lv_aload_n F.1 F.2.1 dd_Ledger_ctor_70 rfl (lv_at hl 1 rfl) ?_
  refine zw_gF (n := 41) (f := va_up (va_up (f) (6) (.inl (G.2 3, 8, .inr (.inr (.inr (.inr (zx_rf (b0 + (23)) 3 6))))))) (22) (.inl (G.2 4, 3, .inr (.inr (.inr (.inr (zx_rf (b0 + (47)) 14 0))))))) (x := 2) F hE hP (by decide) ((va_up_ne _ _ (by decide)).trans ((va_up_ne _ _ (by decide)).trans ((hf 2 (by decide) (by decide))))) rfl zi_Ledger 1 (by decide) rfl wf_Ledger_18 rfl dd_Ledger_ctor_71 ?_
  refine W.eq (g2 := F0 m 74 ls [.ref (b0 + 6)]) rfl ?_
  refine lv_iload_n F.1 F.2.1 dd_Ledger_ctor_74 rfl (lv_at hl 0 rfl) ?_
  refine zx_new (k := 41) (f := va_up (va_up (f) (6) (.inl (G.2 3, 8, .inr (.inr (.inr (.inr (zx_rf (b0 + (23)) 3 6))))))) (22) (.inl (G.2 4, 3, .inr (.inr (.inr (.inr (zx_rf (b0 + (47)) 14 0))))))) (fs := [.null, .null]) zy_Store F hE hP hz hS rfl zi_Store zj_Store wq_Ledger_9 wi_Store wj_Store zx_fs_Store (Nat.le_of_ble_eq_true rfl) (Nat.le_of_ble_eq_true rfl) dd_Ledger_ctor_75 (cells' := 39) (slots' := 2318) rfl rfl (fun H (hP : va_P G.1 zw_cl (zw_l b0 (42) (va_up (va_up (va_up (f) (6) (.inl (G.2 3, 8, .inr (.inr (.inr (.inr (zx_rf (b0 + (23)) 3 6))))))) (22) (.inl (G.2 4, 3, .inr (.inr (.inr (.inr (zx_rf (b0 + (47)) 14 0))))))) (41) (.inr (2, [.null, .null])))) H) (hz : H.size = b0 + (42)) hS => ?_)
  refine lv_dup F.1 F.2.1 dd_Ledger_ctor_78 rfl ?_
  refine zx_go (k := 41) (n := 3) (f := va_up (va_up (f) (6) (.inl (G.2 3, 8, .inr (.inr (.inr (.inr (zx_rf (b0 + (23)) 3 6))))))) (22) (.inl (G.2 4, 3, .inr (.inr (.inr (.inr (zx_rf (b0 + (47)) 14 0))))))) (zx_runN (k := 41) (f := va_up (va_up (f) (6) (.inl (G.2 3, 8, .inr (.inr (.inr (.inr (zx_rf (b0 + (23)) 3 6))))))) (22) (.inl (G.2 4, 3, .inr (.inr (.inr (.inr (zx_rf (b0 + (47)) 14 0))))))) F hE hO hP hz (zc_Store_ctor lc G b0 41 (va_up (va_up (f) (6) (.inl (G.2 3, 8, .inr (.inr (.inr (.inr (zx_rf (b0 + (23)) 3 6))))))) (22) (.inl (G.2 4, 3, .inr (.inr (.inr (.inr (zx_rf (b0 + (47)) 14 0))))))) ((va_up_ne _ _ (by decide)).trans ((va_up_ne _ _ (by decide)).trans ((hf 41 (by decide) (by decide))))) ((va_up_ne _ _ (by decide)).trans ((va_up_ne _ _ (by decide)).trans ((hf 42 (by decide) (by decide))))) ((va_up_ne _ _ (by decide)).trans ((va_up_ne _ _ (by decide)).trans ((hf 43 (by decide) (by decide)))))) zk_Store_ctor za_Store_ctor rfl wl_Ledger_11 ⟨rfl, rfl, Nat.le_of_ble_eq_true rfl, Nat.le_of_ble_eq_true rfl⟩ hl.1 rfl (Nat.le_of_ble_eq_true rfl) ⟨Nat.le_of_ble_eq_true rfl, Nat.le_of_ble_eq_true rfl⟩ dd_Ledger_ctor_79) hS (fun q h => Nat.le_trans (zx_leC (k := 2) (a := 41) (by decide)) h) (cells' := 41) (slots' := 2546) rfl rfl (fun H locs (hP : va_P G.1 zw_cl (zw_l b0 (44) (va_up (va_up (f) (6) (.inl (G.2 3, 8, .inr (.inr (.inr (.inr (zx_rf (b0 + (23)) 3 6))))))) (22) (.inl (G.2 4, 3, .inr (.inr (.inr (.inr (zx_rf (b0 + (47)) 14 0)))))))) H) (hz : H.size = b0 + (44)) _ hS => ?_)
  refine zx_ast (k := 44) (f := va_up (va_up (f) (6) (.inl (G.2 3, 8, .inr (.inr (.inr (.inr (zx_rf (b0 + (23)) 3 6))))))) (22) (.inl (G.2 4, 3, .inr (.inr (.inr (.inr (zx_rf (b0 + (47)) 14 0))))))) (x := 6) (y := 41) (z := 3) (j := 6) F hE hP hz hS (by decide) (zx_leC (k := 2) (a := 6) (by decide)) ((va_up_ne _ _ (by decide)).trans (va_up_self _ _ _)) rfl (by decide) ((va_up_ne _ _ (by decide)).trans ((va_up_ne _ _ (by decide)).trans ((hf 41 (by decide) (by decide))))) rfl (by decide) (by decide) rfl dd_Ledger_ctor_82 (fun H locs hP (hz : H.size = b0 + (44)) hS => ?_)
  rw [zx_rfs (n := 6) (n' := 7) (zx_rv0 (a := 23) (m := 41) (by decide)) rfl] at hP
  rw [zx_uc (α := va_E) (a := 6) (b := 22) (by decide)] at hP
  rw [zx_uu (α := va_E) (a := 6)] at hP
  refine lv_iinc F.1 F.2.1 dd_Ledger_ctor_83 hl (k := 0) rfl (v := nI 7) (by decide) (by decide) (lv' := [(1, .int (nI 7)), (0, .ref (b0 + 2))]) rfl (fun ls hl => ?_)
  refine lv_goto F.1 F.2.1 dd_Ledger_ctor_86 (tgt := 64) rfl ?_
  refine lv_iload_n F.1 F.2.1 dd_Ledger_ctor_64 rfl (lv_at hl 0 rfl) ?_
  refine lv_bipush (v := nI 8) F.1 F.2.1 dd_Ledger_ctor_65 (by decide) ?_
  refine zn_cge F dd_Ledger_ctor_67 (tgt := 89) rfl (by decide) (by decide) (fun h => absurd h (by decide)) (fun h => ?_)
  refine lv_aload_n F.1 F.2.1 dd_Ledger_ctor_70 rfl (lv_at hl 1 rfl) ?_
  refine zw_gF (n := 44) (f := va_up (va_up (f) (6) (.inl (G.2 3, 8, .inr (.inr (.inr (.inr (zx_rf (b0 + (23)) 3 7))))))) (22) (.inl (G.2 4, 3, .inr (.inr (.inr (.inr (zx_rf (b0 + (47)) 14 0))))))) (x := 2) F hE hP (by decide) ((va_up_ne _ _ (by decide)).trans ((va_up_ne _ _ (by decide)).trans ((hf 2 (by decide) (by decide))))) rfl zi_Ledger 1 (by decide) rfl wf_Ledger_18 rfl dd_Ledger_ctor_71 ?_
  refine W.eq (g2 := F0 m 74 ls [.ref (b0 + 6)]) rfl ?_
  refine lv_iload_n F.1 F.2.1 dd_Ledger_ctor_74 rfl (lv_at hl 0 rfl) ?_
  refine zx_new (k := 44) (f := va_up (va_up (f) (6) (.inl (G.2 3, 8, .inr (.inr (.inr (.inr (zx_rf (b0 + (23)) 3 7))))))) (22) (.inl (G.2 4, 3, .inr (.inr (.inr (.inr (zx_rf (b0 + (47)) 14 0))))))) (fs := [.null, .null]) zy_Store F hE hP hz hS rfl zi_Store zj_Store wq_Ledger_9 wi_Store wj_Store zx_fs_Store (Nat.le_of_ble_eq_true rfl) (Nat.le_of_ble_eq_true rfl) dd_Ledger_ctor_75 (cells' := 42) (slots' := 2548) rfl rfl (fun H (hP : va_P G.1 zw_cl (zw_l b0 (45) (va_up (va_up (va_up (f) (6) (.inl (G.2 3, 8, .inr (.inr (.inr (.inr (zx_rf (b0 + (23)) 3 7))))))) (22) (.inl (G.2 4, 3, .inr (.inr (.inr (.inr (zx_rf (b0 + (47)) 14 0))))))) (44) (.inr (2, [.null, .null])))) H) (hz : H.size = b0 + (45)) hS => ?_)
  refine lv_dup F.1 F.2.1 dd_Ledger_ctor_78 rfl ?_
  refine zx_go (k := 44) (n := 3) (f := va_up (va_up (f) (6) (.inl (G.2 3, 8, .inr (.inr (.inr (.inr (zx_rf (b0 + (23)) 3 7))))))) (22) (.inl (G.2 4, 3, .inr (.inr (.inr (.inr (zx_rf (b0 + (47)) 14 0))))))) (zx_runN (k := 44) (f := va_up (va_up (f) (6) (.inl (G.2 3, 8, .inr (.inr (.inr (.inr (zx_rf (b0 + (23)) 3 7))))))) (22) (.inl (G.2 4, 3, .inr (.inr (.inr (.inr (zx_rf (b0 + (47)) 14 0))))))) F hE hO hP hz (zc_Store_ctor lc G b0 44 (va_up (va_up (f) (6) (.inl (G.2 3, 8, .inr (.inr (.inr (.inr (zx_rf (b0 + (23)) 3 7))))))) (22) (.inl (G.2 4, 3, .inr (.inr (.inr (.inr (zx_rf (b0 + (47)) 14 0))))))) ((va_up_ne _ _ (by decide)).trans ((va_up_ne _ _ (by decide)).trans ((hf 44 (by decide) (by decide))))) ((va_up_ne _ _ (by decide)).trans ((va_up_ne _ _ (by decide)).trans ((hf 45 (by decide) (by decide))))) ((va_up_ne _ _ (by decide)).trans ((va_up_ne _ _ (by decide)).trans ((hf 46 (by decide) (by decide)))))) zk_Store_ctor za_Store_ctor rfl wl_Ledger_11 ⟨rfl, rfl, Nat.le_of_ble_eq_true rfl, Nat.le_of_ble_eq_true rfl⟩ hl.1 rfl (Nat.le_of_ble_eq_true rfl) ⟨Nat.le_of_ble_eq_true rfl, Nat.le_of_ble_eq_true rfl⟩ dd_Ledger_ctor_79) hS (fun q h => Nat.le_trans (zx_leC (k := 2) (a := 44) (by decide)) h) (cells' := 44) (slots' := 2776) rfl rfl (fun H locs (hP : va_P G.1 zw_cl (zw_l b0 (47) (va_up (va_up (f) (6) (.inl (G.2 3, 8, .inr (.inr (.inr (.inr (zx_rf (b0 + (23)) 3 7))))))) (22) (.inl (G.2 4, 3, .inr (.inr (.inr (.inr (zx_rf (b0 + (47)) 14 0)))))))) H) (hz : H.size = b0 + (47)) _ hS => ?_)
  refine zx_ast (k := 47) (f := va_up (va_up (f) (6) (.inl (G.2 3, 8, .inr (.inr (.inr (.inr (zx_rf (b0 + (23)) 3 7))))))) (22) (.inl (G.2 4, 3, .inr (.inr (.inr (.inr (zx_rf (b0 + (47)) 14 0))))))) (x := 6) (y := 44) (z := 3) (j := 7) F hE hP hz hS (by decide) (zx_leC (k := 2) (a := 6) (by decide)) ((va_up_ne _ _ (by decide)).trans (va_up_self _ _ _)) rfl (by decide) ((va_up_ne _ _ (by decide)).trans ((va_up_ne _ _ (by decide)).trans ((hf 44 (by decide) (by decide))))) rfl (by decide) (by decide) rfl dd_Ledger_ctor_82 (fun H locs hP (hz : H.size = b0 + (47)) hS => ?_)
  rw [zx_rfs (n := 7) (n' := 8) (zx_rv0 (a := 23) (m := 44) (by decide)) rfl] at hP
  rw [zx_uc (α := va_E) (a := 6) (b := 22) (by decide)] at hP
  rw [zx_uu (α := va_E) (a := 6)] at hP
  have hP := zx_refs (x := 6) (g' := fun k => some (b0 + zp_o 3 0 (k + 1))) hP ((va_up_ne _ _ (by decide)).trans (va_up_self _ _ _)) (fun j hj => by
      match j, hj with
      | 0, _ => rfl
      | 1, _ => rfl
      | 2, _ => rfl
      | 3, _ => rfl
      | 4, _ => rfl
      | 5, _ => rfl
      | 6, _ => rfl
      | 7, _ => rfl
      | q + 8, h => exact absurd h (Nat.not_lt.mpr (Nat.le_add_left _ q)))
  rw [zx_uc (α := va_E) (a := 6) (b := 22) (by decide)] at hP
  rw [zx_uu (α := va_E) (a := 6)] at hP
  rw [zx_id (α := va_E) (f := f) (a := 6) (e := .inl (G.2 3, 8, .inr (.inr (.inr (.inr (fun k => some (b0 + zp_o 3 0 (k + 1)))))))) ((hf 6 (by decide) (by decide)))] at hP
  refine lv_iinc F.1 F.2.1 dd_Ledger_ctor_83 hl (k := 0) rfl (v := nI 8) (by decide) (by decide) (lv' := [(1, .int (nI 8)), (0, .ref (b0 + 2))]) rfl (fun ls hl => ?_)
  refine lv_goto F.1 F.2.1 dd_Ledger_ctor_86 (tgt := 64) rfl ?_
  refine lv_iload_n F.1 F.2.1 dd_Ledger_ctor_64 rfl (lv_at hl 0 rfl) ?_
  refine lv_bipush (v := nI 8) F.1 F.2.1 dd_Ledger_ctor_65 (by decide) ?_
  refine zn_cge F dd_Ledger_ctor_67 (tgt := 89) rfl (by decide) (by decide) (fun h => ?_) (fun h => absurd h (by decide))
  refine lv_iconst (v := nI 0) F.1 F.2.1 dd_Ledger_ctor_89 (by decide) ?_
  refine lv_istore_n F.1 F.2.1 dd_Ledger_ctor_90 rfl hl (by decide) (lv' := [(1, .int (nI 0)), (0, .ref (b0 + 2))]) rfl (fun ls hl => ?_)
  refine lv_iload_n F.1 F.2.1 dd_Ledger_ctor_91 rfl (lv_at hl 0 rfl) ?_
  refine lv_iconst (v := nI 3) F.1 F.2.1 dd_Ledger_ctor_92 (by decide) ?_
  refine zn_cge F dd_Ledger_ctor_93 (tgt := 115) rfl (by decide) (by decide) (fun h => absurd h (by decide)) (fun h => ?_)
  refine lv_aload_n F.1 F.2.1 dd_Ledger_ctor_96 rfl (lv_at hl 1 rfl) ?_
  refine zw_gF (n := 47) (f := va_up (f) (22) (.inl (G.2 4, 3, .inr (.inr (.inr (.inr (zx_rf (b0 + (47)) 14 0))))))) (x := 2) F hE hP (by decide) ((va_up_ne _ _ (by decide)).trans ((hf 2 (by decide) (by decide)))) rfl zi_Ledger 5 (by decide) rfl wf_Ledger_42 rfl dd_Ledger_ctor_97 ?_
  refine W.eq (g2 := F0 m 100 ls [.ref (b0 + 22)]) rfl ?_
  refine lv_iload_n F.1 F.2.1 dd_Ledger_ctor_100 rfl (lv_at hl 0 rfl) ?_
  refine zx_new (k := 47) (f := va_up (f) (22) (.inl (G.2 4, 3, .inr (.inr (.inr (.inr (zx_rf (b0 + (47)) 14 0))))))) (fs := [.null, .int 0, .int 0]) zy_End F hE hP hz hS rfl zi_End zj_End wq_Ledger_40 wi_End wj_End zx_fs_End (Nat.le_of_ble_eq_true rfl) (Nat.le_of_ble_eq_true rfl) dd_Ledger_ctor_101 (cells' := 45) (slots' := 2779) rfl rfl (fun H (hP : va_P G.1 zw_cl (zw_l b0 (48) (va_up (va_up (f) (22) (.inl (G.2 4, 3, .inr (.inr (.inr (.inr (zx_rf (b0 + (47)) 14 0))))))) (47) (.inr (5, [.null, .int 0, .int 0])))) H) (hz : H.size = b0 + (48)) hS => ?_)
  refine lv_dup F.1 F.2.1 dd_Ledger_ctor_104 rfl ?_
  refine zx_go (k := 47) (n := 14) (f := va_up (f) (22) (.inl (G.2 4, 3, .inr (.inr (.inr (.inr (zx_rf (b0 + (47)) 14 0))))))) (zx_run (k := 47) (f := va_up (f) (22) (.inl (G.2 4, 3, .inr (.inr (.inr (.inr (zx_rf (b0 + (47)) 14 0))))))) F hE hO hP hz (zc_End_ctor lc G b0 47 (fun k => some (b0 + zp_o 20 0 (12 * 0 + k))) (va_up (f) (22) (.inl (G.2 4, 3, .inr (.inr (.inr (.inr (zx_rf (b0 + (47)) 14 0))))))) ((va_up_ne _ _ (by decide)).trans ((hf 47 (by decide) (by decide)))) ((va_up_ne _ _ (by decide)).trans ((hf 48 (by decide) (by decide)))) (fun j hj => by
      match j, hj with
      | 0, _ => exact ((va_up_ne _ _ (by decide)).trans ((hf 49 (by decide) (by decide))))
      | 1, _ => exact ((va_up_ne _ _ (by decide)).trans ((hf 50 (by decide) (by decide))))
      | 2, _ => exact ((va_up_ne _ _ (by decide)).trans ((hf 51 (by decide) (by decide))))
      | 3, _ => exact ((va_up_ne _ _ (by decide)).trans ((hf 52 (by decide) (by decide))))
      | 4, _ => exact ((va_up_ne _ _ (by decide)).trans ((hf 53 (by decide) (by decide))))
      | 5, _ => exact ((va_up_ne _ _ (by decide)).trans ((hf 54 (by decide) (by decide))))
      | 6, _ => exact ((va_up_ne _ _ (by decide)).trans ((hf 55 (by decide) (by decide))))
      | 7, _ => exact ((va_up_ne _ _ (by decide)).trans ((hf 56 (by decide) (by decide))))
      | 8, _ => exact ((va_up_ne _ _ (by decide)).trans ((hf 57 (by decide) (by decide))))
      | 9, _ => exact ((va_up_ne _ _ (by decide)).trans ((hf 58 (by decide) (by decide))))
      | 10, _ => exact ((va_up_ne _ _ (by decide)).trans ((hf 59 (by decide) (by decide))))
      | 11, _ => exact ((va_up_ne _ _ (by decide)).trans ((hf 60 (by decide) (by decide))))
      | q + 12, h => exact absurd h (Nat.not_lt.mpr (Nat.le_add_left _ q))) (fun j hj => by
      match j, hj with
      | 0, _ => rfl
      | 1, _ => rfl
      | 2, _ => rfl
      | 3, _ => rfl
      | 4, _ => rfl
      | 5, _ => rfl
      | 6, _ => rfl
      | 7, _ => rfl
      | 8, _ => rfl
      | 9, _ => rfl
      | 10, _ => rfl
      | 11, _ => rfl
      | q + 12, h => exact absurd h (Nat.not_lt.mpr (Nat.le_add_left _ q)))) zk_End_ctor za_End_ctor rfl wl_Ledger_46 ⟨rfl, rfl, Nat.le_of_ble_eq_true rfl, Nat.le_of_ble_eq_true rfl⟩ hl.1 rfl (Nat.le_of_ble_eq_true rfl) ⟨Nat.le_of_ble_eq_true rfl, Nat.le_of_ble_eq_true rfl⟩ dd_Ledger_ctor_105) hS (fun q h => Nat.le_trans (zx_leC (k := 2) (a := 47) (by decide)) h) (cells' := 58) (slots' := 2875) rfl rfl (fun H locs (hP : va_P G.1 zw_cl (zw_l b0 (61) (va_up (f) (22) (.inl (G.2 4, 3, .inr (.inr (.inr (.inr (zx_rf (b0 + (47)) 14 0)))))))) H) (hz : H.size = b0 + (61)) _ hS => ?_)
  refine zx_ast (k := 61) (f := va_up (f) (22) (.inl (G.2 4, 3, .inr (.inr (.inr (.inr (zx_rf (b0 + (47)) 14 0))))))) (x := 22) (y := 47) (z := 4) (j := 0) F hE hP hz hS (by decide) (zx_leC (k := 2) (a := 22) (by decide)) (va_up_self _ _ _) rfl (by decide) ((va_up_ne _ _ (by decide)).trans ((hf 47 (by decide) (by decide)))) rfl (by decide) (by decide) rfl dd_Ledger_ctor_108 (fun H locs hP (hz : H.size = b0 + (61)) hS => ?_)
  rw [zx_rfs (n := 0) (n' := 1) (zx_rv0 (a := 47) (m := 47) (by decide)) rfl] at hP
  rw [zx_uu (α := va_E) (a := 22)] at hP
  refine lv_iinc F.1 F.2.1 dd_Ledger_ctor_109 hl (k := 0) rfl (v := nI 1) (by decide) (by decide) (lv' := [(1, .int (nI 1)), (0, .ref (b0 + 2))]) rfl (fun ls hl => ?_)
  refine lv_goto F.1 F.2.1 dd_Ledger_ctor_112 (tgt := 91) rfl ?_
  refine lv_iload_n F.1 F.2.1 dd_Ledger_ctor_91 rfl (lv_at hl 0 rfl) ?_
  refine lv_iconst (v := nI 3) F.1 F.2.1 dd_Ledger_ctor_92 (by decide) ?_
  refine zn_cge F dd_Ledger_ctor_93 (tgt := 115) rfl (by decide) (by decide) (fun h => absurd h (by decide)) (fun h => ?_)
  refine lv_aload_n F.1 F.2.1 dd_Ledger_ctor_96 rfl (lv_at hl 1 rfl) ?_
  refine zw_gF (n := 61) (f := va_up (f) (22) (.inl (G.2 4, 3, .inr (.inr (.inr (.inr (zx_rf (b0 + (47)) 14 1))))))) (x := 2) F hE hP (by decide) ((va_up_ne _ _ (by decide)).trans ((hf 2 (by decide) (by decide)))) rfl zi_Ledger 5 (by decide) rfl wf_Ledger_42 rfl dd_Ledger_ctor_97 ?_
  refine W.eq (g2 := F0 m 100 ls [.ref (b0 + 22)]) rfl ?_
  refine lv_iload_n F.1 F.2.1 dd_Ledger_ctor_100 rfl (lv_at hl 0 rfl) ?_
  refine zx_new (k := 61) (f := va_up (f) (22) (.inl (G.2 4, 3, .inr (.inr (.inr (.inr (zx_rf (b0 + (47)) 14 1))))))) (fs := [.null, .int 0, .int 0]) zy_End F hE hP hz hS rfl zi_End zj_End wq_Ledger_40 wi_End wj_End zx_fs_End (Nat.le_of_ble_eq_true rfl) (Nat.le_of_ble_eq_true rfl) dd_Ledger_ctor_101 (cells' := 59) (slots' := 2878) rfl rfl (fun H (hP : va_P G.1 zw_cl (zw_l b0 (62) (va_up (va_up (f) (22) (.inl (G.2 4, 3, .inr (.inr (.inr (.inr (zx_rf (b0 + (47)) 14 1))))))) (61) (.inr (5, [.null, .int 0, .int 0])))) H) (hz : H.size = b0 + (62)) hS => ?_)
  refine lv_dup F.1 F.2.1 dd_Ledger_ctor_104 rfl ?_
  refine zx_go (k := 61) (n := 14) (f := va_up (f) (22) (.inl (G.2 4, 3, .inr (.inr (.inr (.inr (zx_rf (b0 + (47)) 14 1))))))) (zx_run (k := 61) (f := va_up (f) (22) (.inl (G.2 4, 3, .inr (.inr (.inr (.inr (zx_rf (b0 + (47)) 14 1))))))) F hE hO hP hz (zc_End_ctor lc G b0 61 (fun k => some (b0 + zp_o 20 0 (12 * 1 + k))) (va_up (f) (22) (.inl (G.2 4, 3, .inr (.inr (.inr (.inr (zx_rf (b0 + (47)) 14 1))))))) ((va_up_ne _ _ (by decide)).trans ((hf 61 (by decide) (by decide)))) ((va_up_ne _ _ (by decide)).trans ((hf 62 (by decide) (by decide)))) (fun j hj => by
      match j, hj with
      | 0, _ => exact ((va_up_ne _ _ (by decide)).trans ((hf 63 (by decide) (by decide))))
      | 1, _ => exact ((va_up_ne _ _ (by decide)).trans ((hf 64 (by decide) (by decide))))
      | 2, _ => exact ((va_up_ne _ _ (by decide)).trans ((hf 65 (by decide) (by decide))))
      | 3, _ => exact ((va_up_ne _ _ (by decide)).trans ((hf 66 (by decide) (by decide))))
      | 4, _ => exact ((va_up_ne _ _ (by decide)).trans ((hf 67 (by decide) (by decide))))
      | 5, _ => exact ((va_up_ne _ _ (by decide)).trans ((hf 68 (by decide) (by decide))))
      | 6, _ => exact ((va_up_ne _ _ (by decide)).trans ((hf 69 (by decide) (by decide))))
      | 7, _ => exact ((va_up_ne _ _ (by decide)).trans ((hf 70 (by decide) (by decide))))
      | 8, _ => exact ((va_up_ne _ _ (by decide)).trans ((hf 71 (by decide) (by decide))))
      | 9, _ => exact ((va_up_ne _ _ (by decide)).trans ((hf 72 (by decide) (by decide))))
      | 10, _ => exact ((va_up_ne _ _ (by decide)).trans ((hf 73 (by decide) (by decide))))
      | 11, _ => exact ((va_up_ne _ _ (by decide)).trans ((hf 74 (by decide) (by decide))))
      | q + 12, h => exact absurd h (Nat.not_lt.mpr (Nat.le_add_left _ q))) (fun j hj => by
      match j, hj with
      | 0, _ => rfl
      | 1, _ => rfl
      | 2, _ => rfl
      | 3, _ => rfl
      | 4, _ => rfl
      | 5, _ => rfl
      | 6, _ => rfl
      | 7, _ => rfl
      | 8, _ => rfl
      | 9, _ => rfl
      | 10, _ => rfl
      | 11, _ => rfl
      | q + 12, h => exact absurd h (Nat.not_lt.mpr (Nat.le_add_left _ q)))) zk_End_ctor za_End_ctor rfl wl_Ledger_46 ⟨rfl, rfl, Nat.le_of_ble_eq_true rfl, Nat.le_of_ble_eq_true rfl⟩ hl.1 rfl (Nat.le_of_ble_eq_true rfl) ⟨Nat.le_of_ble_eq_true rfl, Nat.le_of_ble_eq_true rfl⟩ dd_Ledger_ctor_105) hS (fun q h => Nat.le_trans (zx_leC (k := 2) (a := 61) (by decide)) h) (cells' := 72) (slots' := 2974) rfl rfl (fun H locs (hP : va_P G.1 zw_cl (zw_l b0 (75) (va_up (f) (22) (.inl (G.2 4, 3, .inr (.inr (.inr (.inr (zx_rf (b0 + (47)) 14 1)))))))) H) (hz : H.size = b0 + (75)) _ hS => ?_)
  refine zx_ast (k := 75) (f := va_up (f) (22) (.inl (G.2 4, 3, .inr (.inr (.inr (.inr (zx_rf (b0 + (47)) 14 1))))))) (x := 22) (y := 61) (z := 4) (j := 1) F hE hP hz hS (by decide) (zx_leC (k := 2) (a := 22) (by decide)) (va_up_self _ _ _) rfl (by decide) ((va_up_ne _ _ (by decide)).trans ((hf 61 (by decide) (by decide)))) rfl (by decide) (by decide) rfl dd_Ledger_ctor_108 (fun H locs hP (hz : H.size = b0 + (75)) hS => ?_)
  rw [zx_rfs (n := 1) (n' := 2) (zx_rv0 (a := 47) (m := 61) (by decide)) rfl] at hP
  rw [zx_uu (α := va_E) (a := 22)] at hP
  refine lv_iinc F.1 F.2.1 dd_Ledger_ctor_109 hl (k := 0) rfl (v := nI 2) (by decide) (by decide) (lv' := [(1, .int (nI 2)), (0, .ref (b0 + 2))]) rfl (fun ls hl => ?_)
  refine lv_goto F.1 F.2.1 dd_Ledger_ctor_112 (tgt := 91) rfl ?_
  refine lv_iload_n F.1 F.2.1 dd_Ledger_ctor_91 rfl (lv_at hl 0 rfl) ?_
  refine lv_iconst (v := nI 3) F.1 F.2.1 dd_Ledger_ctor_92 (by decide) ?_
  refine zn_cge F dd_Ledger_ctor_93 (tgt := 115) rfl (by decide) (by decide) (fun h => absurd h (by decide)) (fun h => ?_)
  refine lv_aload_n F.1 F.2.1 dd_Ledger_ctor_96 rfl (lv_at hl 1 rfl) ?_
  refine zw_gF (n := 75) (f := va_up (f) (22) (.inl (G.2 4, 3, .inr (.inr (.inr (.inr (zx_rf (b0 + (47)) 14 2))))))) (x := 2) F hE hP (by decide) ((va_up_ne _ _ (by decide)).trans ((hf 2 (by decide) (by decide)))) rfl zi_Ledger 5 (by decide) rfl wf_Ledger_42 rfl dd_Ledger_ctor_97 ?_
  refine W.eq (g2 := F0 m 100 ls [.ref (b0 + 22)]) rfl ?_
  refine lv_iload_n F.1 F.2.1 dd_Ledger_ctor_100 rfl (lv_at hl 0 rfl) ?_
  refine zx_new (k := 75) (f := va_up (f) (22) (.inl (G.2 4, 3, .inr (.inr (.inr (.inr (zx_rf (b0 + (47)) 14 2))))))) (fs := [.null, .int 0, .int 0]) zy_End F hE hP hz hS rfl zi_End zj_End wq_Ledger_40 wi_End wj_End zx_fs_End (Nat.le_of_ble_eq_true rfl) (Nat.le_of_ble_eq_true rfl) dd_Ledger_ctor_101 (cells' := 73) (slots' := 2977) rfl rfl (fun H (hP : va_P G.1 zw_cl (zw_l b0 (76) (va_up (va_up (f) (22) (.inl (G.2 4, 3, .inr (.inr (.inr (.inr (zx_rf (b0 + (47)) 14 2))))))) (75) (.inr (5, [.null, .int 0, .int 0])))) H) (hz : H.size = b0 + (76)) hS => ?_)
  refine lv_dup F.1 F.2.1 dd_Ledger_ctor_104 rfl ?_
  refine zx_go (k := 75) (n := 14) (f := va_up (f) (22) (.inl (G.2 4, 3, .inr (.inr (.inr (.inr (zx_rf (b0 + (47)) 14 2))))))) (zx_run (k := 75) (f := va_up (f) (22) (.inl (G.2 4, 3, .inr (.inr (.inr (.inr (zx_rf (b0 + (47)) 14 2))))))) F hE hO hP hz (zc_End_ctor lc G b0 75 (fun k => some (b0 + zp_o 20 0 (12 * 2 + k))) (va_up (f) (22) (.inl (G.2 4, 3, .inr (.inr (.inr (.inr (zx_rf (b0 + (47)) 14 2))))))) ((va_up_ne _ _ (by decide)).trans ((hf 75 (by decide) (by decide)))) ((va_up_ne _ _ (by decide)).trans ((hf 76 (by decide) (by decide)))) (fun j hj => by
      match j, hj with
      | 0, _ => exact ((va_up_ne _ _ (by decide)).trans ((hf 77 (by decide) (by decide))))
      | 1, _ => exact ((va_up_ne _ _ (by decide)).trans ((hf 78 (by decide) (by decide))))
      | 2, _ => exact ((va_up_ne _ _ (by decide)).trans ((hf 79 (by decide) (by decide))))
      | 3, _ => exact ((va_up_ne _ _ (by decide)).trans ((hf 80 (by decide) (by decide))))
      | 4, _ => exact ((va_up_ne _ _ (by decide)).trans ((hf 81 (by decide) (by decide))))
      | 5, _ => exact ((va_up_ne _ _ (by decide)).trans ((hf 82 (by decide) (by decide))))
      | 6, _ => exact ((va_up_ne _ _ (by decide)).trans ((hf 83 (by decide) (by decide))))
      | 7, _ => exact ((va_up_ne _ _ (by decide)).trans ((hf 84 (by decide) (by decide))))
      | 8, _ => exact ((va_up_ne _ _ (by decide)).trans ((hf 85 (by decide) (by decide))))
      | 9, _ => exact ((va_up_ne _ _ (by decide)).trans ((hf 86 (by decide) (by decide))))
      | 10, _ => exact ((va_up_ne _ _ (by decide)).trans ((hf 87 (by decide) (by decide))))
      | 11, _ => exact ((va_up_ne _ _ (by decide)).trans ((hf 88 (by decide) (by decide))))
      | q + 12, h => exact absurd h (Nat.not_lt.mpr (Nat.le_add_left _ q))) (fun j hj => by
      match j, hj with
      | 0, _ => rfl
      | 1, _ => rfl
      | 2, _ => rfl
      | 3, _ => rfl
      | 4, _ => rfl
      | 5, _ => rfl
      | 6, _ => rfl
      | 7, _ => rfl
      | 8, _ => rfl
      | 9, _ => rfl
      | 10, _ => rfl
      | 11, _ => rfl
      | q + 12, h => exact absurd h (Nat.not_lt.mpr (Nat.le_add_left _ q)))) zk_End_ctor za_End_ctor rfl wl_Ledger_46 ⟨rfl, rfl, Nat.le_of_ble_eq_true rfl, Nat.le_of_ble_eq_true rfl⟩ hl.1 rfl (Nat.le_of_ble_eq_true rfl) ⟨Nat.le_of_ble_eq_true rfl, Nat.le_of_ble_eq_true rfl⟩ dd_Ledger_ctor_105) hS (fun q h => Nat.le_trans (zx_leC (k := 2) (a := 75) (by decide)) h) (cells' := 86) (slots' := 3073) rfl rfl (fun H locs (hP : va_P G.1 zw_cl (zw_l b0 (89) (va_up (f) (22) (.inl (G.2 4, 3, .inr (.inr (.inr (.inr (zx_rf (b0 + (47)) 14 2)))))))) H) (hz : H.size = b0 + (89)) _ hS => ?_)
  refine zx_ast (k := 89) (f := va_up (f) (22) (.inl (G.2 4, 3, .inr (.inr (.inr (.inr (zx_rf (b0 + (47)) 14 2))))))) (x := 22) (y := 75) (z := 4) (j := 2) F hE hP hz hS (by decide) (zx_leC (k := 2) (a := 22) (by decide)) (va_up_self _ _ _) rfl (by decide) ((va_up_ne _ _ (by decide)).trans ((hf 75 (by decide) (by decide)))) rfl (by decide) (by decide) rfl dd_Ledger_ctor_108 (fun H locs hP (hz : H.size = b0 + (89)) hS => ?_)
  rw [zx_rfs (n := 2) (n' := 3) (zx_rv0 (a := 47) (m := 75) (by decide)) rfl] at hP
  rw [zx_uu (α := va_E) (a := 22)] at hP
  have hP := zx_refs (x := 22) (g' := fun k => some (b0 + zp_o 18 0 k)) hP (va_up_self _ _ _) (fun j hj => by
      match j, hj with
      | 0, _ => rfl
      | 1, _ => rfl
      | 2, _ => rfl
      | q + 3, h => exact absurd h (Nat.not_lt.mpr (Nat.le_add_left _ q)))
  rw [zx_uu (α := va_E) (a := 22)] at hP
  rw [zx_id (α := va_E) (f := f) (a := 22) (e := .inl (G.2 4, 3, .inr (.inr (.inr (.inr (fun k => some (b0 + zp_o 18 0 k))))))) ((hf 22 (by decide) (by decide)))] at hP
  refine lv_iinc F.1 F.2.1 dd_Ledger_ctor_109 hl (k := 0) rfl (v := nI 3) (by decide) (by decide) (lv' := [(1, .int (nI 3)), (0, .ref (b0 + 2))]) rfl (fun ls hl => ?_)
  refine lv_goto F.1 F.2.1 dd_Ledger_ctor_112 (tgt := 91) rfl ?_
  refine lv_iload_n F.1 F.2.1 dd_Ledger_ctor_91 rfl (lv_at hl 0 rfl) ?_
  refine lv_iconst (v := nI 3) F.1 F.2.1 dd_Ledger_ctor_92 (by decide) ?_
  refine zn_cge F dd_Ledger_ctor_93 (tgt := 115) rfl (by decide) (by decide) (fun h => ?_) (fun h => absurd h (by decide))
  exact zx_vret (k := 2) (n := 87) F hr hlk hP hz hS rfl (fun _ _ => rfl) dd_Ledger_ctor_115
