set_option maxHeartbeats 4000000 in
set_option maxRecDepth 100000 in
theorem zc_TL_ctor (lc : Launch) (G : zw_G) (b0 : Nat) (x : Int32) (f : Nat → va_E) (hf : ∀ q, q < 176 → f q = zp_p G b0 (zs_0 (zs_pt x)) q) : zx_M lc ym_TL_ctor bm_TL_ctor 3 { frames := 4, cells := 175, slots := 6162, locals := 86 } G b0 (0) 176 (.inr (0, [.int 0, .null])) f [.ref (b0 + 0), .int x] 175 6162 := by
  refine zx_of (by decide) (Nat.le_of_ble_eq_true rfl) rfl ?_
  intro p e s m below meth cx ls F hr hlk hin2 hE hO hP hz hS hl
  have zsz : b0 + (0) ≤ s.heap.size := by rw [hz]; exact (zx_leC (k := 0) (a := 1) (by decide))
  have hl : lv_has ls 3 [(0, .ref (b0 + 0)), (1, .int x)] := hl
  refine lv_aload_n F.1 F.2.1 dd_TL_ctor_0 rfl (lv_at hl 0 rfl) ?_
  refine W.objInit F.1 F.2.1 F.2.2.2.1 (F.2.2.2.2 _ wl_TL_1) (F.2.2.2.2 _ wx_objI) (F.2.2.2.2 _ wx_objC) rfl (by rw [F.2.2.1]; exact hl.1) rfl dd_TL_ctor_1 (Nat.le_of_ble_eq_true rfl) (Nat.le_of_ble_eq_true rfl) ?_
  refine W.eq (g2 := F0 m 4 ls []) rfl ?_
  refine lv_aload_n F.1 F.2.1 dd_TL_ctor_4 rfl (lv_at hl 0 rfl) ?_
  refine lv_iconst (v := nI 2) F.1 F.2.1 dd_TL_ctor_5 (by decide) ?_
  refine zx_newq (k := 1) (f := va_up (f) (0) (.inr (0, [.int 0, .null]))) (C := "TwinLedgers$Ledger") (z := 2) F hE hP hz hS wq_TL_9 hO.1 rfl (by decide) (N := 2) (by decide) (by decide) (Nat.le_of_ble_eq_true rfl) (Nat.le_of_ble_eq_true rfl) dd_TL_ctor_6 (cells' := 1) (slots' := 2) rfl rfl (fun H (hP : va_P G.1 zw_cl (zw_l b0 (2) (va_up (va_up (f) (0) (.inr (0, [.int 0, .null]))) (1) (.inl (G.2 2, 2, .inr (.inr (.inr (.inr (fun _ => none)))))))) H) (hz : H.size = b0 + (2)) hS => ?_)
  rw [zx_rf0 (b0 + (2)) 87] at hP
  refine zx_pF (ty := .array (.object "TwinLedgers$Ledger")) (k := 2) (f := va_up (va_up (f) (0) (.inr (0, [.int 0, .null]))) (1) (.inl (G.2 2, 2, .inr (.inr (.inr (.inr (zx_rf (b0 + (2)) 87 0))))))) (x := 0) F hE hP hz hS (fun q _ h => Or.elim h (fun z => Nat.le_trans zsz z) id) (by decide) (zx_leC (k := 0) (a := 0) (by decide)) ((va_up_ne _ _ (by decide)).trans (va_up_self _ _ _)) rfl zi_TL zy_TL zj_TL zl_TL 1 (by decide) rfl rfl hin2 rfl wf_TL_11 (by decide +kernel) rfl rfl (Nat.le_of_ble_eq_true rfl) dd_TL_ctor_9 (fun H locs hP (hz : H.size = b0 + (2)) hS => ?_)
  have hP : va_P G.1 zw_cl (zw_l b0 (2) (va_up (va_up (va_up (f) (0) (.inr (0, [.int 0, .null]))) (1) (.inl (G.2 2, 2, .inr (.inr (.inr (.inr (zx_rf (b0 + (2)) 87 0))))))) (0) (.inr (0, [.int 0, .ref (b0 + 1)])))) H := hP
  rw [zx_uc (α := va_E) (a := 0) (b := 1) (by decide)] at hP
  rw [zx_uu (α := va_E) (a := 0)] at hP
  refine W.eq (g2 := F0 m 12 ls []) rfl ?_
  refine lv_aload_n F.1 F.2.1 dd_TL_ctor_12 rfl (lv_at hl 0 rfl) ?_
  refine lv_iload_n F.1 F.2.1 dd_TL_ctor_13 rfl (lv_at hl 1 rfl) ?_
  refine lv_iconst (v := nI 1) F.1 F.2.1 dd_TL_ctor_14 (by decide) ?_
  refine lv_icmp_lt F.1 F.2.1 dd_TL_ctor_15 (tgt := 28) rfl (fun h15 => ?_) (fun h15 => ?_)
  · refine lv_iconst (v := nI 4) F.1 F.2.1 dd_TL_ctor_28 (by decide) ?_
    refine zn_top (y := zs_pt x) (by rw [zs_pt, if_pos h15]) ?_
    refine zx_pF (ty := .int) (k := 2) (f := va_up (va_up (f) (0) (.inr (0, [.int 0, .ref (b0 + 1)]))) (1) (.inl (G.2 2, 2, .inr (.inr (.inr (.inr (zx_rf (b0 + (2)) 87 0))))))) (x := 0) F hE hP hz hS (fun q _ h => Or.elim h (fun z => Nat.le_trans zsz z) id) (by decide) (zx_leC (k := 0) (a := 0) (by decide)) ((va_up_ne _ _ (by decide)).trans (va_up_self _ _ _)) rfl zi_TL zy_TL zj_TL zl_TL 0 (by decide) rfl rfl hin2 rfl wf_TL_15 (by decide +kernel) rfl rfl (Nat.le_of_ble_eq_true rfl) dd_TL_ctor_29 (fun H locs hP (hz : H.size = b0 + (2)) hS => ?_)
    have hP : va_P G.1 zw_cl (zw_l b0 (2) (va_up (va_up (va_up (f) (0) (.inr (0, [.int 0, .ref (b0 + 1)]))) (1) (.inl (G.2 2, 2, .inr (.inr (.inr (.inr (zx_rf (b0 + (2)) 87 0))))))) (0) (.inr (0, [.int (zs_pt x), .ref (b0 + 1)])))) H := hP
    rw [zx_uc (α := va_E) (a := 0) (b := 1) (by decide)] at hP
    rw [zx_uu (α := va_E) (a := 0)] at hP
    refine W.eq (g2 := F0 m 32 ls []) rfl ?_
    rw [zx_id (α := va_E) (f := f) (a := 0) (e := .inr (0, [.int (zs_pt x), .ref (b0 + 1)])) ((hf 0 (by decide)))] at hP
    refine lv_iconst (v := nI 0) F.1 F.2.1 dd_TL_ctor_32 (by decide) ?_
    refine lv_istore_n F.1 F.2.1 dd_TL_ctor_33 rfl hl (by decide) (lv' := [(2, .int (nI 0)), (0, .ref (b0 + 0)), (1, .int x)]) rfl (fun ls hl => ?_)
    refine lv_iload_n F.1 F.2.1 dd_TL_ctor_34 rfl (lv_at hl 0 rfl) ?_
    refine lv_iconst (v := nI 2) F.1 F.2.1 dd_TL_ctor_35 (by decide) ?_
    refine zn_cge F dd_TL_ctor_36 (tgt := 58) rfl (by decide) (by decide) (fun h => absurd h (by decide)) (fun h => ?_)
    refine lv_aload_n F.1 F.2.1 dd_TL_ctor_39 rfl (lv_at hl 1 rfl) ?_
    refine zw_gF (n := 2) (f := va_up (f) (1) (.inl (G.2 2, 2, .inr (.inr (.inr (.inr (zx_rf (b0 + (2)) 87 0))))))) (x := 0) F hE hP (by decide) ((va_up_ne _ _ (by decide)).trans ((hf 0 (by decide)))) rfl zi_TL 1 (by decide) rfl wf_TL_11 rfl dd_TL_ctor_40 ?_
    refine W.eq (g2 := F0 m 43 ls [.ref (b0 + 1)]) rfl ?_
    refine lv_iload_n F.1 F.2.1 dd_TL_ctor_43 rfl (lv_at hl 0 rfl) ?_
    refine zx_new (k := 2) (f := va_up (f) (1) (.inl (G.2 2, 2, .inr (.inr (.inr (.inr (zx_rf (b0 + (2)) 87 0))))))) (fs := [.null, .null, .null, .null, .null, .null, .int 0]) zy_Ledger F hE hP hz hS rfl zi_Ledger zj_Ledger wq_TL_9 wi_Ledger wj_Ledger zx_fs_Ledger (Nat.le_of_ble_eq_true rfl) (Nat.le_of_ble_eq_true rfl) dd_TL_ctor_44 (cells' := 2) (slots' := 9) rfl rfl (fun H (hP : va_P G.1 zw_cl (zw_l b0 (3) (va_up (va_up (f) (1) (.inl (G.2 2, 2, .inr (.inr (.inr (.inr (zx_rf (b0 + (2)) 87 0))))))) (2) (.inr (1, [.null, .null, .null, .null, .null, .null, .int 0])))) H) (hz : H.size = b0 + (3)) hS => ?_)
    refine lv_dup F.1 F.2.1 dd_TL_ctor_47 rfl ?_
    refine zx_go (k := 2) (n := 87) (f := va_up (f) (1) (.inl (G.2 2, 2, .inr (.inr (.inr (.inr (zx_rf (b0 + (2)) 87 0))))))) (zx_run (k := 2) (f := va_up (f) (1) (.inl (G.2 2, 2, .inr (.inr (.inr (.inr (zx_rf (b0 + (2)) 87 0))))))) F hE hO hP hz (zc_Ledger_ctor0 lc G b0 (zs_pt x) (va_up (f) (1) (.inl (G.2 2, 2, .inr (.inr (.inr (.inr (zx_rf (b0 + (2)) 87 0))))))) (fun q h1 h2 => ((va_up_ne _ _ (Nat.ne_of_gt (Nat.lt_of_lt_of_le (by decide) h1))).trans (hf q (Nat.lt_of_lt_of_le h2 (by decide)))))) zk_Ledger_ctor za_Ledger_ctor rfl wl_TL_19 ⟨rfl, rfl, Nat.le_of_ble_eq_true rfl, Nat.le_of_ble_eq_true rfl⟩ hl.1 rfl (Nat.le_of_ble_eq_true rfl) ⟨Nat.le_of_ble_eq_true rfl, Nat.le_of_ble_eq_true rfl⟩ dd_TL_ctor_48) hS (fun q h => Nat.le_trans (zx_leC (k := 0) (a := 2) (by decide)) h) (cells' := 88) (slots' := 3082) rfl rfl (fun H locs (hP : va_P G.1 zw_cl (zw_l b0 (89) (va_up (f) (1) (.inl (G.2 2, 2, .inr (.inr (.inr (.inr (zx_rf (b0 + (2)) 87 0)))))))) H) (hz : H.size = b0 + (89)) _ hS => ?_)
    refine zx_ast (k := 89) (f := va_up (f) (1) (.inl (G.2 2, 2, .inr (.inr (.inr (.inr (zx_rf (b0 + (2)) 87 0))))))) (x := 1) (y := 2) (z := 2) (j := 0) F hE hP hz hS (by decide) (zx_leC (k := 0) (a := 1) (by decide)) (va_up_self _ _ _) rfl (by decide) ((va_up_ne _ _ (by decide)).trans ((hf 2 (by decide)))) rfl (by decide) (by decide) rfl dd_TL_ctor_51 (fun H locs hP (hz : H.size = b0 + (89)) hS => ?_)
    rw [zx_rfs (n := 0) (n' := 1) (zx_rv0 (a := 2) (m := 2) (by decide)) rfl] at hP
    rw [zx_uu (α := va_E) (a := 1)] at hP
    refine lv_iinc F.1 F.2.1 dd_TL_ctor_52 hl (k := 0) rfl (v := nI 1) (by decide) (by decide) (lv' := [(2, .int (nI 1)), (0, .ref (b0 + 0)), (1, .int x)]) rfl (fun ls hl => ?_)
    refine lv_goto F.1 F.2.1 dd_TL_ctor_55 (tgt := 34) rfl ?_
    refine lv_iload_n F.1 F.2.1 dd_TL_ctor_34 rfl (lv_at hl 0 rfl) ?_
    refine lv_iconst (v := nI 2) F.1 F.2.1 dd_TL_ctor_35 (by decide) ?_
    refine zn_cge F dd_TL_ctor_36 (tgt := 58) rfl (by decide) (by decide) (fun h => absurd h (by decide)) (fun h => ?_)
    refine lv_aload_n F.1 F.2.1 dd_TL_ctor_39 rfl (lv_at hl 1 rfl) ?_
    refine zw_gF (n := 89) (f := va_up (f) (1) (.inl (G.2 2, 2, .inr (.inr (.inr (.inr (zx_rf (b0 + (2)) 87 1))))))) (x := 0) F hE hP (by decide) ((va_up_ne _ _ (by decide)).trans ((hf 0 (by decide)))) rfl zi_TL 1 (by decide) rfl wf_TL_11 rfl dd_TL_ctor_40 ?_
    refine W.eq (g2 := F0 m 43 ls [.ref (b0 + 1)]) rfl ?_
    refine lv_iload_n F.1 F.2.1 dd_TL_ctor_43 rfl (lv_at hl 0 rfl) ?_
    refine zx_new (k := 89) (f := va_up (f) (1) (.inl (G.2 2, 2, .inr (.inr (.inr (.inr (zx_rf (b0 + (2)) 87 1))))))) (fs := [.null, .null, .null, .null, .null, .null, .int 0]) zy_Ledger F hE hP hz hS rfl zi_Ledger zj_Ledger wq_TL_9 wi_Ledger wj_Ledger zx_fs_Ledger (Nat.le_of_ble_eq_true rfl) (Nat.le_of_ble_eq_true rfl) dd_TL_ctor_44 (cells' := 89) (slots' := 3089) rfl rfl (fun H (hP : va_P G.1 zw_cl (zw_l b0 (90) (va_up (va_up (f) (1) (.inl (G.2 2, 2, .inr (.inr (.inr (.inr (zx_rf (b0 + (2)) 87 1))))))) (89) (.inr (1, [.null, .null, .null, .null, .null, .null, .int 0])))) H) (hz : H.size = b0 + (90)) hS => ?_)
    refine lv_dup F.1 F.2.1 dd_TL_ctor_47 rfl ?_
    refine zx_go (k := 89) (n := 87) (f := va_up (f) (1) (.inl (G.2 2, 2, .inr (.inr (.inr (.inr (zx_rf (b0 + (2)) 87 1))))))) (zx_run (k := 89) (f := va_up (f) (1) (.inl (G.2 2, 2, .inr (.inr (.inr (.inr (zx_rf (b0 + (2)) 87 1))))))) F hE hO hP hz (zc_Ledger_ctor1 lc G b0 (zs_pt x) (va_up (f) (1) (.inl (G.2 2, 2, .inr (.inr (.inr (.inr (zx_rf (b0 + (2)) 87 1))))))) (fun q h1 h2 => ((va_up_ne _ _ (Nat.ne_of_gt (Nat.lt_of_lt_of_le (by decide) h1))).trans (hf q (Nat.lt_of_lt_of_le h2 (by decide)))))) zk_Ledger_ctor za_Ledger_ctor rfl wl_TL_19 ⟨rfl, rfl, Nat.le_of_ble_eq_true rfl, Nat.le_of_ble_eq_true rfl⟩ hl.1 rfl (Nat.le_of_ble_eq_true rfl) ⟨Nat.le_of_ble_eq_true rfl, Nat.le_of_ble_eq_true rfl⟩ dd_TL_ctor_48) hS (fun q h => Nat.le_trans (zx_leC (k := 0) (a := 89) (by decide)) h) (cells' := 175) (slots' := 6162) rfl rfl (fun H locs (hP : va_P G.1 zw_cl (zw_l b0 (176) (va_up (f) (1) (.inl (G.2 2, 2, .inr (.inr (.inr (.inr (zx_rf (b0 + (2)) 87 1)))))))) H) (hz : H.size = b0 + (176)) _ hS => ?_)
    refine zx_ast (k := 176) (f := va_up (f) (1) (.inl (G.2 2, 2, .inr (.inr (.inr (.inr (zx_rf (b0 + (2)) 87 1))))))) (x := 1) (y := 89) (z := 2) (j := 1) F hE hP hz hS (by decide) (zx_leC (k := 0) (a := 1) (by decide)) (va_up_self _ _ _) rfl (by decide) ((va_up_ne _ _ (by decide)).trans ((hf 89 (by decide)))) rfl (by decide) (by decide) rfl dd_TL_ctor_51 (fun H locs hP (hz : H.size = b0 + (176)) hS => ?_)
    rw [zx_rfs (n := 1) (n' := 2) (zx_rv0 (a := 2) (m := 89) (by decide)) rfl] at hP
    rw [zx_uu (α := va_E) (a := 1)] at hP
    have hP := zx_refs (x := 1) (g' := fun k => some (b0 + zp_o 2 k 0)) hP (va_up_self _ _ _) (fun j hj => by
      match j, hj with
      | 0, _ => rfl
      | 1, _ => rfl
      | q + 2, h => exact absurd h (Nat.not_lt.mpr (Nat.le_add_left _ q)))
    rw [zx_uu (α := va_E) (a := 1)] at hP
    rw [zx_id (α := va_E) (f := f) (a := 1) (e := .inl (G.2 2, 2, .inr (.inr (.inr (.inr (fun k => some (b0 + zp_o 2 k 0))))))) ((hf 1 (by decide)))] at hP
    refine lv_iinc F.1 F.2.1 dd_TL_ctor_52 hl (k := 0) rfl (v := nI 2) (by decide) (by decide) (lv' := [(2, .int (nI 2)), (0, .ref (b0 + 0)), (1, .int x)]) rfl (fun ls hl => ?_)
    refine lv_goto F.1 F.2.1 dd_TL_ctor_55 (tgt := 34) rfl ?_
    refine lv_iload_n F.1 F.2.1 dd_TL_ctor_34 rfl (lv_at hl 0 rfl) ?_
    refine lv_iconst (v := nI 2) F.1 F.2.1 dd_TL_ctor_35 (by decide) ?_
    refine zn_cge F dd_TL_ctor_36 (tgt := 58) rfl (by decide) (by decide) (fun h => ?_) (fun h => absurd h (by decide))
    exact zx_vret (k := 0) (n := 176) F hr hlk hP hz hS rfl (fun _ _ => rfl) dd_TL_ctor_58
  · refine lv_iload_n F.1 F.2.1 dd_TL_ctor_18 rfl (lv_at hl 1 rfl) ?_
    refine lv_bipush (v := nI 16) F.1 F.2.1 dd_TL_ctor_19 (by decide) ?_
    refine lv_icmp_gt F.1 F.2.1 dd_TL_ctor_21 (tgt := 28) rfl (fun h21 => ?_) (fun h21 => ?_)
    · refine lv_iconst (v := nI 4) F.1 F.2.1 dd_TL_ctor_28 (by decide) ?_
      refine zn_top (y := zs_pt x) (by rw [zs_pt, if_neg h15, if_pos h21]) ?_
      refine zx_pF (ty := .int) (k := 2) (f := va_up (va_up (f) (0) (.inr (0, [.int 0, .ref (b0 + 1)]))) (1) (.inl (G.2 2, 2, .inr (.inr (.inr (.inr (zx_rf (b0 + (2)) 87 0))))))) (x := 0) F hE hP hz hS (fun q _ h => Or.elim h (fun z => Nat.le_trans zsz z) id) (by decide) (zx_leC (k := 0) (a := 0) (by decide)) ((va_up_ne _ _ (by decide)).trans (va_up_self _ _ _)) rfl zi_TL zy_TL zj_TL zl_TL 0 (by decide) rfl rfl hin2 rfl wf_TL_15 (by decide +kernel) rfl rfl (Nat.le_of_ble_eq_true rfl) dd_TL_ctor_29 (fun H locs hP (hz : H.size = b0 + (2)) hS => ?_)
      have hP : va_P G.1 zw_cl (zw_l b0 (2) (va_up (va_up (va_up (f) (0) (.inr (0, [.int 0, .ref (b0 + 1)]))) (1) (.inl (G.2 2, 2, .inr (.inr (.inr (.inr (zx_rf (b0 + (2)) 87 0))))))) (0) (.inr (0, [.int (zs_pt x), .ref (b0 + 1)])))) H := hP
      rw [zx_uc (α := va_E) (a := 0) (b := 1) (by decide)] at hP
      rw [zx_uu (α := va_E) (a := 0)] at hP
      refine W.eq (g2 := F0 m 32 ls []) rfl ?_
      rw [zx_id (α := va_E) (f := f) (a := 0) (e := .inr (0, [.int (zs_pt x), .ref (b0 + 1)])) ((hf 0 (by decide)))] at hP
      refine lv_iconst (v := nI 0) F.1 F.2.1 dd_TL_ctor_32 (by decide) ?_
      refine lv_istore_n F.1 F.2.1 dd_TL_ctor_33 rfl hl (by decide) (lv' := [(2, .int (nI 0)), (0, .ref (b0 + 0)), (1, .int x)]) rfl (fun ls hl => ?_)
      refine lv_iload_n F.1 F.2.1 dd_TL_ctor_34 rfl (lv_at hl 0 rfl) ?_
      refine lv_iconst (v := nI 2) F.1 F.2.1 dd_TL_ctor_35 (by decide) ?_
      refine zn_cge F dd_TL_ctor_36 (tgt := 58) rfl (by decide) (by decide) (fun h => absurd h (by decide)) (fun h => ?_)
      refine lv_aload_n F.1 F.2.1 dd_TL_ctor_39 rfl (lv_at hl 1 rfl) ?_
      refine zw_gF (n := 2) (f := va_up (f) (1) (.inl (G.2 2, 2, .inr (.inr (.inr (.inr (zx_rf (b0 + (2)) 87 0))))))) (x := 0) F hE hP (by decide) ((va_up_ne _ _ (by decide)).trans ((hf 0 (by decide)))) rfl zi_TL 1 (by decide) rfl wf_TL_11 rfl dd_TL_ctor_40 ?_
      refine W.eq (g2 := F0 m 43 ls [.ref (b0 + 1)]) rfl ?_
      refine lv_iload_n F.1 F.2.1 dd_TL_ctor_43 rfl (lv_at hl 0 rfl) ?_
      refine zx_new (k := 2) (f := va_up (f) (1) (.inl (G.2 2, 2, .inr (.inr (.inr (.inr (zx_rf (b0 + (2)) 87 0))))))) (fs := [.null, .null, .null, .null, .null, .null, .int 0]) zy_Ledger F hE hP hz hS rfl zi_Ledger zj_Ledger wq_TL_9 wi_Ledger wj_Ledger zx_fs_Ledger (Nat.le_of_ble_eq_true rfl) (Nat.le_of_ble_eq_true rfl) dd_TL_ctor_44 (cells' := 2) (slots' := 9) rfl rfl (fun H (hP : va_P G.1 zw_cl (zw_l b0 (3) (va_up (va_up (f) (1) (.inl (G.2 2, 2, .inr (.inr (.inr (.inr (zx_rf (b0 + (2)) 87 0))))))) (2) (.inr (1, [.null, .null, .null, .null, .null, .null, .int 0])))) H) (hz : H.size = b0 + (3)) hS => ?_)
      refine lv_dup F.1 F.2.1 dd_TL_ctor_47 rfl ?_
      refine zx_go (k := 2) (n := 87) (f := va_up (f) (1) (.inl (G.2 2, 2, .inr (.inr (.inr (.inr (zx_rf (b0 + (2)) 87 0))))))) (zx_run (k := 2) (f := va_up (f) (1) (.inl (G.2 2, 2, .inr (.inr (.inr (.inr (zx_rf (b0 + (2)) 87 0))))))) F hE hO hP hz (zc_Ledger_ctor0 lc G b0 (zs_pt x) (va_up (f) (1) (.inl (G.2 2, 2, .inr (.inr (.inr (.inr (zx_rf (b0 + (2)) 87 0))))))) (fun q h1 h2 => ((va_up_ne _ _ (Nat.ne_of_gt (Nat.lt_of_lt_of_le (by decide) h1))).trans (hf q (Nat.lt_of_lt_of_le h2 (by decide)))))) zk_Ledger_ctor za_Ledger_ctor rfl wl_TL_19 ⟨rfl, rfl, Nat.le_of_ble_eq_true rfl, Nat.le_of_ble_eq_true rfl⟩ hl.1 rfl (Nat.le_of_ble_eq_true rfl) ⟨Nat.le_of_ble_eq_true rfl, Nat.le_of_ble_eq_true rfl⟩ dd_TL_ctor_48) hS (fun q h => Nat.le_trans (zx_leC (k := 0) (a := 2) (by decide)) h) (cells' := 88) (slots' := 3082) rfl rfl (fun H locs (hP : va_P G.1 zw_cl (zw_l b0 (89) (va_up (f) (1) (.inl (G.2 2, 2, .inr (.inr (.inr (.inr (zx_rf (b0 + (2)) 87 0)))))))) H) (hz : H.size = b0 + (89)) _ hS => ?_)
      refine zx_ast (k := 89) (f := va_up (f) (1) (.inl (G.2 2, 2, .inr (.inr (.inr (.inr (zx_rf (b0 + (2)) 87 0))))))) (x := 1) (y := 2) (z := 2) (j := 0) F hE hP hz hS (by decide) (zx_leC (k := 0) (a := 1) (by decide)) (va_up_self _ _ _) rfl (by decide) ((va_up_ne _ _ (by decide)).trans ((hf 2 (by decide)))) rfl (by decide) (by decide) rfl dd_TL_ctor_51 (fun H locs hP (hz : H.size = b0 + (89)) hS => ?_)
      rw [zx_rfs (n := 0) (n' := 1) (zx_rv0 (a := 2) (m := 2) (by decide)) rfl] at hP
      rw [zx_uu (α := va_E) (a := 1)] at hP
      refine lv_iinc F.1 F.2.1 dd_TL_ctor_52 hl (k := 0) rfl (v := nI 1) (by decide) (by decide) (lv' := [(2, .int (nI 1)), (0, .ref (b0 + 0)), (1, .int x)]) rfl (fun ls hl => ?_)
      refine lv_goto F.1 F.2.1 dd_TL_ctor_55 (tgt := 34) rfl ?_
      refine lv_iload_n F.1 F.2.1 dd_TL_ctor_34 rfl (lv_at hl 0 rfl) ?_
      refine lv_iconst (v := nI 2) F.1 F.2.1 dd_TL_ctor_35 (by decide) ?_
      refine zn_cge F dd_TL_ctor_36 (tgt := 58) rfl (by decide) (by decide) (fun h => absurd h (by decide)) (fun h => ?_)
      refine lv_aload_n F.1 F.2.1 dd_TL_ctor_39 rfl (lv_at hl 1 rfl) ?_
      refine zw_gF (n := 89) (f := va_up (f) (1) (.inl (G.2 2, 2, .inr (.inr (.inr (.inr (zx_rf (b0 + (2)) 87 1))))))) (x := 0) F hE hP (by decide) ((va_up_ne _ _ (by decide)).trans ((hf 0 (by decide)))) rfl zi_TL 1 (by decide) rfl wf_TL_11 rfl dd_TL_ctor_40 ?_
      refine W.eq (g2 := F0 m 43 ls [.ref (b0 + 1)]) rfl ?_
      refine lv_iload_n F.1 F.2.1 dd_TL_ctor_43 rfl (lv_at hl 0 rfl) ?_
      refine zx_new (k := 89) (f := va_up (f) (1) (.inl (G.2 2, 2, .inr (.inr (.inr (.inr (zx_rf (b0 + (2)) 87 1))))))) (fs := [.null, .null, .null, .null, .null, .null, .int 0]) zy_Ledger F hE hP hz hS rfl zi_Ledger zj_Ledger wq_TL_9 wi_Ledger wj_Ledger zx_fs_Ledger (Nat.le_of_ble_eq_true rfl) (Nat.le_of_ble_eq_true rfl) dd_TL_ctor_44 (cells' := 89) (slots' := 3089) rfl rfl (fun H (hP : va_P G.1 zw_cl (zw_l b0 (90) (va_up (va_up (f) (1) (.inl (G.2 2, 2, .inr (.inr (.inr (.inr (zx_rf (b0 + (2)) 87 1))))))) (89) (.inr (1, [.null, .null, .null, .null, .null, .null, .int 0])))) H) (hz : H.size = b0 + (90)) hS => ?_)
      refine lv_dup F.1 F.2.1 dd_TL_ctor_47 rfl ?_
      refine zx_go (k := 89) (n := 87) (f := va_up (f) (1) (.inl (G.2 2, 2, .inr (.inr (.inr (.inr (zx_rf (b0 + (2)) 87 1))))))) (zx_run (k := 89) (f := va_up (f) (1) (.inl (G.2 2, 2, .inr (.inr (.inr (.inr (zx_rf (b0 + (2)) 87 1))))))) F hE hO hP hz (zc_Ledger_ctor1 lc G b0 (zs_pt x) (va_up (f) (1) (.inl (G.2 2, 2, .inr (.inr (.inr (.inr (zx_rf (b0 + (2)) 87 1))))))) (fun q h1 h2 => ((va_up_ne _ _ (Nat.ne_of_gt (Nat.lt_of_lt_of_le (by decide) h1))).trans (hf q (Nat.lt_of_lt_of_le h2 (by decide)))))) zk_Ledger_ctor za_Ledger_ctor rfl wl_TL_19 ⟨rfl, rfl, Nat.le_of_ble_eq_true rfl, Nat.le_of_ble_eq_true rfl⟩ hl.1 rfl (Nat.le_of_ble_eq_true rfl) ⟨Nat.le_of_ble_eq_true rfl, Nat.le_of_ble_eq_true rfl⟩ dd_TL_ctor_48) hS (fun q h => Nat.le_trans (zx_leC (k := 0) (a := 89) (by decide)) h) (cells' := 175) (slots' := 6162) rfl rfl (fun H locs (hP : va_P G.1 zw_cl (zw_l b0 (176) (va_up (f) (1) (.inl (G.2 2, 2, .inr (.inr (.inr (.inr (zx_rf (b0 + (2)) 87 1)))))))) H) (hz : H.size = b0 + (176)) _ hS => ?_)
      refine zx_ast (k := 176) (f := va_up (f) (1) (.inl (G.2 2, 2, .inr (.inr (.inr (.inr (zx_rf (b0 + (2)) 87 1))))))) (x := 1) (y := 89) (z := 2) (j := 1) F hE hP hz hS (by decide) (zx_leC (k := 0) (a := 1) (by decide)) (va_up_self _ _ _) rfl (by decide) ((va_up_ne _ _ (by decide)).trans ((hf 89 (by decide)))) rfl (by decide) (by decide) rfl dd_TL_ctor_51 (fun H locs hP (hz : H.size = b0 + (176)) hS => ?_)
      rw [zx_rfs (n := 1) (n' := 2) (zx_rv0 (a := 2) (m := 89) (by decide)) rfl] at hP
      rw [zx_uu (α := va_E) (a := 1)] at hP
      have hP := zx_refs (x := 1) (g' := fun k => some (b0 + zp_o 2 k 0)) hP (va_up_self _ _ _) (fun j hj => by
      match j, hj with
      | 0, _ => rfl
      | 1, _ => rfl
      | q + 2, h => exact absurd h (Nat.not_lt.mpr (Nat.le_add_left _ q)))
      rw [zx_uu (α := va_E) (a := 1)] at hP
      rw [zx_id (α := va_E) (f := f) (a := 1) (e := .inl (G.2 2, 2, .inr (.inr (.inr (.inr (fun k => some (b0 + zp_o 2 k 0))))))) ((hf 1 (by decide)))] at hP
      refine lv_iinc F.1 F.2.1 dd_TL_ctor_52 hl (k := 0) rfl (v := nI 2) (by decide) (by decide) (lv' := [(2, .int (nI 2)), (0, .ref (b0 + 0)), (1, .int x)]) rfl (fun ls hl => ?_)
      refine lv_goto F.1 F.2.1 dd_TL_ctor_55 (tgt := 34) rfl ?_
      refine lv_iload_n F.1 F.2.1 dd_TL_ctor_34 rfl (lv_at hl 0 rfl) ?_
      refine lv_iconst (v := nI 2) F.1 F.2.1 dd_TL_ctor_35 (by decide) ?_
      refine zn_cge F dd_TL_ctor_36 (tgt := 58) rfl (by decide) (by decide) (fun h => ?_) (fun h => absurd h (by decide))
      exact zx_vret (k := 0) (n := 176) F hr hlk hP hz hS rfl (fun _ _ => rfl) dd_TL_ctor_58
    · refine lv_iload_n F.1 F.2.1 dd_TL_ctor_24 rfl (lv_at hl 1 rfl) ?_
      refine lv_goto F.1 F.2.1 dd_TL_ctor_25 (tgt := 29) rfl ?_
      refine zn_top (y := zs_pt x) (by rw [zs_pt, if_neg h15, if_neg h21]) ?_
      refine zx_pF (ty := .int) (k := 2) (f := va_up (va_up (f) (0) (.inr (0, [.int 0, .ref (b0 + 1)]))) (1) (.inl (G.2 2, 2, .inr (.inr (.inr (.inr (zx_rf (b0 + (2)) 87 0))))))) (x := 0) F hE hP hz hS (fun q _ h => Or.elim h (fun z => Nat.le_trans zsz z) id) (by decide) (zx_leC (k := 0) (a := 0) (by decide)) ((va_up_ne _ _ (by decide)).trans (va_up_self _ _ _)) rfl zi_TL zy_TL zj_TL zl_TL 0 (by decide) rfl rfl hin2 rfl wf_TL_15 (by decide +kernel) rfl rfl (Nat.le_of_ble_eq_true rfl) dd_TL_ctor_29 (fun H locs hP (hz : H.size = b0 + (2)) hS => ?_)
      have hP : va_P G.1 zw_cl (zw_l b0 (2) (va_up (va_up (va_up (f) (0) (.inr (0, [.int 0, .ref (b0 + 1)]))) (1) (.inl (G.2 2, 2, .inr (.inr (.inr (.inr (zx_rf (b0 + (2)) 87 0))))))) (0) (.inr (0, [.int (zs_pt x), .ref (b0 + 1)])))) H := hP
      rw [zx_uc (α := va_E) (a := 0) (b := 1) (by decide)] at hP
      rw [zx_uu (α := va_E) (a := 0)] at hP
      refine W.eq (g2 := F0 m 32 ls []) rfl ?_
      rw [zx_id (α := va_E) (f := f) (a := 0) (e := .inr (0, [.int (zs_pt x), .ref (b0 + 1)])) ((hf 0 (by decide)))] at hP
      refine lv_iconst (v := nI 0) F.1 F.2.1 dd_TL_ctor_32 (by decide) ?_
      refine lv_istore_n F.1 F.2.1 dd_TL_ctor_33 rfl hl (by decide) (lv' := [(2, .int (nI 0)), (0, .ref (b0 + 0)), (1, .int x)]) rfl (fun ls hl => ?_)
      refine lv_iload_n F.1 F.2.1 dd_TL_ctor_34 rfl (lv_at hl 0 rfl) ?_
      refine lv_iconst (v := nI 2) F.1 F.2.1 dd_TL_ctor_35 (by decide) ?_
      refine zn_cge F dd_TL_ctor_36 (tgt := 58) rfl (by decide) (by decide) (fun h => absurd h (by decide)) (fun h => ?_)
      refine lv_aload_n F.1 F.2.1 dd_TL_ctor_39 rfl (lv_at hl 1 rfl) ?_
      refine zw_gF (n := 2) (f := va_up (f) (1) (.inl (G.2 2, 2, .inr (.inr (.inr (.inr (zx_rf (b0 + (2)) 87 0))))))) (x := 0) F hE hP (by decide) ((va_up_ne _ _ (by decide)).trans ((hf 0 (by decide)))) rfl zi_TL 1 (by decide) rfl wf_TL_11 rfl dd_TL_ctor_40 ?_
      refine W.eq (g2 := F0 m 43 ls [.ref (b0 + 1)]) rfl ?_
      refine lv_iload_n F.1 F.2.1 dd_TL_ctor_43 rfl (lv_at hl 0 rfl) ?_
      refine zx_new (k := 2) (f := va_up (f) (1) (.inl (G.2 2, 2, .inr (.inr (.inr (.inr (zx_rf (b0 + (2)) 87 0))))))) (fs := [.null, .null, .null, .null, .null, .null, .int 0]) zy_Ledger F hE hP hz hS rfl zi_Ledger zj_Ledger wq_TL_9 wi_Ledger wj_Ledger zx_fs_Ledger (Nat.le_of_ble_eq_true rfl) (Nat.le_of_ble_eq_true rfl) dd_TL_ctor_44 (cells' := 2) (slots' := 9) rfl rfl (fun H (hP : va_P G.1 zw_cl (zw_l b0 (3) (va_up (va_up (f) (1) (.inl (G.2 2, 2, .inr (.inr (.inr (.inr (zx_rf (b0 + (2)) 87 0))))))) (2) (.inr (1, [.null, .null, .null, .null, .null, .null, .int 0])))) H) (hz : H.size = b0 + (3)) hS => ?_)
      refine lv_dup F.1 F.2.1 dd_TL_ctor_47 rfl ?_
      refine zx_go (k := 2) (n := 87) (f := va_up (f) (1) (.inl (G.2 2, 2, .inr (.inr (.inr (.inr (zx_rf (b0 + (2)) 87 0))))))) (zx_run (k := 2) (f := va_up (f) (1) (.inl (G.2 2, 2, .inr (.inr (.inr (.inr (zx_rf (b0 + (2)) 87 0))))))) F hE hO hP hz (zc_Ledger_ctor0 lc G b0 (zs_pt x) (va_up (f) (1) (.inl (G.2 2, 2, .inr (.inr (.inr (.inr (zx_rf (b0 + (2)) 87 0))))))) (fun q h1 h2 => ((va_up_ne _ _ (Nat.ne_of_gt (Nat.lt_of_lt_of_le (by decide) h1))).trans (hf q (Nat.lt_of_lt_of_le h2 (by decide)))))) zk_Ledger_ctor za_Ledger_ctor rfl wl_TL_19 ⟨rfl, rfl, Nat.le_of_ble_eq_true rfl, Nat.le_of_ble_eq_true rfl⟩ hl.1 rfl (Nat.le_of_ble_eq_true rfl) ⟨Nat.le_of_ble_eq_true rfl, Nat.le_of_ble_eq_true rfl⟩ dd_TL_ctor_48) hS (fun q h => Nat.le_trans (zx_leC (k := 0) (a := 2) (by decide)) h) (cells' := 88) (slots' := 3082) rfl rfl (fun H locs (hP : va_P G.1 zw_cl (zw_l b0 (89) (va_up (f) (1) (.inl (G.2 2, 2, .inr (.inr (.inr (.inr (zx_rf (b0 + (2)) 87 0)))))))) H) (hz : H.size = b0 + (89)) _ hS => ?_)
      refine zx_ast (k := 89) (f := va_up (f) (1) (.inl (G.2 2, 2, .inr (.inr (.inr (.inr (zx_rf (b0 + (2)) 87 0))))))) (x := 1) (y := 2) (z := 2) (j := 0) F hE hP hz hS (by decide) (zx_leC (k := 0) (a := 1) (by decide)) (va_up_self _ _ _) rfl (by decide) ((va_up_ne _ _ (by decide)).trans ((hf 2 (by decide)))) rfl (by decide) (by decide) rfl dd_TL_ctor_51 (fun H locs hP (hz : H.size = b0 + (89)) hS => ?_)
      rw [zx_rfs (n := 0) (n' := 1) (zx_rv0 (a := 2) (m := 2) (by decide)) rfl] at hP
      rw [zx_uu (α := va_E) (a := 1)] at hP
      refine lv_iinc F.1 F.2.1 dd_TL_ctor_52 hl (k := 0) rfl (v := nI 1) (by decide) (by decide) (lv' := [(2, .int (nI 1)), (0, .ref (b0 + 0)), (1, .int x)]) rfl (fun ls hl => ?_)
      refine lv_goto F.1 F.2.1 dd_TL_ctor_55 (tgt := 34) rfl ?_
      refine lv_iload_n F.1 F.2.1 dd_TL_ctor_34 rfl (lv_at hl 0 rfl) ?_
      refine lv_iconst (v := nI 2) F.1 F.2.1 dd_TL_ctor_35 (by decide) ?_
      refine zn_cge F dd_TL_ctor_36 (tgt := 58) rfl (by decide) (by decide) (fun h => absurd h (by decide)) (fun h => ?_)
      refine lv_aload_n F.1 F.2.1 dd_TL_ctor_39 rfl (lv_at hl 1 rfl) ?_
      refine zw_gF (n := 89) (f := va_up (f) (1) (.inl (G.2 2, 2, .inr (.inr (.inr (.inr (zx_rf (b0 + (2)) 87 1))))))) (x := 0) F hE hP (by decide) ((va_up_ne _ _ (by decide)).trans ((hf 0 (by decide)))) rfl zi_TL 1 (by decide) rfl wf_TL_11 rfl dd_TL_ctor_40 ?_
      refine W.eq (g2 := F0 m 43 ls [.ref (b0 + 1)]) rfl ?_
      refine lv_iload_n F.1 F.2.1 dd_TL_ctor_43 rfl (lv_at hl 0 rfl) ?_
      refine zx_new (k := 89) (f := va_up (f) (1) (.inl (G.2 2, 2, .inr (.inr (.inr (.inr (zx_rf (b0 + (2)) 87 1))))))) (fs := [.null, .null, .null, .null, .null, .null, .int 0]) zy_Ledger F hE hP hz hS rfl zi_Ledger zj_Ledger wq_TL_9 wi_Ledger wj_Ledger zx_fs_Ledger (Nat.le_of_ble_eq_true rfl) (Nat.le_of_ble_eq_true rfl) dd_TL_ctor_44 (cells' := 89) (slots' := 3089) rfl rfl (fun H (hP : va_P G.1 zw_cl (zw_l b0 (90) (va_up (va_up (f) (1) (.inl (G.2 2, 2, .inr (.inr (.inr (.inr (zx_rf (b0 + (2)) 87 1))))))) (89) (.inr (1, [.null, .null, .null, .null, .null, .null, .int 0])))) H) (hz : H.size = b0 + (90)) hS => ?_)
      refine lv_dup F.1 F.2.1 dd_TL_ctor_47 rfl ?_
      refine zx_go (k := 89) (n := 87) (f := va_up (f) (1) (.inl (G.2 2, 2, .inr (.inr (.inr (.inr (zx_rf (b0 + (2)) 87 1))))))) (zx_run (k := 89) (f := va_up (f) (1) (.inl (G.2 2, 2, .inr (.inr (.inr (.inr (zx_rf (b0 + (2)) 87 1))))))) F hE hO hP hz (zc_Ledger_ctor1 lc G b0 (zs_pt x) (va_up (f) (1) (.inl (G.2 2, 2, .inr (.inr (.inr (.inr (zx_rf (b0 + (2)) 87 1))))))) (fun q h1 h2 => ((va_up_ne _ _ (Nat.ne_of_gt (Nat.lt_of_lt_of_le (by decide) h1))).trans (hf q (Nat.lt_of_lt_of_le h2 (by decide)))))) zk_Ledger_ctor za_Ledger_ctor rfl wl_TL_19 ⟨rfl, rfl, Nat.le_of_ble_eq_true rfl, Nat.le_of_ble_eq_true rfl⟩ hl.1 rfl (Nat.le_of_ble_eq_true rfl) ⟨Nat.le_of_ble_eq_true rfl, Nat.le_of_ble_eq_true rfl⟩ dd_TL_ctor_48) hS (fun q h => Nat.le_trans (zx_leC (k := 0) (a := 89) (by decide)) h) (cells' := 175) (slots' := 6162) rfl rfl (fun H locs (hP : va_P G.1 zw_cl (zw_l b0 (176) (va_up (f) (1) (.inl (G.2 2, 2, .inr (.inr (.inr (.inr (zx_rf (b0 + (2)) 87 1)))))))) H) (hz : H.size = b0 + (176)) _ hS => ?_)
      refine zx_ast (k := 176) (f := va_up (f) (1) (.inl (G.2 2, 2, .inr (.inr (.inr (.inr (zx_rf (b0 + (2)) 87 1))))))) (x := 1) (y := 89) (z := 2) (j := 1) F hE hP hz hS (by decide) (zx_leC (k := 0) (a := 1) (by decide)) (va_up_self _ _ _) rfl (by decide) ((va_up_ne _ _ (by decide)).trans ((hf 89 (by decide)))) rfl (by decide) (by decide) rfl dd_TL_ctor_51 (fun H locs hP (hz : H.size = b0 + (176)) hS => ?_)
      rw [zx_rfs (n := 1) (n' := 2) (zx_rv0 (a := 2) (m := 89) (by decide)) rfl] at hP
      rw [zx_uu (α := va_E) (a := 1)] at hP
      have hP := zx_refs (x := 1) (g' := fun k => some (b0 + zp_o 2 k 0)) hP (va_up_self _ _ _) (fun j hj => by
      match j, hj with
      | 0, _ => rfl
      | 1, _ => rfl
      | q + 2, h => exact absurd h (Nat.not_lt.mpr (Nat.le_add_left _ q)))
      rw [zx_uu (α := va_E) (a := 1)] at hP
      rw [zx_id (α := va_E) (f := f) (a := 1) (e := .inl (G.2 2, 2, .inr (.inr (.inr (.inr (fun k => some (b0 + zp_o 2 k 0))))))) ((hf 1 (by decide)))] at hP
      refine lv_iinc F.1 F.2.1 dd_TL_ctor_52 hl (k := 0) rfl (v := nI 2) (by decide) (by decide) (lv' := [(2, .int (nI 2)), (0, .ref (b0 + 0)), (1, .int x)]) rfl (fun ls hl => ?_)
      refine lv_goto F.1 F.2.1 dd_TL_ctor_55 (tgt := 34) rfl ?_
      refine lv_iload_n F.1 F.2.1 dd_TL_ctor_34 rfl (lv_at hl 0 rfl) ?_
      refine lv_iconst (v := nI 2) F.1 F.2.1 dd_TL_ctor_35 (by decide) ?_
      refine zn_cge F dd_TL_ctor_36 (tgt := 58) rfl (by decide) (by decide) (fun h => ?_) (fun h => absurd h (by decide))
      exact zx_vret (k := 0) (n := 176) F hr hlk hP hz hS rfl (fun _ _ => rfl) dd_TL_ctor_58
