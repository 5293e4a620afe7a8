set_option maxHeartbeats 4000000 in
set_option maxRecDepth 100000 in
theorem zc_Mo_ctor (lc : Launch) (G : zw_G) (b0 : Nat) (x : Int32) (f : Nat → va_E) (hf : ∀ q, q < 26 → f q = zq_p G b0 (zt_0 (zs_pt x)) q) : zx_M lc ym_Mo_ctor bm_Mo_ctor 4 { frames := 1, cells := 25, slots := 7034, locals := 24 } G b0 (0) 26 (.inr (7, [.int 0, .null, .null, .null, .null, .null, .null, .null, .null, .null, .null, .null, .null, .null, .null, .null, .null, .null, .null, .null, .null, .null, .null, .null, .null, .null])) f [.ref (b0 + 0), .int x] 25 7034 := by
  refine zx_of (by decide) (Nat.le_of_ble_eq_true rfl) rfl ?_
  intro p e s m below meth cx ls F hr hlk hin2 hE hO hP hz hS hl
  have zsz : b0 + (0) ≤ s.heap.size := by rw [hz]; exact (zx_leC (k := 0) (a := 1) (by decide))
  have hl : lv_has ls 4 [(0, .ref (b0 + 0)), (1, .int x)] := hl
  refine lv_aload_n F.1 F.2.1 dd_Mo_ctor_0 rfl (lv_at hl 0 rfl) ?_
  refine W.objInit F.1 F.2.1 F.2.2.2.1 (F.2.2.2.2 _ wl_Mo_1) (F.2.2.2.2 _ wx_objI) (F.2.2.2.2 _ wx_objC) rfl (by rw [F.2.2.1]; exact hl.1) rfl dd_Mo_ctor_1 (Nat.le_of_ble_eq_true rfl) (Nat.le_of_ble_eq_true rfl) ?_
  refine W.eq (g2 := F0 m 4 ls []) rfl ?_
  refine lv_aload_n F.1 F.2.1 dd_Mo_ctor_4 rfl (lv_at hl 0 rfl) ?_
  refine lv_iconst (v := nI 2) F.1 F.2.1 dd_Mo_ctor_5 (by decide) ?_
  refine zx_newi (k := 1) (f := va_up (f) (0) (.inr (7, [.int 0, .null, .null, .null, .null, .null, .null, .null, .null, .null, .null, .null, .null, .null, .null, .null, .null, .null, .null, .null, .null, .null, .null, .null, .null, .null]))) F hE hP hz hS wx_arrI (by decide) (N := 2) (by decide) (by decide) (Nat.le_of_ble_eq_true rfl) (Nat.le_of_ble_eq_true rfl) dd_Mo_ctor_6 (cells' := 1) (slots' := 2) rfl rfl (fun H (hP : va_P G.1 zw_cl (zw_l b0 (2) (va_up (va_up (f) (0) (.inr (7, [.int 0, .null, .null, .null, .null, .null, .null, .null, .null, .null, .null, .null, .null, .null, .null, .null, .null, .null, .null, .null, .null, .null, .null, .null, .null, .null]))) (1) (.inl (G.2 0, 2, .inl (fun _ => 0))))) H) (hz : H.size = b0 + (2)) hS => ?_)
  rw [zx_id (α := va_E) (f := va_up (f) (0) (.inr (7, [.int 0, .null, .null, .null, .null, .null, .null, .null, .null, .null, .null, .null, .null, .null, .null, .null, .null, .null, .null, .null, .null, .null, .null, .null, .null, .null]))) (a := 1) (e := .inl (G.2 0, 2, .inl (fun _ => 0))) ((va_up_ne _ _ (by decide)).trans ((hf 1 (by decide))))] at hP
  refine zx_pF (ty := .array .int) (k := 2) (f := va_up (f) (0) (.inr (7, [.int 0, .null, .null, .null, .null, .null, .null, .null, .null, .null, .null, .null, .null, .null, .null, .null, .null, .null, .null, .null, .null, .null, .null, .null, .null, .null]))) (x := 0) F hE hP hz hS (fun q _ h => Or.elim h (fun z => Nat.le_trans zsz z) id) (by decide) (zx_leC (k := 0) (a := 0) (by decide)) (va_up_self _ _ _) rfl zi_Mo zy_Mo zj_Mo zl_Mo 1 (by decide) rfl rfl hin2 rfl wf_Mo_7 (by decide +kernel) rfl rfl (Nat.le_of_ble_eq_true rfl) dd_Mo_ctor_8 (fun H locs hP (hz : H.size = b0 + (2)) hS => ?_)
  have hP : va_P G.1 zw_cl (zw_l b0 (2) (va_up (va_up (f) (0) (.inr (7, [.int 0, .null, .null, .null, .null, .null, .null, .null, .null, .null, .null, .null, .null, .null, .null, .null, .null, .null, .null, .null, .null, .null, .null, .null, .null, .null]))) (0) (.inr (7, [.int 0, .ref (b0 + 1), .null, .null, .null, .null, .null, .null, .null, .null, .null, .null, .null, .null, .null, .null, .null, .null, .null, .null, .null, .null, .null, .null, .null, .null])))) H := hP
  rw [zx_uu (α := va_E) (a := 0)] at hP
  refine W.eq (g2 := F0 m 11 ls []) rfl ?_
  refine lv_aload_n F.1 F.2.1 dd_Mo_ctor_11 rfl (lv_at hl 0 rfl) ?_
  refine lv_sipush (v := nI 2200) F.1 F.2.1 dd_Mo_ctor_12 (by decide) ?_
  refine zx_newz (k := 2) (f := va_up (f) (0) (.inr (7, [.int 0, .ref (b0 + 1), .null, .null, .null, .null, .null, .null, .null, .null, .null, .null, .null, .null, .null, .null, .null, .null, .null, .null, .null, .null, .null, .null, .null, .null]))) F hE hP hz hS wx_arrZ (by decide) (N := 2200) (by decide) (by decide) (Nat.le_of_ble_eq_true rfl) (Nat.le_of_ble_eq_true rfl) dd_Mo_ctor_15 (cells' := 2) (slots' := 2202) rfl rfl (fun H (hP : va_P G.1 zw_cl (zw_l b0 (3) (va_up (va_up (f) (0) (.inr (7, [.int 0, .ref (b0 + 1), .null, .null, .null, .null, .null, .null, .null, .null, .null, .null, .null, .null, .null, .null, .null, .null, .null, .null, .null, .null, .null, .null, .null, .null]))) (2) (.inl (G.2 1, 2200, .inl (fun _ => 0))))) H) (hz : H.size = b0 + (3)) hS => ?_)
  rw [zx_id (α := va_E) (f := va_up (f) (0) (.inr (7, [.int 0, .ref (b0 + 1), .null, .null, .null, .null, .null, .null, .null, .null, .null, .null, .null, .null, .null, .null, .null, .null, .null, .null, .null, .null, .null, .null, .null, .null]))) (a := 2) (e := .inl (G.2 1, 2200, .inl (fun _ => 0))) ((va_up_ne _ _ (by decide)).trans ((hf 2 (by decide))))] at hP
  refine zx_pF (ty := .array .boolean) (k := 3) (f := va_up (f) (0) (.inr (7, [.int 0, .ref (b0 + 1), .null, .null, .null, .null, .null, .null, .null, .null, .null, .null, .null, .null, .null, .null, .null, .null, .null, .null, .null, .null, .null, .null, .null, .null]))) (x := 0) F hE hP hz hS (fun q _ h => Or.elim h (fun z => Nat.le_trans zsz z) id) (by decide) (zx_leC (k := 0) (a := 0) (by decide)) (va_up_self _ _ _) rfl zi_Mo zy_Mo zj_Mo zl_Mo 2 (by decide) rfl rfl hin2 rfl wf_Mo_13 (by decide +kernel) rfl rfl (Nat.le_of_ble_eq_true rfl) dd_Mo_ctor_17 (fun H locs hP (hz : H.size = b0 + (3)) hS => ?_)
  have hP : va_P G.1 zw_cl (zw_l b0 (3) (va_up (va_up (f) (0) (.inr (7, [.int 0, .ref (b0 + 1), .null, .null, .null, .null, .null, .null, .null, .null, .null, .null, .null, .null, .null, .null, .null, .null, .null, .null, .null, .null, .null, .null, .null, .null]))) (0) (.inr (7, [.int 0, .ref (b0 + 1), .ref (b0 + 2), .null, .null, .null, .null, .null, .null, .null, .null, .null, .null, .null, .null, .null, .null, .null, .null, .null, .null, .null, .null, .null, .null, .null])))) H := hP
  rw [zx_uu (α := va_E) (a := 0)] at hP
  refine W.eq (g2 := F0 m 20 ls []) rfl ?_
  refine lv_aload_n F.1 F.2.1 dd_Mo_ctor_20 rfl (lv_at hl 0 rfl) ?_
  refine lv_iconst (v := nI 2) F.1 F.2.1 dd_Mo_ctor_21 (by decide) ?_
  refine zx_newi (k := 3) (f := va_up (f) (0) (.inr (7, [.int 0, .ref (b0 + 1), .ref (b0 + 2), .null, .null, .null, .null, .null, .null, .null, .null, .null, .null, .null, .null, .null, .null, .null, .null, .null, .null, .null, .null, .null, .null, .null]))) F hE hP hz hS wx_arrI (by decide) (N := 2) (by decide) (by decide) (Nat.le_of_ble_eq_true rfl) (Nat.le_of_ble_eq_true rfl) dd_Mo_ctor_22 (cells' := 3) (slots' := 2204) rfl rfl (fun H (hP : va_P G.1 zw_cl (zw_l b0 (4) (va_up (va_up (f) (0) (.inr (7, [.int 0, .ref (b0 + 1), .ref (b0 + 2), .null, .null, .null, .null, .null, .null, .null, .null, .null, .null, .null, .null, .null, .null, .null, .null, .null, .null, .null, .null, .null, .null, .null]))) (3) (.inl (G.2 0, 2, .inl (fun _ => 0))))) H) (hz : H.size = b0 + (4)) hS => ?_)
  rw [zx_id (α := va_E) (f := va_up (f) (0) (.inr (7, [.int 0, .ref (b0 + 1), .ref (b0 + 2), .null, .null, .null, .null, .null, .null, .null, .null, .null, .null, .null, .null, .null, .null, .null, .null, .null, .null, .null, .null, .null, .null, .null]))) (a := 3) (e := .inl (G.2 0, 2, .inl (fun _ => 0))) ((va_up_ne _ _ (by decide)).trans ((hf 3 (by decide))))] at hP
  refine zx_pF (ty := .array .int) (k := 4) (f := va_up (f) (0) (.inr (7, [.int 0, .ref (b0 + 1), .ref (b0 + 2), .null, .null, .null, .null, .null, .null, .null, .null, .null, .null, .null, .null, .null, .null, .null, .null, .null, .null, .null, .null, .null, .null, .null]))) (x := 0) F hE hP hz hS (fun q _ h => Or.elim h (fun z => Nat.le_trans zsz z) id) (by decide) (zx_leC (k := 0) (a := 0) (by decide)) (va_up_self _ _ _) rfl zi_Mo zy_Mo zj_Mo zl_Mo 3 (by decide) rfl rfl hin2 rfl wf_Mo_17 (by decide +kernel) rfl rfl (Nat.le_of_ble_eq_true rfl) dd_Mo_ctor_24 (fun H locs hP (hz : H.size = b0 + (4)) hS => ?_)
  have hP : va_P G.1 zw_cl (zw_l b0 (4) (va_up (va_up (f) (0) (.inr (7, [.int 0, .ref (b0 + 1), .ref (b0 + 2), .null, .null, .null, .null, .null, .null, .null, .null, .null, .null, .null, .null, .null, .null, .null, .null, .null, .null, .null, .null, .null, .null, .null]))) (0) (.inr (7, [.int 0, .ref (b0 + 1), .ref (b0 + 2), .ref (b0 + 3), .null, .null, .null, .null, .null, .null, .null, .null, .null, .null, .null, .null, .null, .null, .null, .null, .null, .null, .null, .null, .null, .null])))) H := hP
  rw [zx_uu (α := va_E) (a := 0)] at hP
  refine W.eq (g2 := F0 m 27 ls []) rfl ?_
  refine lv_aload_n F.1 F.2.1 dd_Mo_ctor_27 rfl (lv_at hl 0 rfl) ?_
  refine lv_bipush (v := nI 16) F.1 F.2.1 dd_Mo_ctor_28 (by decide) ?_
  refine zx_newi (k := 4) (f := va_up (f) (0) (.inr (7, [.int 0, .ref (b0 + 1), .ref (b0 + 2), .ref (b0 + 3), .null, .null, .null, .null, .null, .null, .null, .null, .null, .null, .null, .null, .null, .null, .null, .null, .null, .null, .null, .null, .null, .null]))) F hE hP hz hS wx_arrI (by decide) (N := 16) (by decide) (by decide) (Nat.le_of_ble_eq_true rfl) (Nat.le_of_ble_eq_true rfl) dd_Mo_ctor_30 (cells' := 4) (slots' := 2220) rfl rfl (fun H (hP : va_P G.1 zw_cl (zw_l b0 (5) (va_up (va_up (f) (0) (.inr (7, [.int 0, .ref (b0 + 1), .ref (b0 + 2), .ref (b0 + 3), .null, .null, .null, .null, .null, .null, .null, .null, .null, .null, .null, .null, .null, .null, .null, .null, .null, .null, .null, .null, .null, .null]))) (4) (.inl (G.2 0, 16, .inl (fun _ => 0))))) H) (hz : H.size = b0 + (5)) hS => ?_)
  rw [zx_id (α := va_E) (f := va_up (f) (0) (.inr (7, [.int 0, .ref (b0 + 1), .ref (b0 + 2), .ref (b0 + 3), .null, .null, .null, .null, .null, .null, .null, .null, .null, .null, .null, .null, .null, .null, .null, .null, .null, .null, .null, .null, .null, .null]))) (a := 4) (e := .inl (G.2 0, 16, .inl (fun _ => 0))) ((va_up_ne _ _ (by decide)).trans ((hf 4 (by decide))))] at hP
  refine zx_pF (ty := .array .int) (k := 5) (f := va_up (f) (0) (.inr (7, [.int 0, .ref (b0 + 1), .ref (b0 + 2), .ref (b0 + 3), .null, .null, .null, .null, .null, .null, .null, .null, .null, .null, .null, .null, .null, .null, .null, .null, .null, .null, .null, .null, .null, .null]))) (x := 0) F hE hP hz hS (fun q _ h => Or.elim h (fun z => Nat.le_trans zsz z) id) (by decide) (zx_leC (k := 0) (a := 0) (by decide)) (va_up_self _ _ _) rfl zi_Mo zy_Mo zj_Mo zl_Mo 4 (by decide) rfl rfl hin2 rfl wf_Mo_20 (by decide +kernel) rfl rfl (Nat.le_of_ble_eq_true rfl) dd_Mo_ctor_32 (fun H locs hP (hz : H.size = b0 + (5)) hS => ?_)
  have hP : va_P G.1 zw_cl (zw_l b0 (5) (va_up (va_up (f) (0) (.inr (7, [.int 0, .ref (b0 + 1), .ref (b0 + 2), .ref (b0 + 3), .null, .null, .null, .null, .null, .null, .null, .null, .null, .null, .null, .null, .null, .null, .null, .null, .null, .null, .null, .null, .null, .null]))) (0) (.inr (7, [.int 0, .ref (b0 + 1), .ref (b0 + 2), .ref (b0 + 3), .ref (b0 + 4), .null, .null, .null, .null, .null, .null, .null, .null, .null, .null, .null, .null, .null, .null, .null, .null, .null, .null, .null, .null, .null])))) H := hP
  rw [zx_uu (α := va_E) (a := 0)] at hP
  refine W.eq (g2 := F0 m 35 ls []) rfl ?_
  refine lv_aload_n F.1 F.2.1 dd_Mo_ctor_35 rfl (lv_at hl 0 rfl) ?_
  refine lv_sipush (v := nI 2048) F.1 F.2.1 dd_Mo_ctor_36 (by decide) ?_
  refine zx_newi (k := 5) (f := va_up (f) (0) (.inr (7, [.int 0, .ref (b0 + 1), .ref (b0 + 2), .ref (b0 + 3), .ref (b0 + 4), .null, .null, .null, .null, .null, .null, .null, .null, .null, .null, .null, .null, .null, .null, .null, .null, .null, .null, .null, .null, .null]))) F hE hP hz hS wx_arrI (by decide) (N := 2048) (by decide) (by decide) (Nat.le_of_ble_eq_true rfl) (Nat.le_of_ble_eq_true rfl) dd_Mo_ctor_39 (cells' := 5) (slots' := 4268) rfl rfl (fun H (hP : va_P G.1 zw_cl (zw_l b0 (6) (va_up (va_up (f) (0) (.inr (7, [.int 0, .ref (b0 + 1), .ref (b0 + 2), .ref (b0 + 3), .ref (b0 + 4), .null, .null, .null, .null, .null, .null, .null, .null, .null, .null, .null, .null, .null, .null, .null, .null, .null, .null, .null, .null, .null]))) (5) (.inl (G.2 0, 2048, .inl (fun _ => 0))))) H) (hz : H.size = b0 + (6)) hS => ?_)
  rw [zx_id (α := va_E) (f := va_up (f) (0) (.inr (7, [.int 0, .ref (b0 + 1), .ref (b0 + 2), .ref (b0 + 3), .ref (b0 + 4), .null, .null, .null, .null, .null, .null, .null, .null, .null, .null, .null, .null, .null, .null, .null, .null, .null, .null, .null, .null, .null]))) (a := 5) (e := .inl (G.2 0, 2048, .inl (fun _ => 0))) ((va_up_ne _ _ (by decide)).trans ((hf 5 (by decide))))] at hP
  refine zx_pF (ty := .array .int) (k := 6) (f := va_up (f) (0) (.inr (7, [.int 0, .ref (b0 + 1), .ref (b0 + 2), .ref (b0 + 3), .ref (b0 + 4), .null, .null, .null, .null, .null, .null, .null, .null, .null, .null, .null, .null, .null, .null, .null, .null, .null, .null, .null, .null, .null]))) (x := 0) F hE hP hz hS (fun q _ h => Or.elim h (fun z => Nat.le_trans zsz z) id) (by decide) (zx_leC (k := 0) (a := 0) (by decide)) (va_up_self _ _ _) rfl zi_Mo zy_Mo zj_Mo zl_Mo 5 (by decide) rfl rfl hin2 rfl wf_Mo_23 (by decide +kernel) rfl rfl (Nat.le_of_ble_eq_true rfl) dd_Mo_ctor_41 (fun H locs hP (hz : H.size = b0 + (6)) hS => ?_)
  have hP : va_P G.1 zw_cl (zw_l b0 (6) (va_up (va_up (f) (0) (.inr (7, [.int 0, .ref (b0 + 1), .ref (b0 + 2), .ref (b0 + 3), .ref (b0 + 4), .null, .null, .null, .null, .null, .null, .null, .null, .null, .null, .null, .null, .null, .null, .null, .null, .null, .null, .null, .null, .null]))) (0) (.inr (7, [.int 0, .ref (b0 + 1), .ref (b0 + 2), .ref (b0 + 3), .ref (b0 + 4), .ref (b0 + 5), .null, .null, .null, .null, .null, .null, .null, .null, .null, .null, .null, .null, .null, .null, .null, .null, .null, .null, .null, .null])))) H := hP
  rw [zx_uu (α := va_E) (a := 0)] at hP
  refine W.eq (g2 := F0 m 44 ls []) rfl ?_
  refine lv_aload_n F.1 F.2.1 dd_Mo_ctor_44 rfl (lv_at hl 0 rfl) ?_
  refine lv_sipush (v := nI 2048) F.1 F.2.1 dd_Mo_ctor_45 (by decide) ?_
  refine zx_newi (k := 6) (f := va_up (f) (0) (.inr (7, [.int 0, .ref (b0 + 1), .ref (b0 + 2), .ref (b0 + 3), .ref (b0 + 4), .ref (b0 + 5), .null, .null, .null, .null, .null, .null, .null, .null, .null, .null, .null, .null, .null, .null, .null, .null, .null, .null, .null, .null]))) F hE hP hz hS wx_arrI (by decide) (N := 2048) (by decide) (by decide) (Nat.le_of_ble_eq_true rfl) (Nat.le_of_ble_eq_true rfl) dd_Mo_ctor_48 (cells' := 6) (slots' := 6316) rfl rfl (fun H (hP : va_P G.1 zw_cl (zw_l b0 (7) (va_up (va_up (f) (0) (.inr (7, [.int 0, .ref (b0 + 1), .ref (b0 + 2), .ref (b0 + 3), .ref (b0 + 4), .ref (b0 + 5), .null, .null, .null, .null, .null, .null, .null, .null, .null, .null, .null, .null, .null, .null, .null, .null, .null, .null, .null, .null]))) (6) (.inl (G.2 0, 2048, .inl (fun _ => 0))))) H) (hz : H.size = b0 + (7)) hS => ?_)
  rw [zx_id (α := va_E) (f := va_up (f) (0) (.inr (7, [.int 0, .ref (b0 + 1), .ref (b0 + 2), .ref (b0 + 3), .ref (b0 + 4), .ref (b0 + 5), .null, .null, .null, .null, .null, .null, .null, .null, .null, .null, .null, .null, .null, .null, .null, .null, .null, .null, .null, .null]))) (a := 6) (e := .inl (G.2 0, 2048, .inl (fun _ => 0))) ((va_up_ne _ _ (by decide)).trans ((hf 6 (by decide))))] at hP
  refine zx_pF (ty := .array .int) (k := 7) (f := va_up (f) (0) (.inr (7, [.int 0, .ref (b0 + 1), .ref (b0 + 2), .ref (b0 + 3), .ref (b0 + 4), .ref (b0 + 5), .null, .null, .null, .null, .null, .null, .null, .null, .null, .null, .null, .null, .null, .null, .null, .null, .null, .null, .null, .null]))) (x := 0) F hE hP hz hS (fun q _ h => Or.elim h (fun z => Nat.le_trans zsz z) id) (by decide) (zx_leC (k := 0) (a := 0) (by decide)) (va_up_self _ _ _) rfl zi_Mo zy_Mo zj_Mo zl_Mo 6 (by decide) rfl rfl hin2 rfl wf_Mo_26 (by decide +kernel) rfl rfl (Nat.le_of_ble_eq_true rfl) dd_Mo_ctor_50 (fun H locs hP (hz : H.size = b0 + (7)) hS => ?_)
  have hP : va_P G.1 zw_cl (zw_l b0 (7) (va_up (va_up (f) (0) (.inr (7, [.int 0, .ref (b0 + 1), .ref (b0 + 2), .ref (b0 + 3), .ref (b0 + 4), .ref (b0 + 5), .null, .null, .null, .null, .null, .null, .null, .null, .null, .null, .null, .null, .null, .null, .null, .null, .null, .null, .null, .null]))) (0) (.inr (7, [.int 0, .ref (b0 + 1), .ref (b0 + 2), .ref (b0 + 3), .ref (b0 + 4), .ref (b0 + 5), .ref (b0 + 6), .null, .null, .null, .null, .null, .null, .null, .null, .null, .null, .null, .null, .null, .null, .null, .null, .null, .null, .null])))) H := hP
  rw [zx_uu (α := va_E) (a := 0)] at hP
  refine W.eq (g2 := F0 m 53 ls []) rfl ?_
  refine lv_aload_n F.1 F.2.1 dd_Mo_ctor_53 rfl (lv_at hl 0 rfl) ?_
  refine lv_bipush (v := nI 6) F.1 F.2.1 dd_Mo_ctor_54 (by decide) ?_
  refine zx_newi (k := 7) (f := va_up (f) (0) (.inr (7, [.int 0, .ref (b0 + 1), .ref (b0 + 2), .ref (b0 + 3), .ref (b0 + 4), .ref (b0 + 5), .ref (b0 + 6), .null, .null, .null, .null, .null, .null, .null, .null, .null, .null, .null, .null, .null, .null, .null, .null, .null, .null, .null]))) F hE hP hz hS wx_arrI (by decide) (N := 6) (by decide) (by decide) (Nat.le_of_ble_eq_true rfl) (Nat.le_of_ble_eq_true rfl) dd_Mo_ctor_56 (cells' := 7) (slots' := 6322) rfl rfl (fun H (hP : va_P G.1 zw_cl (zw_l b0 (8) (va_up (va_up (f) (0) (.inr (7, [.int 0, .ref (b0 + 1), .ref (b0 + 2), .ref (b0 + 3), .ref (b0 + 4), .ref (b0 + 5), .ref (b0 + 6), .null, .null, .null, .null, .null, .null, .null, .null, .null, .null, .null, .null, .null, .null, .null, .null, .null, .null, .null]))) (7) (.inl (G.2 0, 6, .inl (fun _ => 0))))) H) (hz : H.size = b0 + (8)) hS => ?_)
  rw [zx_id (α := va_E) (f := va_up (f) (0) (.inr (7, [.int 0, .ref (b0 + 1), .ref (b0 + 2), .ref (b0 + 3), .ref (b0 + 4), .ref (b0 + 5), .ref (b0 + 6), .null, .null, .null, .null, .null, .null, .null, .null, .null, .null, .null, .null, .null, .null, .null, .null, .null, .null, .null]))) (a := 7) (e := .inl (G.2 0, 6, .inl (fun _ => 0))) ((va_up_ne _ _ (by decide)).trans ((hf 7 (by decide))))] at hP
  refine zx_pF (ty := .array .int) (k := 8) (f := va_up (f) (0) (.inr (7, [.int 0, .ref (b0 + 1), .ref (b0 + 2), .ref (b0 + 3), .ref (b0 + 4), .ref (b0 + 5), .ref (b0 + 6), .null, .null, .null, .null, .null, .null, .null, .null, .null, .null, .null, .null, .null, .null, .null, .null, .null, .null, .null]))) (x := 0) F hE hP hz hS (fun q _ h => Or.elim h (fun z => Nat.le_trans zsz z) id) (by decide) (zx_leC (k := 0) (a := 0) (by decide)) (va_up_self _ _ _) rfl zi_Mo zy_Mo zj_Mo zl_Mo 7 (by decide) rfl rfl hin2 rfl wf_Mo_29 (by decide +kernel) rfl rfl (Nat.le_of_ble_eq_true rfl) dd_Mo_ctor_58 (fun H locs hP (hz : H.size = b0 + (8)) hS => ?_)
  have hP : va_P G.1 zw_cl (zw_l b0 (8) (va_up (va_up (f) (0) (.inr (7, [.int 0, .ref (b0 + 1), .ref (b0 + 2), .ref (b0 + 3), .ref (b0 + 4), .ref (b0 + 5), .ref (b0 + 6), .null, .null, .null, .null, .null, .null, .null, .null, .null, .null, .null, .null, .null, .null, .null, .null, .null, .null, .null]))) (0) (.inr (7, [.int 0, .ref (b0 + 1), .ref (b0 + 2), .ref (b0 + 3), .ref (b0 + 4), .ref (b0 + 5), .ref (b0 + 6), .ref (b0 + 7), .null, .null, .null, .null, .null, .null, .null, .null, .null, .null, .null, .null, .null, .null, .null, .null, .null, .null])))) H := hP
  rw [zx_uu (α := va_E) (a := 0)] at hP
  refine W.eq (g2 := F0 m 61 ls []) rfl ?_
  refine lv_aload_n F.1 F.2.1 dd_Mo_ctor_61 rfl (lv_at hl 0 rfl) ?_
  refine lv_bipush (v := nI 6) F.1 F.2.1 dd_Mo_ctor_62 (by decide) ?_
  refine zx_newz (k := 8) (f := va_up (f) (0) (.inr (7, [.int 0, .ref (b0 + 1), .ref (b0 + 2), .ref (b0 + 3), .ref (b0 + 4), .ref (b0 + 5), .ref (b0 + 6), .ref (b0 + 7), .null, .null, .null, .null, .null, .null, .null, .null, .null, .null, .null, .null, .null, .null, .null, .null, .null, .null]))) F hE hP hz hS wx_arrZ (by decide) (N := 6) (by decide) (by decide) (Nat.le_of_ble_eq_true rfl) (Nat.le_of_ble_eq_true rfl) dd_Mo_ctor_64 (cells' := 8) (slots' := 6328) rfl rfl (fun H (hP : va_P G.1 zw_cl (zw_l b0 (9) (va_up (va_up (f) (0) (.inr (7, [.int 0, .ref (b0 + 1), .ref (b0 + 2), .ref (b0 + 3), .ref (b0 + 4), .ref (b0 + 5), .ref (b0 + 6), .ref (b0 + 7), .null, .null, .null, .null, .null, .null, .null, .null, .null, .null, .null, .null, .null, .null, .null, .null, .null, .null]))) (8) (.inl (G.2 1, 6, .inl (fun _ => 0))))) H) (hz : H.size = b0 + (9)) hS => ?_)
  rw [zx_id (α := va_E) (f := va_up (f) (0) (.inr (7, [.int 0, .ref (b0 + 1), .ref (b0 + 2), .ref (b0 + 3), .ref (b0 + 4), .ref (b0 + 5), .ref (b0 + 6), .ref (b0 + 7), .null, .null, .null, .null, .null, .null, .null, .null, .null, .null, .null, .null, .null, .null, .null, .null, .null, .null]))) (a := 8) (e := .inl (G.2 1, 6, .inl (fun _ => 0))) ((va_up_ne _ _ (by decide)).trans ((hf 8 (by decide))))] at hP
  refine zx_pF (ty := .array .boolean) (k := 9) (f := va_up (f) (0) (.inr (7, [.int 0, .ref (b0 + 1), .ref (b0 + 2), .ref (b0 + 3), .ref (b0 + 4), .ref (b0 + 5), .ref (b0 + 6), .ref (b0 + 7), .null, .null, .null, .null, .null, .null, .null, .null, .null, .null, .null, .null, .null, .null, .null, .null, .null, .null]))) (x := 0) F hE hP hz hS (fun q _ h => Or.elim h (fun z => Nat.le_trans zsz z) id) (by decide) (zx_leC (k := 0) (a := 0) (by decide)) (va_up_self _ _ _) rfl zi_Mo zy_Mo zj_Mo zl_Mo 8 (by decide) rfl rfl hin2 rfl wf_Mo_32 (by decide +kernel) rfl rfl (Nat.le_of_ble_eq_true rfl) dd_Mo_ctor_66 (fun H locs hP (hz : H.size = b0 + (9)) hS => ?_)
  have hP : va_P G.1 zw_cl (zw_l b0 (9) (va_up (va_up (f) (0) (.inr (7, [.int 0, .ref (b0 + 1), .ref (b0 + 2), .ref (b0 + 3), .ref (b0 + 4), .ref (b0 + 5), .ref (b0 + 6), .ref (b0 + 7), .null, .null, .null, .null, .null, .null, .null, .null, .null, .null, .null, .null, .null, .null, .null, .null, .null, .null]))) (0) (.inr (7, [.int 0, .ref (b0 + 1), .ref (b0 + 2), .ref (b0 + 3), .ref (b0 + 4), .ref (b0 + 5), .ref (b0 + 6), .ref (b0 + 7), .ref (b0 + 8), .null, .null, .null, .null, .null, .null, .null, .null, .null, .null, .null, .null, .null, .null, .null, .null, .null])))) H := hP
  rw [zx_uu (α := va_E) (a := 0)] at hP
  refine W.eq (g2 := F0 m 69 ls []) rfl ?_
  refine lv_aload_n F.1 F.2.1 dd_Mo_ctor_69 rfl (lv_at hl 0 rfl) ?_
  refine lv_bipush (v := nI 6) F.1 F.2.1 dd_Mo_ctor_70 (by decide) ?_
  refine zx_newi (k := 9) (f := va_up (f) (0) (.inr (7, [.int 0, .ref (b0 + 1), .ref (b0 + 2), .ref (b0 + 3), .ref (b0 + 4), .ref (b0 + 5), .ref (b0 + 6), .ref (b0 + 7), .ref (b0 + 8), .null, .null, .null, .null, .null, .null, .null, .null, .null, .null, .null, .null, .null, .null, .null, .null, .null]))) F hE hP hz hS wx_arrI (by decide) (N := 6) (by decide) (by decide) (Nat.le_of_ble_eq_true rfl) (Nat.le_of_ble_eq_true rfl) dd_Mo_ctor_72 (cells' := 9) (slots' := 6334) rfl rfl (fun H (hP : va_P G.1 zw_cl (zw_l b0 (10) (va_up (va_up (f) (0) (.inr (7, [.int 0, .ref (b0 + 1), .ref (b0 + 2), .ref (b0 + 3), .ref (b0 + 4), .ref (b0 + 5), .ref (b0 + 6), .ref (b0 + 7), .ref (b0 + 8), .null, .null, .null, .null, .null, .null, .null, .null, .null, .null, .null, .null, .null, .null, .null, .null, .null]))) (9) (.inl (G.2 0, 6, .inl (fun _ => 0))))) H) (hz : H.size = b0 + (10)) hS => ?_)
  rw [zx_id (α := va_E) (f := va_up (f) (0) (.inr (7, [.int 0, .ref (b0 + 1), .ref (b0 + 2), .ref (b0 + 3), .ref (b0 + 4), .ref (b0 + 5), .ref (b0 + 6), .ref (b0 + 7), .ref (b0 + 8), .null, .null, .null, .null, .null, .null, .null, .null, .null, .null, .null, .null, .null, .null, .null, .null, .null]))) (a := 9) (e := .inl (G.2 0, 6, .inl (fun _ => 0))) ((va_up_ne _ _ (by decide)).trans ((hf 9 (by decide))))] at hP
  refine zx_pF (ty := .array .int) (k := 10) (f := va_up (f) (0) (.inr (7, [.int 0, .ref (b0 + 1), .ref (b0 + 2), .ref (b0 + 3), .ref (b0 + 4), .ref (b0 + 5), .ref (b0 + 6), .ref (b0 + 7), .ref (b0 + 8), .null, .null, .null, .null, .null, .null, .null, .null, .null, .null, .null, .null, .null, .null, .null, .null, .null]))) (x := 0) F hE hP hz hS (fun q _ h => Or.elim h (fun z => Nat.le_trans zsz z) id) (by decide) (zx_leC (k := 0) (a := 0) (by decide)) (va_up_self _ _ _) rfl zi_Mo zy_Mo zj_Mo zl_Mo 9 (by decide) rfl rfl hin2 rfl wf_Mo_35 (by decide +kernel) rfl rfl (Nat.le_of_ble_eq_true rfl) dd_Mo_ctor_74 (fun H locs hP (hz : H.size = b0 + (10)) hS => ?_)
  have hP : va_P G.1 zw_cl (zw_l b0 (10) (va_up (va_up (f) (0) (.inr (7, [.int 0, .ref (b0 + 1), .ref (b0 + 2), .ref (b0 + 3), .ref (b0 + 4), .ref (b0 + 5), .ref (b0 + 6), .ref (b0 + 7), .ref (b0 + 8), .null, .null, .null, .null, .null, .null, .null, .null, .null, .null, .null, .null, .null, .null, .null, .null, .null]))) (0) (.inr (7, [.int 0, .ref (b0 + 1), .ref (b0 + 2), .ref (b0 + 3), .ref (b0 + 4), .ref (b0 + 5), .ref (b0 + 6), .ref (b0 + 7), .ref (b0 + 8), .ref (b0 + 9), .null, .null, .null, .null, .null, .null, .null, .null, .null, .null, .null, .null, .null, .null, .null, .null])))) H := hP
  rw [zx_uu (α := va_E) (a := 0)] at hP
  refine W.eq (g2 := F0 m 77 ls []) rfl ?_
  refine lv_aload_n F.1 F.2.1 dd_Mo_ctor_77 rfl (lv_at hl 0 rfl) ?_
  refine lv_bipush (v := nI 6) F.1 F.2.1 dd_Mo_ctor_78 (by decide) ?_
  refine zx_newi (k := 10) (f := va_up (f) (0) (.inr (7, [.int 0, .ref (b0 + 1), .ref (b0 + 2), .ref (b0 + 3), .ref (b0 + 4), .ref (b0 + 5), .ref (b0 + 6), .ref (b0 + 7), .ref (b0 + 8), .ref (b0 + 9), .null, .null, .null, .null, .null, .null, .null, .null, .null, .null, .null, .null, .null, .null, .null, .null]))) F hE hP hz hS wx_arrI (by decide) (N := 6) (by decide) (by decide) (Nat.le_of_ble_eq_true rfl) (Nat.le_of_ble_eq_true rfl) dd_Mo_ctor_80 (cells' := 10) (slots' := 6340) rfl rfl (fun H (hP : va_P G.1 zw_cl (zw_l b0 (11) (va_up (va_up (f) (0) (.inr (7, [.int 0, .ref (b0 + 1), .ref (b0 + 2), .ref (b0 + 3), .ref (b0 + 4), .ref (b0 + 5), .ref (b0 + 6), .ref (b0 + 7), .ref (b0 + 8), .ref (b0 + 9), .null, .null, .null, .null, .null, .null, .null, .null, .null, .null, .null, .null, .null, .null, .null, .null]))) (10) (.inl (G.2 0, 6, .inl (fun _ => 0))))) H) (hz : H.size = b0 + (11)) hS => ?_)
  refine lv_dup F.1 F.2.1 dd_Mo_ctor_82 rfl ?_
  refine lv_iconst (v := nI 0) F.1 F.2.1 dd_Mo_ctor_83 (by decide) ?_
  refine lv_iconst (v := nI 1) F.1 F.2.1 dd_Mo_ctor_84 (by decide) ?_
  refine zx_iast (k := 11) (f := va_up (va_up (f) (0) (.inr (7, [.int 0, .ref (b0 + 1), .ref (b0 + 2), .ref (b0 + 3), .ref (b0 + 4), .ref (b0 + 5), .ref (b0 + 6), .ref (b0 + 7), .ref (b0 + 8), .ref (b0 + 9), .null, .null, .null, .null, .null, .null, .null, .null, .null, .null, .null, .null, .null, .null, .null, .null]))) (10) (.inl (G.2 0, 6, .inl (fun _ => 0)))) (x := 10) (j := 0) F hE hP hz hS (by decide) (zx_leC (k := 0) (a := 10) (by decide)) (va_up_self _ _ _) (by decide) (by decide) dd_Mo_ctor_85 (fun H locs hP (hz : H.size = b0 + (11)) hS => ?_)
  rw [zx_uu (α := va_E) (a := 10)] at hP
  refine lv_dup F.1 F.2.1 dd_Mo_ctor_86 rfl ?_
  refine lv_iconst (v := nI 1) F.1 F.2.1 dd_Mo_ctor_87 (by decide) ?_
  refine lv_iconst (v := nI 1) F.1 F.2.1 dd_Mo_ctor_88 (by decide) ?_
  refine zx_iast (k := 11) (f := va_up (va_up (f) (0) (.inr (7, [.int 0, .ref (b0 + 1), .ref (b0 + 2), .ref (b0 + 3), .ref (b0 + 4), .ref (b0 + 5), .ref (b0 + 6), .ref (b0 + 7), .ref (b0 + 8), .ref (b0 + 9), .null, .null, .null, .null, .null, .null, .null, .null, .null, .null, .null, .null, .null, .null, .null, .null]))) (10) (.inl (G.2 0, 6, .inl (upd (fun _ => 0) 0 (nI 1))))) (x := 10) (j := 1) F hE hP hz hS (by decide) (zx_leC (k := 0) (a := 10) (by decide)) (va_up_self _ _ _) (by decide) (by decide) dd_Mo_ctor_89 (fun H locs hP (hz : H.size = b0 + (11)) hS => ?_)
  rw [zx_uu (α := va_E) (a := 10)] at hP
  refine lv_dup F.1 F.2.1 dd_Mo_ctor_90 rfl ?_
  refine lv_iconst (v := nI 2) F.1 F.2.1 dd_Mo_ctor_91 (by decide) ?_
  refine lv_iconst (v := nI 1) F.1 F.2.1 dd_Mo_ctor_92 (by decide) ?_
  refine zx_iast (k := 11) (f := va_up (va_up (f) (0) (.inr (7, [.int 0, .ref (b0 + 1), .ref (b0 + 2), .ref (b0 + 3), .ref (b0 + 4), .ref (b0 + 5), .ref (b0 + 6), .ref (b0 + 7), .ref (b0 + 8), .ref (b0 + 9), .null, .null, .null, .null, .null, .null, .null, .null, .null, .null, .null, .null, .null, .null, .null, .null]))) (10) (.inl (G.2 0, 6, .inl (upd (upd (fun _ => 0) 0 (nI 1)) 1 (nI 1))))) (x := 10) (j := 2) F hE hP hz hS (by decide) (zx_leC (k := 0) (a := 10) (by decide)) (va_up_self _ _ _) (by decide) (by decide) dd_Mo_ctor_93 (fun H locs hP (hz : H.size = b0 + (11)) hS => ?_)
  rw [zx_uu (α := va_E) (a := 10)] at hP
  refine lv_dup F.1 F.2.1 dd_Mo_ctor_94 rfl ?_
  refine lv_iconst (v := nI 3) F.1 F.2.1 dd_Mo_ctor_95 (by decide) ?_
  refine lv_iconst (v := nI 1) F.1 F.2.1 dd_Mo_ctor_96 (by decide) ?_
  refine zx_iast (k := 11) (f := va_up (va_up (f) (0) (.inr (7, [.int 0, .ref (b0 + 1), .ref (b0 + 2), .ref (b0 + 3), .ref (b0 + 4), .ref (b0 + 5), .ref (b0 + 6), .ref (b0 + 7), .ref (b0 + 8), .ref (b0 + 9), .null, .null, .null, .null, .null, .null, .null, .null, .null, .null, .null, .null, .null, .null, .null, .null]))) (10) (.inl (G.2 0, 6, .inl (upd (upd (upd (fun _ => 0) 0 (nI 1)) 1 (nI 1)) 2 (nI 1))))) (x := 10) (j := 3) F hE hP hz hS (by decide) (zx_leC (k := 0) (a := 10) (by decide)) (va_up_self _ _ _) (by decide) (by decide) dd_Mo_ctor_97 (fun H locs hP (hz : H.size = b0 + (11)) hS => ?_)
  rw [zx_uu (α := va_E) (a := 10)] at hP
  refine lv_dup F.1 F.2.1 dd_Mo_ctor_98 rfl ?_
  refine lv_iconst (v := nI 4) F.1 F.2.1 dd_Mo_ctor_99 (by decide) ?_
  refine lv_iconst (v := nI 1) F.1 F.2.1 dd_Mo_ctor_100 (by decide) ?_
  refine zx_iast (k := 11) (f := va_up (va_up (f) (0) (.inr (7, [.int 0, .ref (b0 + 1), .ref (b0 + 2), .ref (b0 + 3), .ref (b0 + 4), .ref (b0 + 5), .ref (b0 + 6), .ref (b0 + 7), .ref (b0 + 8), .ref (b0 + 9), .null, .null, .null, .null, .null, .null, .null, .null, .null, .null, .null, .null, .null, .null, .null, .null]))) (10) (.inl (G.2 0, 6, .inl (upd (upd (upd (upd (fun _ => 0) 0 (nI 1)) 1 (nI 1)) 2 (nI 1)) 3 (nI 1))))) (x := 10) (j := 4) F hE hP hz hS (by decide) (zx_leC (k := 0) (a := 10) (by decide)) (va_up_self _ _ _) (by decide) (by decide) dd_Mo_ctor_101 (fun H locs hP (hz : H.size = b0 + (11)) hS => ?_)
  rw [zx_uu (α := va_E) (a := 10)] at hP
  refine lv_dup F.1 F.2.1 dd_Mo_ctor_102 rfl ?_
  refine lv_iconst (v := nI 5) F.1 F.2.1 dd_Mo_ctor_103 (by decide) ?_
  refine lv_iconst (v := nI 1) F.1 F.2.1 dd_Mo_ctor_104 (by decide) ?_
  refine zx_iast (k := 11) (f := va_up (va_up (f) (0) (.inr (7, [.int 0, .ref (b0 + 1), .ref (b0 + 2), .ref (b0 + 3), .ref (b0 + 4), .ref (b0 + 5), .ref (b0 + 6), .ref (b0 + 7), .ref (b0 + 8), .ref (b0 + 9), .null, .null, .null, .null, .null, .null, .null, .null, .null, .null, .null, .null, .null, .null, .null, .null]))) (10) (.inl (G.2 0, 6, .inl (upd (upd (upd (upd (upd (fun _ => 0) 0 (nI 1)) 1 (nI 1)) 2 (nI 1)) 3 (nI 1)) 4 (nI 1))))) (x := 10) (j := 5) F hE hP hz hS (by decide) (zx_leC (k := 0) (a := 10) (by decide)) (va_up_self _ _ _) (by decide) (by decide) dd_Mo_ctor_105 (fun H locs hP (hz : H.size = b0 + (11)) hS => ?_)
  rw [zx_uu (α := va_E) (a := 10)] at hP
  rw [zx_id (α := va_E) (f := va_up (f) (0) (.inr (7, [.int 0, .ref (b0 + 1), .ref (b0 + 2), .ref (b0 + 3), .ref (b0 + 4), .ref (b0 + 5), .ref (b0 + 6), .ref (b0 + 7), .ref (b0 + 8), .ref (b0 + 9), .null, .null, .null, .null, .null, .null, .null, .null, .null, .null, .null, .null, .null, .null, .null, .null]))) (a := 10) (e := .inl (G.2 0, 6, .inl (upd (upd (upd (upd (upd (upd (fun _ => 0) 0 (nI 1)) 1 (nI 1)) 2 (nI 1)) 3 (nI 1)) 4 (nI 1)) 5 (nI 1)))) ((va_up_ne _ _ (by decide)).trans ((hf 10 (by decide))))] at hP
  refine zx_pF (ty := .array .int) (k := 11) (f := va_up (f) (0) (.inr (7, [.int 0, .ref (b0 + 1), .ref (b0 + 2), .ref (b0 + 3), .ref (b0 + 4), .ref (b0 + 5), .ref (b0 + 6), .ref (b0 + 7), .ref (b0 + 8), .ref (b0 + 9), .null, .null, .null, .null, .null, .null, .null, .null, .null, .null, .null, .null, .null, .null, .null, .null]))) (x := 0) F hE hP hz hS (fun q _ h => Or.elim h (fun z => Nat.le_trans zsz z) id) (by decide) (zx_leC (k := 0) (a := 0) (by decide)) (va_up_self _ _ _) rfl zi_Mo zy_Mo zj_Mo zl_Mo 10 (by decide) rfl rfl hin2 rfl wf_Mo_38 (by decide +kernel) rfl rfl (Nat.le_of_ble_eq_true rfl) dd_Mo_ctor_106 (fun H locs hP (hz : H.size = b0 + (11)) hS => ?_)
  have hP : va_P G.1 zw_cl (zw_l b0 (11) (va_up (va_up (f) (0) (.inr (7, [.int 0, .ref (b0 + 1), .ref (b0 + 2), .ref (b0 + 3), .ref (b0 + 4), .ref (b0 + 5), .ref (b0 + 6), .ref (b0 + 7), .ref (b0 + 8), .ref (b0 + 9), .null, .null, .null, .null, .null, .null, .null, .null, .null, .null, .null, .null, .null, .null, .null, .null]))) (0) (.inr (7, [.int 0, .ref (b0 + 1), .ref (b0 + 2), .ref (b0 + 3), .ref (b0 + 4), .ref (b0 + 5), .ref (b0 + 6), .ref (b0 + 7), .ref (b0 + 8), .ref (b0 + 9), .ref (b0 + 10), .null, .null, .null, .null, .null, .null, .null, .null, .null, .null, .null, .null, .null, .null, .null])))) H := hP
  rw [zx_uu (α := va_E) (a := 0)] at hP
  refine W.eq (g2 := F0 m 109 ls []) rfl ?_
  refine lv_aload_n F.1 F.2.1 dd_Mo_ctor_109 rfl (lv_at hl 0 rfl) ?_
  refine lv_bipush (v := nI 6) F.1 F.2.1 dd_Mo_ctor_110 (by decide) ?_
  refine zx_newi (k := 11) (f := va_up (f) (0) (.inr (7, [.int 0, .ref (b0 + 1), .ref (b0 + 2), .ref (b0 + 3), .ref (b0 + 4), .ref (b0 + 5), .ref (b0 + 6), .ref (b0 + 7), .ref (b0 + 8), .ref (b0 + 9), .ref (b0 + 10), .null, .null, .null, .null, .null, .null, .null, .null, .null, .null, .null, .null, .null, .null, .null]))) F hE hP hz hS wx_arrI (by decide) (N := 6) (by decide) (by decide) (Nat.le_of_ble_eq_true rfl) (Nat.le_of_ble_eq_true rfl) dd_Mo_ctor_112 (cells' := 11) (slots' := 6346) rfl rfl (fun H (hP : va_P G.1 zw_cl (zw_l b0 (12) (va_up (va_up (f) (0) (.inr (7, [.int 0, .ref (b0 + 1), .ref (b0 + 2), .ref (b0 + 3), .ref (b0 + 4), .ref (b0 + 5), .ref (b0 + 6), .ref (b0 + 7), .ref (b0 + 8), .ref (b0 + 9), .ref (b0 + 10), .null, .null, .null, .null, .null, .null, .null, .null, .null, .null, .null, .null, .null, .null, .null]))) (11) (.inl (G.2 0, 6, .inl (fun _ => 0))))) H) (hz : H.size = b0 + (12)) hS => ?_)
  refine lv_dup F.1 F.2.1 dd_Mo_ctor_114 rfl ?_
  refine lv_iconst (v := nI 0) F.1 F.2.1 dd_Mo_ctor_115 (by decide) ?_
  refine lv_iconst (v := nI 1) F.1 F.2.1 dd_Mo_ctor_116 (by decide) ?_
  refine zx_iast (k := 12) (f := va_up (va_up (f) (0) (.inr (7, [.int 0, .ref (b0 + 1), .ref (b0 + 2), .ref (b0 + 3), .ref (b0 + 4), .ref (b0 + 5), .ref (b0 + 6), .ref (b0 + 7), .ref (b0 + 8), .ref (b0 + 9), .ref (b0 + 10), .null, .null, .null, .null, .null, .null, .null, .null, .null, .null, .null, .null, .null, .null, .null]))) (11) (.inl (G.2 0, 6, .inl (fun _ => 0)))) (x := 11) (j := 0) F hE hP hz hS (by decide) (zx_leC (k := 0) (a := 11) (by decide)) (va_up_self _ _ _) (by decide) (by decide) dd_Mo_ctor_117 (fun H locs hP (hz : H.size = b0 + (12)) hS => ?_)
  rw [zx_uu (α := va_E) (a := 11)] at hP
  refine lv_dup F.1 F.2.1 dd_Mo_ctor_118 rfl ?_
  refine lv_iconst (v := nI 1) F.1 F.2.1 dd_Mo_ctor_119 (by decide) ?_
  refine lv_iconst (v := nI 1) F.1 F.2.1 dd_Mo_ctor_120 (by decide) ?_
  refine zx_iast (k := 12) (f := va_up (va_up (f) (0) (.inr (7, [.int 0, .ref (b0 + 1), .ref (b0 + 2), .ref (b0 + 3), .ref (b0 + 4), .ref (b0 + 5), .ref (b0 + 6), .ref (b0 + 7), .ref (b0 + 8), .ref (b0 + 9), .ref (b0 + 10), .null, .null, .null, .null, .null, .null, .null, .null, .null, .null, .null, .null, .null, .null, .null]))) (11) (.inl (G.2 0, 6, .inl (upd (fun _ => 0) 0 (nI 1))))) (x := 11) (j := 1) F hE hP hz hS (by decide) (zx_leC (k := 0) (a := 11) (by decide)) (va_up_self _ _ _) (by decide) (by decide) dd_Mo_ctor_121 (fun H locs hP (hz : H.size = b0 + (12)) hS => ?_)
  rw [zx_uu (α := va_E) (a := 11)] at hP
  refine lv_dup F.1 F.2.1 dd_Mo_ctor_122 rfl ?_
  refine lv_iconst (v := nI 2) F.1 F.2.1 dd_Mo_ctor_123 (by decide) ?_
  refine lv_iconst (v := nI 1) F.1 F.2.1 dd_Mo_ctor_124 (by decide) ?_
  refine zx_iast (k := 12) (f := va_up (va_up (f) (0) (.inr (7, [.int 0, .ref (b0 + 1), .ref (b0 + 2), .ref (b0 + 3), .ref (b0 + 4), .ref (b0 + 5), .ref (b0 + 6), .ref (b0 + 7), .ref (b0 + 8), .ref (b0 + 9), .ref (b0 + 10), .null, .null, .null, .null, .null, .null, .null, .null, .null, .null, .null, .null, .null, .null, .null]))) (11) (.inl (G.2 0, 6, .inl (upd (upd (fun _ => 0) 0 (nI 1)) 1 (nI 1))))) (x := 11) (j := 2) F hE hP hz hS (by decide) (zx_leC (k := 0) (a := 11) (by decide)) (va_up_self _ _ _) (by decide) (by decide) dd_Mo_ctor_125 (fun H locs hP (hz : H.size = b0 + (12)) hS => ?_)
  rw [zx_uu (α := va_E) (a := 11)] at hP
  refine lv_dup F.1 F.2.1 dd_Mo_ctor_126 rfl ?_
  refine lv_iconst (v := nI 3) F.1 F.2.1 dd_Mo_ctor_127 (by decide) ?_
  refine lv_iconst (v := nI 1) F.1 F.2.1 dd_Mo_ctor_128 (by decide) ?_
  refine zx_iast (k := 12) (f := va_up (va_up (f) (0) (.inr (7, [.int 0, .ref (b0 + 1), .ref (b0 + 2), .ref (b0 + 3), .ref (b0 + 4), .ref (b0 + 5), .ref (b0 + 6), .ref (b0 + 7), .ref (b0 + 8), .ref (b0 + 9), .ref (b0 + 10), .null, .null, .null, .null, .null, .null, .null, .null, .null, .null, .null, .null, .null, .null, .null]))) (11) (.inl (G.2 0, 6, .inl (upd (upd (upd (fun _ => 0) 0 (nI 1)) 1 (nI 1)) 2 (nI 1))))) (x := 11) (j := 3) F hE hP hz hS (by decide) (zx_leC (k := 0) (a := 11) (by decide)) (va_up_self _ _ _) (by decide) (by decide) dd_Mo_ctor_129 (fun H locs hP (hz : H.size = b0 + (12)) hS => ?_)
  rw [zx_uu (α := va_E) (a := 11)] at hP
  refine lv_dup F.1 F.2.1 dd_Mo_ctor_130 rfl ?_
  refine lv_iconst (v := nI 4) F.1 F.2.1 dd_Mo_ctor_131 (by decide) ?_
  refine lv_iconst (v := nI 1) F.1 F.2.1 dd_Mo_ctor_132 (by decide) ?_
  refine zx_iast (k := 12) (f := va_up (va_up (f) (0) (.inr (7, [.int 0, .ref (b0 + 1), .ref (b0 + 2), .ref (b0 + 3), .ref (b0 + 4), .ref (b0 + 5), .ref (b0 + 6), .ref (b0 + 7), .ref (b0 + 8), .ref (b0 + 9), .ref (b0 + 10), .null, .null, .null, .null, .null, .null, .null, .null, .null, .null, .null, .null, .null, .null, .null]))) (11) (.inl (G.2 0, 6, .inl (upd (upd (upd (upd (fun _ => 0) 0 (nI 1)) 1 (nI 1)) 2 (nI 1)) 3 (nI 1))))) (x := 11) (j := 4) F hE hP hz hS (by decide) (zx_leC (k := 0) (a := 11) (by decide)) (va_up_self _ _ _) (by decide) (by decide) dd_Mo_ctor_133 (fun H locs hP (hz : H.size = b0 + (12)) hS => ?_)
  rw [zx_uu (α := va_E) (a := 11)] at hP
  refine lv_dup F.1 F.2.1 dd_Mo_ctor_134 rfl ?_
  refine lv_iconst (v := nI 5) F.1 F.2.1 dd_Mo_ctor_135 (by decide) ?_
  refine lv_iconst (v := nI 1) F.1 F.2.1 dd_Mo_ctor_136 (by decide) ?_
  refine zx_iast (k := 12) (f := va_up (va_up (f) (0) (.inr (7, [.int 0, .ref (b0 + 1), .ref (b0 + 2), .ref (b0 + 3), .ref (b0 + 4), .ref (b0 + 5), .ref (b0 + 6), .ref (b0 + 7), .ref (b0 + 8), .ref (b0 + 9), .ref (b0 + 10), .null, .null, .null, .null, .null, .null, .null, .null, .null, .null, .null, .null, .null, .null, .null]))) (11) (.inl (G.2 0, 6, .inl (upd (upd (upd (upd (upd (fun _ => 0) 0 (nI 1)) 1 (nI 1)) 2 (nI 1)) 3 (nI 1)) 4 (nI 1))))) (x := 11) (j := 5) F hE hP hz hS (by decide) (zx_leC (k := 0) (a := 11) (by decide)) (va_up_self _ _ _) (by decide) (by decide) dd_Mo_ctor_137 (fun H locs hP (hz : H.size = b0 + (12)) hS => ?_)
  rw [zx_uu (α := va_E) (a := 11)] at hP
  rw [zx_id (α := va_E) (f := va_up (f) (0) (.inr (7, [.int 0, .ref (b0 + 1), .ref (b0 + 2), .ref (b0 + 3), .ref (b0 + 4), .ref (b0 + 5), .ref (b0 + 6), .ref (b0 + 7), .ref (b0 + 8), .ref (b0 + 9), .ref (b0 + 10), .null, .null, .null, .null, .null, .null, .null, .null, .null, .null, .null, .null, .null, .null, .null]))) (a := 11) (e := .inl (G.2 0, 6, .inl (upd (upd (upd (upd (upd (upd (fun _ => 0) 0 (nI 1)) 1 (nI 1)) 2 (nI 1)) 3 (nI 1)) 4 (nI 1)) 5 (nI 1)))) ((va_up_ne _ _ (by decide)).trans ((hf 11 (by decide))))] at hP
  refine zx_pF (ty := .array .int) (k := 12) (f := va_up (f) (0) (.inr (7, [.int 0, .ref (b0 + 1), .ref (b0 + 2), .ref (b0 + 3), .ref (b0 + 4), .ref (b0 + 5), .ref (b0 + 6), .ref (b0 + 7), .ref (b0 + 8), .ref (b0 + 9), .ref (b0 + 10), .null, .null, .null, .null, .null, .null, .null, .null, .null, .null, .null, .null, .null, .null, .null]))) (x := 0) F hE hP hz hS (fun q _ h => Or.elim h (fun z => Nat.le_trans zsz z) id) (by decide) (zx_leC (k := 0) (a := 0) (by decide)) (va_up_self _ _ _) rfl zi_Mo zy_Mo zj_Mo zl_Mo 11 (by decide) rfl rfl hin2 rfl wf_Mo_41 (by decide +kernel) rfl rfl (Nat.le_of_ble_eq_true rfl) dd_Mo_ctor_138 (fun H locs hP (hz : H.size = b0 + (12)) hS => ?_)
  have hP : va_P G.1 zw_cl (zw_l b0 (12) (va_up (va_up (f) (0) (.inr (7, [.int 0, .ref (b0 + 1), .ref (b0 + 2), .ref (b0 + 3), .ref (b0 + 4), .ref (b0 + 5), .ref (b0 + 6), .ref (b0 + 7), .ref (b0 + 8), .ref (b0 + 9), .ref (b0 + 10), .null, .null, .null, .null, .null, .null, .null, .null, .null, .null, .null, .null, .null, .null, .null]))) (0) (.inr (7, [.int 0, .ref (b0 + 1), .ref (b0 + 2), .ref (b0 + 3), .ref (b0 + 4), .ref (b0 + 5), .ref (b0 + 6), .ref (b0 + 7), .ref (b0 + 8), .ref (b0 + 9), .ref (b0 + 10), .ref (b0 + 11), .null, .null, .null, .null, .null, .null, .null, .null, .null, .null, .null, .null, .null, .null])))) H := hP
  rw [zx_uu (α := va_E) (a := 0)] at hP
  refine W.eq (g2 := F0 m 141 ls []) rfl ?_
  refine lv_aload_n F.1 F.2.1 dd_Mo_ctor_141 rfl (lv_at hl 0 rfl) ?_
  refine lv_bipush (v := nI 78) F.1 F.2.1 dd_Mo_ctor_142 (by decide) ?_
  refine zx_newi (k := 12) (f := va_up (f) (0) (.inr (7, [.int 0, .ref (b0 + 1), .ref (b0 + 2), .ref (b0 + 3), .ref (b0 + 4), .ref (b0 + 5), .ref (b0 + 6), .ref (b0 + 7), .ref (b0 + 8), .ref (b0 + 9), .ref (b0 + 10), .ref (b0 + 11), .null, .null, .null, .null, .null, .null, .null, .null, .null, .null, .null, .null, .null, .null]))) F hE hP hz hS wx_arrI (by decide) (N := 78) (by decide) (by decide) (Nat.le_of_ble_eq_true rfl) (Nat.le_of_ble_eq_true rfl) dd_Mo_ctor_144 (cells' := 12) (slots' := 6424) rfl rfl (fun H (hP : va_P G.1 zw_cl (zw_l b0 (13) (va_up (va_up (f) (0) (.inr (7, [.int 0, .ref (b0 + 1), .ref (b0 + 2), .ref (b0 + 3), .ref (b0 + 4), .ref (b0 + 5), .ref (b0 + 6), .ref (b0 + 7), .ref (b0 + 8), .ref (b0 + 9), .ref (b0 + 10), .ref (b0 + 11), .null, .null, .null, .null, .null, .null, .null, .null, .null, .null, .null, .null, .null, .null]))) (12) (.inl (G.2 0, 78, .inl (fun _ => 0))))) H) (hz : H.size = b0 + (13)) hS => ?_)
  rw [zx_id (α := va_E) (f := va_up (f) (0) (.inr (7, [.int 0, .ref (b0 + 1), .ref (b0 + 2), .ref (b0 + 3), .ref (b0 + 4), .ref (b0 + 5), .ref (b0 + 6), .ref (b0 + 7), .ref (b0 + 8), .ref (b0 + 9), .ref (b0 + 10), .ref (b0 + 11), .null, .null, .null, .null, .null, .null, .null, .null, .null, .null, .null, .null, .null, .null]))) (a := 12) (e := .inl (G.2 0, 78, .inl (fun _ => 0))) ((va_up_ne _ _ (by decide)).trans ((hf 12 (by decide))))] at hP
  refine zx_pF (ty := .array .int) (k := 13) (f := va_up (f) (0) (.inr (7, [.int 0, .ref (b0 + 1), .ref (b0 + 2), .ref (b0 + 3), .ref (b0 + 4), .ref (b0 + 5), .ref (b0 + 6), .ref (b0 + 7), .ref (b0 + 8), .ref (b0 + 9), .ref (b0 + 10), .ref (b0 + 11), .null, .null, .null, .null, .null, .null, .null, .null, .null, .null, .null, .null, .null, .null]))) (x := 0) F hE hP hz hS (fun q _ h => Or.elim h (fun z => Nat.le_trans zsz z) id) (by decide) (zx_leC (k := 0) (a := 0) (by decide)) (va_up_self _ _ _) rfl zi_Mo zy_Mo zj_Mo zl_Mo 12 (by decide) rfl rfl hin2 rfl wf_Mo_44 (by decide +kernel) rfl rfl (Nat.le_of_ble_eq_true rfl) dd_Mo_ctor_146 (fun H locs hP (hz : H.size = b0 + (13)) hS => ?_)
  have hP : va_P G.1 zw_cl (zw_l b0 (13) (va_up (va_up (f) (0) (.inr (7, [.int 0, .ref (b0 + 1), .ref (b0 + 2), .ref (b0 + 3), .ref (b0 + 4), .ref (b0 + 5), .ref (b0 + 6), .ref (b0 + 7), .ref (b0 + 8), .ref (b0 + 9), .ref (b0 + 10), .ref (b0 + 11), .null, .null, .null, .null, .null, .null, .null, .null, .null, .null, .null, .null, .null, .null]))) (0) (.inr (7, [.int 0, .ref (b0 + 1), .ref (b0 + 2), .ref (b0 + 3), .ref (b0 + 4), .ref (b0 + 5), .ref (b0 + 6), .ref (b0 + 7), .ref (b0 + 8), .ref (b0 + 9), .ref (b0 + 10), .ref (b0 + 11), .ref (b0 + 12), .null, .null, .null, .null, .null, .null, .null, .null, .null, .null, .null, .null, .null])))) H := hP
  rw [zx_uu (α := va_E) (a := 0)] at hP
  refine W.eq (g2 := F0 m 149 ls []) rfl ?_
  refine lv_aload_n F.1 F.2.1 dd_Mo_ctor_149 rfl (lv_at hl 0 rfl) ?_
  refine lv_bipush (v := nI 78) F.1 F.2.1 dd_Mo_ctor_150 (by decide) ?_
  refine zx_newi (k := 13) (f := va_up (f) (0) (.inr (7, [.int 0, .ref (b0 + 1), .ref (b0 + 2), .ref (b0 + 3), .ref (b0 + 4), .ref (b0 + 5), .ref (b0 + 6), .ref (b0 + 7), .ref (b0 + 8), .ref (b0 + 9), .ref (b0 + 10), .ref (b0 + 11), .ref (b0 + 12), .null, .null, .null, .null, .null, .null, .null, .null, .null, .null, .null, .null, .null]))) F hE hP hz hS wx_arrI (by decide) (N := 78) (by decide) (by decide) (Nat.le_of_ble_eq_true rfl) (Nat.le_of_ble_eq_true rfl) dd_Mo_ctor_152 (cells' := 13) (slots' := 6502) rfl rfl (fun H (hP : va_P G.1 zw_cl (zw_l b0 (14) (va_up (va_up (f) (0) (.inr (7, [.int 0, .ref (b0 + 1), .ref (b0 + 2), .ref (b0 + 3), .ref (b0 + 4), .ref (b0 + 5), .ref (b0 + 6), .ref (b0 + 7), .ref (b0 + 8), .ref (b0 + 9), .ref (b0 + 10), .ref (b0 + 11), .ref (b0 + 12), .null, .null, .null, .null, .null, .null, .null, .null, .null, .null, .null, .null, .null]))) (13) (.inl (G.2 0, 78, .inl (fun _ => 0))))) H) (hz : H.size = b0 + (14)) hS => ?_)
  rw [zx_id (α := va_E) (f := va_up (f) (0) (.inr (7, [.int 0, .ref (b0 + 1), .ref (b0 + 2), .ref (b0 + 3), .ref (b0 + 4), .ref (b0 + 5), .ref (b0 + 6), .ref (b0 + 7), .ref (b0 + 8), .ref (b0 + 9), .ref (b0 + 10), .ref (b0 + 11), .ref (b0 + 12), .null, .null, .null, .null, .null, .null, .null, .null, .null, .null, .null, .null, .null]))) (a := 13) (e := .inl (G.2 0, 78, .inl (fun _ => 0))) ((va_up_ne _ _ (by decide)).trans ((hf 13 (by decide))))] at hP
  refine zx_pF (ty := .array .int) (k := 14) (f := va_up (f) (0) (.inr (7, [.int 0, .ref (b0 + 1), .ref (b0 + 2), .ref (b0 + 3), .ref (b0 + 4), .ref (b0 + 5), .ref (b0 + 6), .ref (b0 + 7), .ref (b0 + 8), .ref (b0 + 9), .ref (b0 + 10), .ref (b0 + 11), .ref (b0 + 12), .null, .null, .null, .null, .null, .null, .null, .null, .null, .null, .null, .null, .null]))) (x := 0) F hE hP hz hS (fun q _ h => Or.elim h (fun z => Nat.le_trans zsz z) id) (by decide) (zx_leC (k := 0) (a := 0) (by decide)) (va_up_self _ _ _) rfl zi_Mo zy_Mo zj_Mo zl_Mo 13 (by decide) rfl rfl hin2 rfl wf_Mo_47 (by decide +kernel) rfl rfl (Nat.le_of_ble_eq_true rfl) dd_Mo_ctor_154 (fun H locs hP (hz : H.size = b0 + (14)) hS => ?_)
  have hP : va_P G.1 zw_cl (zw_l b0 (14) (va_up (va_up (f) (0) (.inr (7, [.int 0, .ref (b0 + 1), .ref (b0 + 2), .ref (b0 + 3), .ref (b0 + 4), .ref (b0 + 5), .ref (b0 + 6), .ref (b0 + 7), .ref (b0 + 8), .ref (b0 + 9), .ref (b0 + 10), .ref (b0 + 11), .ref (b0 + 12), .null, .null, .null, .null, .null, .null, .null, .null, .null, .null, .null, .null, .null]))) (0) (.inr (7, [.int 0, .ref (b0 + 1), .ref (b0 + 2), .ref (b0 + 3), .ref (b0 + 4), .ref (b0 + 5), .ref (b0 + 6), .ref (b0 + 7), .ref (b0 + 8), .ref (b0 + 9), .ref (b0 + 10), .ref (b0 + 11), .ref (b0 + 12), .ref (b0 + 13), .null, .null, .null, .null, .null, .null, .null, .null, .null, .null, .null, .null])))) H := hP
  rw [zx_uu (α := va_E) (a := 0)] at hP
  refine W.eq (g2 := F0 m 157 ls []) rfl ?_
  refine lv_aload_n F.1 F.2.1 dd_Mo_ctor_157 rfl (lv_at hl 0 rfl) ?_
  refine lv_bipush (v := nI 78) F.1 F.2.1 dd_Mo_ctor_158 (by decide) ?_
  refine zx_newi (k := 14) (f := va_up (f) (0) (.inr (7, [.int 0, .ref (b0 + 1), .ref (b0 + 2), .ref (b0 + 3), .ref (b0 + 4), .ref (b0 + 5), .ref (b0 + 6), .ref (b0 + 7), .ref (b0 + 8), .ref (b0 + 9), .ref (b0 + 10), .ref (b0 + 11), .ref (b0 + 12), .ref (b0 + 13), .null, .null, .null, .null, .null, .null, .null, .null, .null, .null, .null, .null]))) F hE hP hz hS wx_arrI (by decide) (N := 78) (by decide) (by decide) (Nat.le_of_ble_eq_true rfl) (Nat.le_of_ble_eq_true rfl) dd_Mo_ctor_160 (cells' := 14) (slots' := 6580) rfl rfl (fun H (hP : va_P G.1 zw_cl (zw_l b0 (15) (va_up (va_up (f) (0) (.inr (7, [.int 0, .ref (b0 + 1), .ref (b0 + 2), .ref (b0 + 3), .ref (b0 + 4), .ref (b0 + 5), .ref (b0 + 6), .ref (b0 + 7), .ref (b0 + 8), .ref (b0 + 9), .ref (b0 + 10), .ref (b0 + 11), .ref (b0 + 12), .ref (b0 + 13), .null, .null, .null, .null, .null, .null, .null, .null, .null, .null, .null, .null]))) (14) (.inl (G.2 0, 78, .inl (fun _ => 0))))) H) (hz : H.size = b0 + (15)) hS => ?_)
  rw [zx_id (α := va_E) (f := va_up (f) (0) (.inr (7, [.int 0, .ref (b0 + 1), .ref (b0 + 2), .ref (b0 + 3), .ref (b0 + 4), .ref (b0 + 5), .ref (b0 + 6), .ref (b0 + 7), .ref (b0 + 8), .ref (b0 + 9), .ref (b0 + 10), .ref (b0 + 11), .ref (b0 + 12), .ref (b0 + 13), .null, .null, .null, .null, .null, .null, .null, .null, .null, .null, .null, .null]))) (a := 14) (e := .inl (G.2 0, 78, .inl (fun _ => 0))) ((va_up_ne _ _ (by decide)).trans ((hf 14 (by decide))))] at hP
  refine zx_pF (ty := .array .int) (k := 15) (f := va_up (f) (0) (.inr (7, [.int 0, .ref (b0 + 1), .ref (b0 + 2), .ref (b0 + 3), .ref (b0 + 4), .ref (b0 + 5), .ref (b0 + 6), .ref (b0 + 7), .ref (b0 + 8), .ref (b0 + 9), .ref (b0 + 10), .ref (b0 + 11), .ref (b0 + 12), .ref (b0 + 13), .null, .null, .null, .null, .null, .null, .null, .null, .null, .null, .null, .null]))) (x := 0) F hE hP hz hS (fun q _ h => Or.elim h (fun z => Nat.le_trans zsz z) id) (by decide) (zx_leC (k := 0) (a := 0) (by decide)) (va_up_self _ _ _) rfl zi_Mo zy_Mo zj_Mo zl_Mo 14 (by decide) rfl rfl hin2 rfl wf_Mo_50 (by decide +kernel) rfl rfl (Nat.le_of_ble_eq_true rfl) dd_Mo_ctor_162 (fun H locs hP (hz : H.size = b0 + (15)) hS => ?_)
  have hP : va_P G.1 zw_cl (zw_l b0 (15) (va_up (va_up (f) (0) (.inr (7, [.int 0, .ref (b0 + 1), .ref (b0 + 2), .ref (b0 + 3), .ref (b0 + 4), .ref (b0 + 5), .ref (b0 + 6), .ref (b0 + 7), .ref (b0 + 8), .ref (b0 + 9), .ref (b0 + 10), .ref (b0 + 11), .ref (b0 + 12), .ref (b0 + 13), .null, .null, .null, .null, .null, .null, .null, .null, .null, .null, .null, .null]))) (0) (.inr (7, [.int 0, .ref (b0 + 1), .ref (b0 + 2), .ref (b0 + 3), .ref (b0 + 4), .ref (b0 + 5), .ref (b0 + 6), .ref (b0 + 7), .ref (b0 + 8), .ref (b0 + 9), .ref (b0 + 10), .ref (b0 + 11), .ref (b0 + 12), .ref (b0 + 13), .ref (b0 + 14), .null, .null, .null, .null, .null, .null, .null, .null, .null, .null, .null])))) H := hP
  rw [zx_uu (α := va_E) (a := 0)] at hP
  refine W.eq (g2 := F0 m 165 ls []) rfl ?_
  refine lv_aload_n F.1 F.2.1 dd_Mo_ctor_165 rfl (lv_at hl 0 rfl) ?_
  refine lv_bipush (v := nI 78) F.1 F.2.1 dd_Mo_ctor_166 (by decide) ?_
  refine zx_newi (k := 15) (f := va_up (f) (0) (.inr (7, [.int 0, .ref (b0 + 1), .ref (b0 + 2), .ref (b0 + 3), .ref (b0 + 4), .ref (b0 + 5), .ref (b0 + 6), .ref (b0 + 7), .ref (b0 + 8), .ref (b0 + 9), .ref (b0 + 10), .ref (b0 + 11), .ref (b0 + 12), .ref (b0 + 13), .ref (b0 + 14), .null, .null, .null, .null, .null, .null, .null, .null, .null, .null, .null]))) F hE hP hz hS wx_arrI (by decide) (N := 78) (by decide) (by decide) (Nat.le_of_ble_eq_true rfl) (Nat.le_of_ble_eq_true rfl) dd_Mo_ctor_168 (cells' := 15) (slots' := 6658) rfl rfl (fun H (hP : va_P G.1 zw_cl (zw_l b0 (16) (va_up (va_up (f) (0) (.inr (7, [.int 0, .ref (b0 + 1), .ref (b0 + 2), .ref (b0 + 3), .ref (b0 + 4), .ref (b0 + 5), .ref (b0 + 6), .ref (b0 + 7), .ref (b0 + 8), .ref (b0 + 9), .ref (b0 + 10), .ref (b0 + 11), .ref (b0 + 12), .ref (b0 + 13), .ref (b0 + 14), .null, .null, .null, .null, .null, .null, .null, .null, .null, .null, .null]))) (15) (.inl (G.2 0, 78, .inl (fun _ => 0))))) H) (hz : H.size = b0 + (16)) hS => ?_)
  rw [zx_id (α := va_E) (f := va_up (f) (0) (.inr (7, [.int 0, .ref (b0 + 1), .ref (b0 + 2), .ref (b0 + 3), .ref (b0 + 4), .ref (b0 + 5), .ref (b0 + 6), .ref (b0 + 7), .ref (b0 + 8), .ref (b0 + 9), .ref (b0 + 10), .ref (b0 + 11), .ref (b0 + 12), .ref (b0 + 13), .ref (b0 + 14), .null, .null, .null, .null, .null, .null, .null, .null, .null, .null, .null]))) (a := 15) (e := .inl (G.2 0, 78, .inl (fun _ => 0))) ((va_up_ne _ _ (by decide)).trans ((hf 15 (by decide))))] at hP
  refine zx_pF (ty := .array .int) (k := 16) (f := va_up (f) (0) (.inr (7, [.int 0, .ref (b0 + 1), .ref (b0 + 2), .ref (b0 + 3), .ref (b0 + 4), .ref (b0 + 5), .ref (b0 + 6), .ref (b0 + 7), .ref (b0 + 8), .ref (b0 + 9), .ref (b0 + 10), .ref (b0 + 11), .ref (b0 + 12), .ref (b0 + 13), .ref (b0 + 14), .null, .null, .null, .null, .null, .null, .null, .null, .null, .null, .null]))) (x := 0) F hE hP hz hS (fun q _ h => Or.elim h (fun z => Nat.le_trans zsz z) id) (by decide) (zx_leC (k := 0) (a := 0) (by decide)) (va_up_self _ _ _) rfl zi_Mo zy_Mo zj_Mo zl_Mo 15 (by decide) rfl rfl hin2 rfl wf_Mo_53 (by decide +kernel) rfl rfl (Nat.le_of_ble_eq_true rfl) dd_Mo_ctor_170 (fun H locs hP (hz : H.size = b0 + (16)) hS => ?_)
  have hP : va_P G.1 zw_cl (zw_l b0 (16) (va_up (va_up (f) (0) (.inr (7, [.int 0, .ref (b0 + 1), .ref (b0 + 2), .ref (b0 + 3), .ref (b0 + 4), .ref (b0 + 5), .ref (b0 + 6), .ref (b0 + 7), .ref (b0 + 8), .ref (b0 + 9), .ref (b0 + 10), .ref (b0 + 11), .ref (b0 + 12), .ref (b0 + 13), .ref (b0 + 14), .null, .null, .null, .null, .null, .null, .null, .null, .null, .null, .null]))) (0) (.inr (7, [.int 0, .ref (b0 + 1), .ref (b0 + 2), .ref (b0 + 3), .ref (b0 + 4), .ref (b0 + 5), .ref (b0 + 6), .ref (b0 + 7), .ref (b0 + 8), .ref (b0 + 9), .ref (b0 + 10), .ref (b0 + 11), .ref (b0 + 12), .ref (b0 + 13), .ref (b0 + 14), .ref (b0 + 15), .null, .null, .null, .null, .null, .null, .null, .null, .null, .null])))) H := hP
  rw [zx_uu (α := va_E) (a := 0)] at hP
  refine W.eq (g2 := F0 m 173 ls []) rfl ?_
  refine lv_aload_n F.1 F.2.1 dd_Mo_ctor_173 rfl (lv_at hl 0 rfl) ?_
  refine lv_bipush (v := nI 78) F.1 F.2.1 dd_Mo_ctor_174 (by decide) ?_
  refine zx_newi (k := 16) (f := va_up (f) (0) (.inr (7, [.int 0, .ref (b0 + 1), .ref (b0 + 2), .ref (b0 + 3), .ref (b0 + 4), .ref (b0 + 5), .ref (b0 + 6), .ref (b0 + 7), .ref (b0 + 8), .ref (b0 + 9), .ref (b0 + 10), .ref (b0 + 11), .ref (b0 + 12), .ref (b0 + 13), .ref (b0 + 14), .ref (b0 + 15), .null, .null, .null, .null, .null, .null, .null, .null, .null, .null]))) F hE hP hz hS wx_arrI (by decide) (N := 78) (by decide) (by decide) (Nat.le_of_ble_eq_true rfl) (Nat.le_of_ble_eq_true rfl) dd_Mo_ctor_176 (cells' := 16) (slots' := 6736) rfl rfl (fun H (hP : va_P G.1 zw_cl (zw_l b0 (17) (va_up (va_up (f) (0) (.inr (7, [.int 0, .ref (b0 + 1), .ref (b0 + 2), .ref (b0 + 3), .ref (b0 + 4), .ref (b0 + 5), .ref (b0 + 6), .ref (b0 + 7), .ref (b0 + 8), .ref (b0 + 9), .ref (b0 + 10), .ref (b0 + 11), .ref (b0 + 12), .ref (b0 + 13), .ref (b0 + 14), .ref (b0 + 15), .null, .null, .null, .null, .null, .null, .null, .null, .null, .null]))) (16) (.inl (G.2 0, 78, .inl (fun _ => 0))))) H) (hz : H.size = b0 + (17)) hS => ?_)
  rw [zx_id (α := va_E) (f := va_up (f) (0) (.inr (7, [.int 0, .ref (b0 + 1), .ref (b0 + 2), .ref (b0 + 3), .ref (b0 + 4), .ref (b0 + 5), .ref (b0 + 6), .ref (b0 + 7), .ref (b0 + 8), .ref (b0 + 9), .ref (b0 + 10), .ref (b0 + 11), .ref (b0 + 12), .ref (b0 + 13), .ref (b0 + 14), .ref (b0 + 15), .null, .null, .null, .null, .null, .null, .null, .null, .null, .null]))) (a := 16) (e := .inl (G.2 0, 78, .inl (fun _ => 0))) ((va_up_ne _ _ (by decide)).trans ((hf 16 (by decide))))] at hP
  refine zx_pF (ty := .array .int) (k := 17) (f := va_up (f) (0) (.inr (7, [.int 0, .ref (b0 + 1), .ref (b0 + 2), .ref (b0 + 3), .ref (b0 + 4), .ref (b0 + 5), .ref (b0 + 6), .ref (b0 + 7), .ref (b0 + 8), .ref (b0 + 9), .ref (b0 + 10), .ref (b0 + 11), .ref (b0 + 12), .ref (b0 + 13), .ref (b0 + 14), .ref (b0 + 15), .null, .null, .null, .null, .null, .null, .null, .null, .null, .null]))) (x := 0) F hE hP hz hS (fun q _ h => Or.elim h (fun z => Nat.le_trans zsz z) id) (by decide) (zx_leC (k := 0) (a := 0) (by decide)) (va_up_self _ _ _) rfl zi_Mo zy_Mo zj_Mo zl_Mo 16 (by decide) rfl rfl hin2 rfl wf_Mo_56 (by decide +kernel) rfl rfl (Nat.le_of_ble_eq_true rfl) dd_Mo_ctor_178 (fun H locs hP (hz : H.size = b0 + (17)) hS => ?_)
  have hP : va_P G.1 zw_cl (zw_l b0 (17) (va_up (va_up (f) (0) (.inr (7, [.int 0, .ref (b0 + 1), .ref (b0 + 2), .ref (b0 + 3), .ref (b0 + 4), .ref (b0 + 5), .ref (b0 + 6), .ref (b0 + 7), .ref (b0 + 8), .ref (b0 + 9), .ref (b0 + 10), .ref (b0 + 11), .ref (b0 + 12), .ref (b0 + 13), .ref (b0 + 14), .ref (b0 + 15), .null, .null, .null, .null, .null, .null, .null, .null, .null, .null]))) (0) (.inr (7, [.int 0, .ref (b0 + 1), .ref (b0 + 2), .ref (b0 + 3), .ref (b0 + 4), .ref (b0 + 5), .ref (b0 + 6), .ref (b0 + 7), .ref (b0 + 8), .ref (b0 + 9), .ref (b0 + 10), .ref (b0 + 11), .ref (b0 + 12), .ref (b0 + 13), .ref (b0 + 14), .ref (b0 + 15), .ref (b0 + 16), .null, .null, .null, .null, .null, .null, .null, .null, .null])))) H := hP
  rw [zx_uu (α := va_E) (a := 0)] at hP
  refine W.eq (g2 := F0 m 181 ls []) rfl ?_
  refine lv_aload_n F.1 F.2.1 dd_Mo_ctor_181 rfl (lv_at hl 0 rfl) ?_
  refine lv_bipush (v := nI 78) F.1 F.2.1 dd_Mo_ctor_182 (by decide) ?_
  refine zx_newi (k := 17) (f := va_up (f) (0) (.inr (7, [.int 0, .ref (b0 + 1), .ref (b0 + 2), .ref (b0 + 3), .ref (b0 + 4), .ref (b0 + 5), .ref (b0 + 6), .ref (b0 + 7), .ref (b0 + 8), .ref (b0 + 9), .ref (b0 + 10), .ref (b0 + 11), .ref (b0 + 12), .ref (b0 + 13), .ref (b0 + 14), .ref (b0 + 15), .ref (b0 + 16), .null, .null, .null, .null, .null, .null, .null, .null, .null]))) F hE hP hz hS wx_arrI (by decide) (N := 78) (by decide) (by decide) (Nat.le_of_ble_eq_true rfl) (Nat.le_of_ble_eq_true rfl) dd_Mo_ctor_184 (cells' := 17) (slots' := 6814) rfl rfl (fun H (hP : va_P G.1 zw_cl (zw_l b0 (18) (va_up (va_up (f) (0) (.inr (7, [.int 0, .ref (b0 + 1), .ref (b0 + 2), .ref (b0 + 3), .ref (b0 + 4), .ref (b0 + 5), .ref (b0 + 6), .ref (b0 + 7), .ref (b0 + 8), .ref (b0 + 9), .ref (b0 + 10), .ref (b0 + 11), .ref (b0 + 12), .ref (b0 + 13), .ref (b0 + 14), .ref (b0 + 15), .ref (b0 + 16), .null, .null, .null, .null, .null, .null, .null, .null, .null]))) (17) (.inl (G.2 0, 78, .inl (fun _ => 0))))) H) (hz : H.size = b0 + (18)) hS => ?_)
  rw [zx_id (α := va_E) (f := va_up (f) (0) (.inr (7, [.int 0, .ref (b0 + 1), .ref (b0 + 2), .ref (b0 + 3), .ref (b0 + 4), .ref (b0 + 5), .ref (b0 + 6), .ref (b0 + 7), .ref (b0 + 8), .ref (b0 + 9), .ref (b0 + 10), .ref (b0 + 11), .ref (b0 + 12), .ref (b0 + 13), .ref (b0 + 14), .ref (b0 + 15), .ref (b0 + 16), .null, .null, .null, .null, .null, .null, .null, .null, .null]))) (a := 17) (e := .inl (G.2 0, 78, .inl (fun _ => 0))) ((va_up_ne _ _ (by decide)).trans ((hf 17 (by decide))))] at hP
  refine zx_pF (ty := .array .int) (k := 18) (f := va_up (f) (0) (.inr (7, [.int 0, .ref (b0 + 1), .ref (b0 + 2), .ref (b0 + 3), .ref (b0 + 4), .ref (b0 + 5), .ref (b0 + 6), .ref (b0 + 7), .ref (b0 + 8), .ref (b0 + 9), .ref (b0 + 10), .ref (b0 + 11), .ref (b0 + 12), .ref (b0 + 13), .ref (b0 + 14), .ref (b0 + 15), .ref (b0 + 16), .null, .null, .null, .null, .null, .null, .null, .null, .null]))) (x := 0) F hE hP hz hS (fun q _ h => Or.elim h (fun z => Nat.le_trans zsz z) id) (by decide) (zx_leC (k := 0) (a := 0) (by decide)) (va_up_self _ _ _) rfl zi_Mo zy_Mo zj_Mo zl_Mo 17 (by decide) rfl rfl hin2 rfl wf_Mo_59 (by decide +kernel) rfl rfl (Nat.le_of_ble_eq_true rfl) dd_Mo_ctor_186 (fun H locs hP (hz : H.size = b0 + (18)) hS => ?_)
  have hP : va_P G.1 zw_cl (zw_l b0 (18) (va_up (va_up (f) (0) (.inr (7, [.int 0, .ref (b0 + 1), .ref (b0 + 2), .ref (b0 + 3), .ref (b0 + 4), .ref (b0 + 5), .ref (b0 + 6), .ref (b0 + 7), .ref (b0 + 8), .ref (b0 + 9), .ref (b0 + 10), .ref (b0 + 11), .ref (b0 + 12), .ref (b0 + 13), .ref (b0 + 14), .ref (b0 + 15), .ref (b0 + 16), .null, .null, .null, .null, .null, .null, .null, .null, .null]))) (0) (.inr (7, [.int 0, .ref (b0 + 1), .ref (b0 + 2), .ref (b0 + 3), .ref (b0 + 4), .ref (b0 + 5), .ref (b0 + 6), .ref (b0 + 7), .ref (b0 + 8), .ref (b0 + 9), .ref (b0 + 10), .ref (b0 + 11), .ref (b0 + 12), .ref (b0 + 13), .ref (b0 + 14), .ref (b0 + 15), .ref (b0 + 16), .ref (b0 + 17), .null, .null, .null, .null, .null, .null, .null, .null])))) H := hP
  rw [zx_uu (α := va_E) (a := 0)] at hP
  refine W.eq (g2 := F0 m 189 ls []) rfl ?_
  refine lv_aload_n F.1 F.2.1 dd_Mo_ctor_189 rfl (lv_at hl 0 rfl) ?_
  refine lv_bipush (v := nI 78) F.1 F.2.1 dd_Mo_ctor_190 (by decide) ?_
  refine zx_newi (k := 18) (f := va_up (f) (0) (.inr (7, [.int 0, .ref (b0 + 1), .ref (b0 + 2), .ref (b0 + 3), .ref (b0 + 4), .ref (b0 + 5), .ref (b0 + 6), .ref (b0 + 7), .ref (b0 + 8), .ref (b0 + 9), .ref (b0 + 10), .ref (b0 + 11), .ref (b0 + 12), .ref (b0 + 13), .ref (b0 + 14), .ref (b0 + 15), .ref (b0 + 16), .ref (b0 + 17), .null, .null, .null, .null, .null, .null, .null, .null]))) F hE hP hz hS wx_arrI (by decide) (N := 78) (by decide) (by decide) (Nat.le_of_ble_eq_true rfl) (Nat.le_of_ble_eq_true rfl) dd_Mo_ctor_192 (cells' := 18) (slots' := 6892) rfl rfl (fun H (hP : va_P G.1 zw_cl (zw_l b0 (19) (va_up (va_up (f) (0) (.inr (7, [.int 0, .ref (b0 + 1), .ref (b0 + 2), .ref (b0 + 3), .ref (b0 + 4), .ref (b0 + 5), .ref (b0 + 6), .ref (b0 + 7), .ref (b0 + 8), .ref (b0 + 9), .ref (b0 + 10), .ref (b0 + 11), .ref (b0 + 12), .ref (b0 + 13), .ref (b0 + 14), .ref (b0 + 15), .ref (b0 + 16), .ref (b0 + 17), .null, .null, .null, .null, .null, .null, .null, .null]))) (18) (.inl (G.2 0, 78, .inl (fun _ => 0))))) H) (hz : H.size = b0 + (19)) hS => ?_)
  rw [zx_id (α := va_E) (f := va_up (f) (0) (.inr (7, [.int 0, .ref (b0 + 1), .ref (b0 + 2), .ref (b0 + 3), .ref (b0 + 4), .ref (b0 + 5), .ref (b0 + 6), .ref (b0 + 7), .ref (b0 + 8), .ref (b0 + 9), .ref (b0 + 10), .ref (b0 + 11), .ref (b0 + 12), .ref (b0 + 13), .ref (b0 + 14), .ref (b0 + 15), .ref (b0 + 16), .ref (b0 + 17), .null, .null, .null, .null, .null, .null, .null, .null]))) (a := 18) (e := .inl (G.2 0, 78, .inl (fun _ => 0))) ((va_up_ne _ _ (by decide)).trans ((hf 18 (by decide))))] at hP
  refine zx_pF (ty := .array .int) (k := 19) (f := va_up (f) (0) (.inr (7, [.int 0, .ref (b0 + 1), .ref (b0 + 2), .ref (b0 + 3), .ref (b0 + 4), .ref (b0 + 5), .ref (b0 + 6), .ref (b0 + 7), .ref (b0 + 8), .ref (b0 + 9), .ref (b0 + 10), .ref (b0 + 11), .ref (b0 + 12), .ref (b0 + 13), .ref (b0 + 14), .ref (b0 + 15), .ref (b0 + 16), .ref (b0 + 17), .null, .null, .null, .null, .null, .null, .null, .null]))) (x := 0) F hE hP hz hS (fun q _ h => Or.elim h (fun z => Nat.le_trans zsz z) id) (by decide) (zx_leC (k := 0) (a := 0) (by decide)) (va_up_self _ _ _) rfl zi_Mo zy_Mo zj_Mo zl_Mo 18 (by decide) rfl rfl hin2 rfl wf_Mo_62 (by decide +kernel) rfl rfl (Nat.le_of_ble_eq_true rfl) dd_Mo_ctor_194 (fun H locs hP (hz : H.size = b0 + (19)) hS => ?_)
  have hP : va_P G.1 zw_cl (zw_l b0 (19) (va_up (va_up (f) (0) (.inr (7, [.int 0, .ref (b0 + 1), .ref (b0 + 2), .ref (b0 + 3), .ref (b0 + 4), .ref (b0 + 5), .ref (b0 + 6), .ref (b0 + 7), .ref (b0 + 8), .ref (b0 + 9), .ref (b0 + 10), .ref (b0 + 11), .ref (b0 + 12), .ref (b0 + 13), .ref (b0 + 14), .ref (b0 + 15), .ref (b0 + 16), .ref (b0 + 17), .null, .null, .null, .null, .null, .null, .null, .null]))) (0) (.inr (7, [.int 0, .ref (b0 + 1), .ref (b0 + 2), .ref (b0 + 3), .ref (b0 + 4), .ref (b0 + 5), .ref (b0 + 6), .ref (b0 + 7), .ref (b0 + 8), .ref (b0 + 9), .ref (b0 + 10), .ref (b0 + 11), .ref (b0 + 12), .ref (b0 + 13), .ref (b0 + 14), .ref (b0 + 15), .ref (b0 + 16), .ref (b0 + 17), .ref (b0 + 18), .null, .null, .null, .null, .null, .null, .null])))) H := hP
  rw [zx_uu (α := va_E) (a := 0)] at hP
  refine W.eq (g2 := F0 m 197 ls []) rfl ?_
  refine lv_aload_n F.1 F.2.1 dd_Mo_ctor_197 rfl (lv_at hl 0 rfl) ?_
  refine lv_bipush (v := nI 48) F.1 F.2.1 dd_Mo_ctor_198 (by decide) ?_
  refine zx_newi (k := 19) (f := va_up (f) (0) (.inr (7, [.int 0, .ref (b0 + 1), .ref (b0 + 2), .ref (b0 + 3), .ref (b0 + 4), .ref (b0 + 5), .ref (b0 + 6), .ref (b0 + 7), .ref (b0 + 8), .ref (b0 + 9), .ref (b0 + 10), .ref (b0 + 11), .ref (b0 + 12), .ref (b0 + 13), .ref (b0 + 14), .ref (b0 + 15), .ref (b0 + 16), .ref (b0 + 17), .ref (b0 + 18), .null, .null, .null, .null, .null, .null, .null]))) F hE hP hz hS wx_arrI (by decide) (N := 48) (by decide) (by decide) (Nat.le_of_ble_eq_true rfl) (Nat.le_of_ble_eq_true rfl) dd_Mo_ctor_200 (cells' := 19) (slots' := 6940) rfl rfl (fun H (hP : va_P G.1 zw_cl (zw_l b0 (20) (va_up (va_up (f) (0) (.inr (7, [.int 0, .ref (b0 + 1), .ref (b0 + 2), .ref (b0 + 3), .ref (b0 + 4), .ref (b0 + 5), .ref (b0 + 6), .ref (b0 + 7), .ref (b0 + 8), .ref (b0 + 9), .ref (b0 + 10), .ref (b0 + 11), .ref (b0 + 12), .ref (b0 + 13), .ref (b0 + 14), .ref (b0 + 15), .ref (b0 + 16), .ref (b0 + 17), .ref (b0 + 18), .null, .null, .null, .null, .null, .null, .null]))) (19) (.inl (G.2 0, 48, .inl (fun _ => 0))))) H) (hz : H.size = b0 + (20)) hS => ?_)
  refine zx_pF (ty := .array .int) (k := 20) (f := va_up (va_up (f) (0) (.inr (7, [.int 0, .ref (b0 + 1), .ref (b0 + 2), .ref (b0 + 3), .ref (b0 + 4), .ref (b0 + 5), .ref (b0 + 6), .ref (b0 + 7), .ref (b0 + 8), .ref (b0 + 9), .ref (b0 + 10), .ref (b0 + 11), .ref (b0 + 12), .ref (b0 + 13), .ref (b0 + 14), .ref (b0 + 15), .ref (b0 + 16), .ref (b0 + 17), .ref (b0 + 18), .null, .null, .null, .null, .null, .null, .null]))) (19) (.inl (G.2 0, 48, .inl (fun _ => 0)))) (x := 0) F hE hP hz hS (fun q _ h => Or.elim h (fun z => Nat.le_trans zsz z) id) (by decide) (zx_leC (k := 0) (a := 0) (by decide)) ((va_up_ne _ _ (by decide)).trans (va_up_self _ _ _)) rfl zi_Mo zy_Mo zj_Mo zl_Mo 19 (by decide) rfl rfl hin2 rfl wf_Mo_65 (by decide +kernel) rfl rfl (Nat.le_of_ble_eq_true rfl) dd_Mo_ctor_202 (fun H locs hP (hz : H.size = b0 + (20)) hS => ?_)
  have hP : va_P G.1 zw_cl (zw_l b0 (20) (va_up (va_up (va_up (f) (0) (.inr (7, [.int 0, .ref (b0 + 1), .ref (b0 + 2), .ref (b0 + 3), .ref (b0 + 4), .ref (b0 + 5), .ref (b0 + 6), .ref (b0 + 7), .ref (b0 + 8), .ref (b0 + 9), .ref (b0 + 10), .ref (b0 + 11), .ref (b0 + 12), .ref (b0 + 13), .ref (b0 + 14), .ref (b0 + 15), .ref (b0 + 16), .ref (b0 + 17), .ref (b0 + 18), .null, .null, .null, .null, .null, .null, .null]))) (19) (.inl (G.2 0, 48, .inl (fun _ => 0)))) (0) (.inr (7, [.int 0, .ref (b0 + 1), .ref (b0 + 2), .ref (b0 + 3), .ref (b0 + 4), .ref (b0 + 5), .ref (b0 + 6), .ref (b0 + 7), .ref (b0 + 8), .ref (b0 + 9), .ref (b0 + 10), .ref (b0 + 11), .ref (b0 + 12), .ref (b0 + 13), .ref (b0 + 14), .ref (b0 + 15), .ref (b0 + 16), .ref (b0 + 17), .ref (b0 + 18), .ref (b0 + 19), .null, .null, .null, .null, .null, .null])))) H := hP
  rw [zx_uc (α := va_E) (a := 0) (b := 19) (by decide)] at hP
  rw [zx_uu (α := va_E) (a := 0)] at hP
  refine W.eq (g2 := F0 m 205 ls []) rfl ?_
  refine lv_aload_n F.1 F.2.1 dd_Mo_ctor_205 rfl (lv_at hl 0 rfl) ?_
  refine lv_bipush (v := nI 36) F.1 F.2.1 dd_Mo_ctor_206 (by decide) ?_
  refine zx_newi (k := 20) (f := va_up (va_up (f) (0) (.inr (7, [.int 0, .ref (b0 + 1), .ref (b0 + 2), .ref (b0 + 3), .ref (b0 + 4), .ref (b0 + 5), .ref (b0 + 6), .ref (b0 + 7), .ref (b0 + 8), .ref (b0 + 9), .ref (b0 + 10), .ref (b0 + 11), .ref (b0 + 12), .ref (b0 + 13), .ref (b0 + 14), .ref (b0 + 15), .ref (b0 + 16), .ref (b0 + 17), .ref (b0 + 18), .ref (b0 + 19), .null, .null, .null, .null, .null, .null]))) (19) (.inl (G.2 0, 48, .inl (fun _ => 0)))) F hE hP hz hS wx_arrI (by decide) (N := 36) (by decide) (by decide) (Nat.le_of_ble_eq_true rfl) (Nat.le_of_ble_eq_true rfl) dd_Mo_ctor_208 (cells' := 20) (slots' := 6976) rfl rfl (fun H (hP : va_P G.1 zw_cl (zw_l b0 (21) (va_up (va_up (va_up (f) (0) (.inr (7, [.int 0, .ref (b0 + 1), .ref (b0 + 2), .ref (b0 + 3), .ref (b0 + 4), .ref (b0 + 5), .ref (b0 + 6), .ref (b0 + 7), .ref (b0 + 8), .ref (b0 + 9), .ref (b0 + 10), .ref (b0 + 11), .ref (b0 + 12), .ref (b0 + 13), .ref (b0 + 14), .ref (b0 + 15), .ref (b0 + 16), .ref (b0 + 17), .ref (b0 + 18), .ref (b0 + 19), .null, .null, .null, .null, .null, .null]))) (19) (.inl (G.2 0, 48, .inl (fun _ => 0)))) (20) (.inl (G.2 0, 36, .inl (fun _ => 0))))) H) (hz : H.size = b0 + (21)) hS => ?_)
  rw [zx_id (α := va_E) (f := va_up (va_up (f) (0) (.inr (7, [.int 0, .ref (b0 + 1), .ref (b0 + 2), .ref (b0 + 3), .ref (b0 + 4), .ref (b0 + 5), .ref (b0 + 6), .ref (b0 + 7), .ref (b0 + 8), .ref (b0 + 9), .ref (b0 + 10), .ref (b0 + 11), .ref (b0 + 12), .ref (b0 + 13), .ref (b0 + 14), .ref (b0 + 15), .ref (b0 + 16), .ref (b0 + 17), .ref (b0 + 18), .ref (b0 + 19), .null, .null, .null, .null, .null, .null]))) (19) (.inl (G.2 0, 48, .inl (fun _ => 0)))) (a := 20) (e := .inl (G.2 0, 36, .inl (fun _ => 0))) ((va_up_ne _ _ (by decide)).trans ((va_up_ne _ _ (by decide)).trans ((hf 20 (by decide)))))] at hP
  refine zx_pF (ty := .array .int) (k := 21) (f := va_up (va_up (f) (0) (.inr (7, [.int 0, .ref (b0 + 1), .ref (b0 + 2), .ref (b0 + 3), .ref (b0 + 4), .ref (b0 + 5), .ref (b0 + 6), .ref (b0 + 7), .ref (b0 + 8), .ref (b0 + 9), .ref (b0 + 10), .ref (b0 + 11), .ref (b0 + 12), .ref (b0 + 13), .ref (b0 + 14), .ref (b0 + 15), .ref (b0 + 16), .ref (b0 + 17), .ref (b0 + 18), .ref (b0 + 19), .null, .null, .null, .null, .null, .null]))) (19) (.inl (G.2 0, 48, .inl (fun _ => 0)))) (x := 0) F hE hP hz hS (fun q _ h => Or.elim h (fun z => Nat.le_trans zsz z) id) (by decide) (zx_leC (k := 0) (a := 0) (by decide)) ((va_up_ne _ _ (by decide)).trans (va_up_self _ _ _)) rfl zi_Mo zy_Mo zj_Mo zl_Mo 20 (by decide) rfl rfl hin2 rfl wf_Mo_68 (by decide +kernel) rfl rfl (Nat.le_of_ble_eq_true rfl) dd_Mo_ctor_210 (fun H locs hP (hz : H.size = b0 + (21)) hS => ?_)
  have hP : va_P G.1 zw_cl (zw_l b0 (21) (va_up (va_up (va_up (f) (0) (.inr (7, [.int 0, .ref (b0 + 1), .ref (b0 + 2), .ref (b0 + 3), .ref (b0 + 4), .ref (b0 + 5), .ref (b0 + 6), .ref (b0 + 7), .ref (b0 + 8), .ref (b0 + 9), .ref (b0 + 10), .ref (b0 + 11), .ref (b0 + 12), .ref (b0 + 13), .ref (b0 + 14), .ref (b0 + 15), .ref (b0 + 16), .ref (b0 + 17), .ref (b0 + 18), .ref (b0 + 19), .null, .null, .null, .null, .null, .null]))) (19) (.inl (G.2 0, 48, .inl (fun _ => 0)))) (0) (.inr (7, [.int 0, .ref (b0 + 1), .ref (b0 + 2), .ref (b0 + 3), .ref (b0 + 4), .ref (b0 + 5), .ref (b0 + 6), .ref (b0 + 7), .ref (b0 + 8), .ref (b0 + 9), .ref (b0 + 10), .ref (b0 + 11), .ref (b0 + 12), .ref (b0 + 13), .ref (b0 + 14), .ref (b0 + 15), .ref (b0 + 16), .ref (b0 + 17), .ref (b0 + 18), .ref (b0 + 19), .ref (b0 + 20), .null, .null, .null, .null, .null])))) H := hP
  rw [zx_uc (α := va_E) (a := 0) (b := 19) (by decide)] at hP
  rw [zx_uu (α := va_E) (a := 0)] at hP
  refine W.eq (g2 := F0 m 213 ls []) rfl ?_
  refine lv_aload_n F.1 F.2.1 dd_Mo_ctor_213 rfl (lv_at hl 0 rfl) ?_
  refine lv_iconst (v := nI 2) F.1 F.2.1 dd_Mo_ctor_214 (by decide) ?_
  refine zx_newi (k := 21) (f := va_up (va_up (f) (0) (.inr (7, [.int 0, .ref (b0 + 1), .ref (b0 + 2), .ref (b0 + 3), .ref (b0 + 4), .ref (b0 + 5), .ref (b0 + 6), .ref (b0 + 7), .ref (b0 + 8), .ref (b0 + 9), .ref (b0 + 10), .ref (b0 + 11), .ref (b0 + 12), .ref (b0 + 13), .ref (b0 + 14), .ref (b0 + 15), .ref (b0 + 16), .ref (b0 + 17), .ref (b0 + 18), .ref (b0 + 19), .ref (b0 + 20), .null, .null, .null, .null, .null]))) (19) (.inl (G.2 0, 48, .inl (fun _ => 0)))) F hE hP hz hS wx_arrI (by decide) (N := 2) (by decide) (by decide) (Nat.le_of_ble_eq_true rfl) (Nat.le_of_ble_eq_true rfl) dd_Mo_ctor_215 (cells' := 21) (slots' := 6978) rfl rfl (fun H (hP : va_P G.1 zw_cl (zw_l b0 (22) (va_up (va_up (va_up (f) (0) (.inr (7, [.int 0, .ref (b0 + 1), .ref (b0 + 2), .ref (b0 + 3), .ref (b0 + 4), .ref (b0 + 5), .ref (b0 + 6), .ref (b0 + 7), .ref (b0 + 8), .ref (b0 + 9), .ref (b0 + 10), .ref (b0 + 11), .ref (b0 + 12), .ref (b0 + 13), .ref (b0 + 14), .ref (b0 + 15), .ref (b0 + 16), .ref (b0 + 17), .ref (b0 + 18), .ref (b0 + 19), .ref (b0 + 20), .null, .null, .null, .null, .null]))) (19) (.inl (G.2 0, 48, .inl (fun _ => 0)))) (21) (.inl (G.2 0, 2, .inl (fun _ => 0))))) H) (hz : H.size = b0 + (22)) hS => ?_)
  rw [zx_id (α := va_E) (f := va_up (va_up (f) (0) (.inr (7, [.int 0, .ref (b0 + 1), .ref (b0 + 2), .ref (b0 + 3), .ref (b0 + 4), .ref (b0 + 5), .ref (b0 + 6), .ref (b0 + 7), .ref (b0 + 8), .ref (b0 + 9), .ref (b0 + 10), .ref (b0 + 11), .ref (b0 + 12), .ref (b0 + 13), .ref (b0 + 14), .ref (b0 + 15), .ref (b0 + 16), .ref (b0 + 17), .ref (b0 + 18), .ref (b0 + 19), .ref (b0 + 20), .null, .null, .null, .null, .null]))) (19) (.inl (G.2 0, 48, .inl (fun _ => 0)))) (a := 21) (e := .inl (G.2 0, 2, .inl (fun _ => 0))) ((va_up_ne _ _ (by decide)).trans ((va_up_ne _ _ (by decide)).trans ((hf 21 (by decide)))))] at hP
  refine zx_pF (ty := .array .int) (k := 22) (f := va_up (va_up (f) (0) (.inr (7, [.int 0, .ref (b0 + 1), .ref (b0 + 2), .ref (b0 + 3), .ref (b0 + 4), .ref (b0 + 5), .ref (b0 + 6), .ref (b0 + 7), .ref (b0 + 8), .ref (b0 + 9), .ref (b0 + 10), .ref (b0 + 11), .ref (b0 + 12), .ref (b0 + 13), .ref (b0 + 14), .ref (b0 + 15), .ref (b0 + 16), .ref (b0 + 17), .ref (b0 + 18), .ref (b0 + 19), .ref (b0 + 20), .null, .null, .null, .null, .null]))) (19) (.inl (G.2 0, 48, .inl (fun _ => 0)))) (x := 0) F hE hP hz hS (fun q _ h => Or.elim h (fun z => Nat.le_trans zsz z) id) (by decide) (zx_leC (k := 0) (a := 0) (by decide)) ((va_up_ne _ _ (by decide)).trans (va_up_self _ _ _)) rfl zi_Mo zy_Mo zj_Mo zl_Mo 21 (by decide) rfl rfl hin2 rfl wf_Mo_71 (by decide +kernel) rfl rfl (Nat.le_of_ble_eq_true rfl) dd_Mo_ctor_217 (fun H locs hP (hz : H.size = b0 + (22)) hS => ?_)
  have hP : va_P G.1 zw_cl (zw_l b0 (22) (va_up (va_up (va_up (f) (0) (.inr (7, [.int 0, .ref (b0 + 1), .ref (b0 + 2), .ref (b0 + 3), .ref (b0 + 4), .ref (b0 + 5), .ref (b0 + 6), .ref (b0 + 7), .ref (b0 + 8), .ref (b0 + 9), .ref (b0 + 10), .ref (b0 + 11), .ref (b0 + 12), .ref (b0 + 13), .ref (b0 + 14), .ref (b0 + 15), .ref (b0 + 16), .ref (b0 + 17), .ref (b0 + 18), .ref (b0 + 19), .ref (b0 + 20), .null, .null, .null, .null, .null]))) (19) (.inl (G.2 0, 48, .inl (fun _ => 0)))) (0) (.inr (7, [.int 0, .ref (b0 + 1), .ref (b0 + 2), .ref (b0 + 3), .ref (b0 + 4), .ref (b0 + 5), .ref (b0 + 6), .ref (b0 + 7), .ref (b0 + 8), .ref (b0 + 9), .ref (b0 + 10), .ref (b0 + 11), .ref (b0 + 12), .ref (b0 + 13), .ref (b0 + 14), .ref (b0 + 15), .ref (b0 + 16), .ref (b0 + 17), .ref (b0 + 18), .ref (b0 + 19), .ref (b0 + 20), .ref (b0 + 21), .null, .null, .null, .null])))) H := hP
  rw [zx_uc (α := va_E) (a := 0) (b := 19) (by decide)] at hP
  rw [zx_uu (α := va_E) (a := 0)] at hP
  refine W.eq (g2 := F0 m 220 ls []) rfl ?_
  refine lv_aload_n F.1 F.2.1 dd_Mo_ctor_220 rfl (lv_at hl 0 rfl) ?_
  refine lv_bipush (v := nI 12) F.1 F.2.1 dd_Mo_ctor_221 (by decide) ?_
  refine zx_newi (k := 22) (f := va_up (va_up (f) (0) (.inr (7, [.int 0, .ref (b0 + 1), .ref (b0 + 2), .ref (b0 + 3), .ref (b0 + 4), .ref (b0 + 5), .ref (b0 + 6), .ref (b0 + 7), .ref (b0 + 8), .ref (b0 + 9), .ref (b0 + 10), .ref (b0 + 11), .ref (b0 + 12), .ref (b0 + 13), .ref (b0 + 14), .ref (b0 + 15), .ref (b0 + 16), .ref (b0 + 17), .ref (b0 + 18), .ref (b0 + 19), .ref (b0 + 20), .ref (b0 + 21), .null, .null, .null, .null]))) (19) (.inl (G.2 0, 48, .inl (fun _ => 0)))) F hE hP hz hS wx_arrI (by decide) (N := 12) (by decide) (by decide) (Nat.le_of_ble_eq_true rfl) (Nat.le_of_ble_eq_true rfl) dd_Mo_ctor_223 (cells' := 22) (slots' := 6990) rfl rfl (fun H (hP : va_P G.1 zw_cl (zw_l b0 (23) (va_up (va_up (va_up (f) (0) (.inr (7, [.int 0, .ref (b0 + 1), .ref (b0 + 2), .ref (b0 + 3), .ref (b0 + 4), .ref (b0 + 5), .ref (b0 + 6), .ref (b0 + 7), .ref (b0 + 8), .ref (b0 + 9), .ref (b0 + 10), .ref (b0 + 11), .ref (b0 + 12), .ref (b0 + 13), .ref (b0 + 14), .ref (b0 + 15), .ref (b0 + 16), .ref (b0 + 17), .ref (b0 + 18), .ref (b0 + 19), .ref (b0 + 20), .ref (b0 + 21), .null, .null, .null, .null]))) (19) (.inl (G.2 0, 48, .inl (fun _ => 0)))) (22) (.inl (G.2 0, 12, .inl (fun _ => 0))))) H) (hz : H.size = b0 + (23)) hS => ?_)
  rw [zx_id (α := va_E) (f := va_up (va_up (f) (0) (.inr (7, [.int 0, .ref (b0 + 1), .ref (b0 + 2), .ref (b0 + 3), .ref (b0 + 4), .ref (b0 + 5), .ref (b0 + 6), .ref (b0 + 7), .ref (b0 + 8), .ref (b0 + 9), .ref (b0 + 10), .ref (b0 + 11), .ref (b0 + 12), .ref (b0 + 13), .ref (b0 + 14), .ref (b0 + 15), .ref (b0 + 16), .ref (b0 + 17), .ref (b0 + 18), .ref (b0 + 19), .ref (b0 + 20), .ref (b0 + 21), .null, .null, .null, .null]))) (19) (.inl (G.2 0, 48, .inl (fun _ => 0)))) (a := 22) (e := .inl (G.2 0, 12, .inl (fun _ => 0))) ((va_up_ne _ _ (by decide)).trans ((va_up_ne _ _ (by decide)).trans ((hf 22 (by decide)))))] at hP
  refine zx_pF (ty := .array .int) (k := 23) (f := va_up (va_up (f) (0) (.inr (7, [.int 0, .ref (b0 + 1), .ref (b0 + 2), .ref (b0 + 3), .ref (b0 + 4), .ref (b0 + 5), .ref (b0 + 6), .ref (b0 + 7), .ref (b0 + 8), .ref (b0 + 9), .ref (b0 + 10), .ref (b0 + 11), .ref (b0 + 12), .ref (b0 + 13), .ref (b0 + 14), .ref (b0 + 15), .ref (b0 + 16), .ref (b0 + 17), .ref (b0 + 18), .ref (b0 + 19), .ref (b0 + 20), .ref (b0 + 21), .null, .null, .null, .null]))) (19) (.inl (G.2 0, 48, .inl (fun _ => 0)))) (x := 0) F hE hP hz hS (fun q _ h => Or.elim h (fun z => Nat.le_trans zsz z) id) (by decide) (zx_leC (k := 0) (a := 0) (by decide)) ((va_up_ne _ _ (by decide)).trans (va_up_self _ _ _)) rfl zi_Mo zy_Mo zj_Mo zl_Mo 22 (by decide) rfl rfl hin2 rfl wf_Mo_74 (by decide +kernel) rfl rfl (Nat.le_of_ble_eq_true rfl) dd_Mo_ctor_225 (fun H locs hP (hz : H.size = b0 + (23)) hS => ?_)
  have hP : va_P G.1 zw_cl (zw_l b0 (23) (va_up (va_up (va_up (f) (0) (.inr (7, [.int 0, .ref (b0 + 1), .ref (b0 + 2), .ref (b0 + 3), .ref (b0 + 4), .ref (b0 + 5), .ref (b0 + 6), .ref (b0 + 7), .ref (b0 + 8), .ref (b0 + 9), .ref (b0 + 10), .ref (b0 + 11), .ref (b0 + 12), .ref (b0 + 13), .ref (b0 + 14), .ref (b0 + 15), .ref (b0 + 16), .ref (b0 + 17), .ref (b0 + 18), .ref (b0 + 19), .ref (b0 + 20), .ref (b0 + 21), .null, .null, .null, .null]))) (19) (.inl (G.2 0, 48, .inl (fun _ => 0)))) (0) (.inr (7, [.int 0, .ref (b0 + 1), .ref (b0 + 2), .ref (b0 + 3), .ref (b0 + 4), .ref (b0 + 5), .ref (b0 + 6), .ref (b0 + 7), .ref (b0 + 8), .ref (b0 + 9), .ref (b0 + 10), .ref (b0 + 11), .ref (b0 + 12), .ref (b0 + 13), .ref (b0 + 14), .ref (b0 + 15), .ref (b0 + 16), .ref (b0 + 17), .ref (b0 + 18), .ref (b0 + 19), .ref (b0 + 20), .ref (b0 + 21), .ref (b0 + 22), .null, .null, .null])))) H := hP
  rw [zx_uc (α := va_E) (a := 0) (b := 19) (by decide)] at hP
  rw [zx_uu (α := va_E) (a := 0)] at hP
  refine W.eq (g2 := F0 m 228 ls []) rfl ?_
  refine lv_aload_n F.1 F.2.1 dd_Mo_ctor_228 rfl (lv_at hl 0 rfl) ?_
  refine lv_bipush (v := nI 12) F.1 F.2.1 dd_Mo_ctor_229 (by decide) ?_
  refine zx_newi (k := 23) (f := va_up (va_up (f) (0) (.inr (7, [.int 0, .ref (b0 + 1), .ref (b0 + 2), .ref (b0 + 3), .ref (b0 + 4), .ref (b0 + 5), .ref (b0 + 6), .ref (b0 + 7), .ref (b0 + 8), .ref (b0 + 9), .ref (b0 + 10), .ref (b0 + 11), .ref (b0 + 12), .ref (b0 + 13), .ref (b0 + 14), .ref (b0 + 15), .ref (b0 + 16), .ref (b0 + 17), .ref (b0 + 18), .ref (b0 + 19), .ref (b0 + 20), .ref (b0 + 21), .ref (b0 + 22), .null, .null, .null]))) (19) (.inl (G.2 0, 48, .inl (fun _ => 0)))) F hE hP hz hS wx_arrI (by decide) (N := 12) (by decide) (by decide) (Nat.le_of_ble_eq_true rfl) (Nat.le_of_ble_eq_true rfl) dd_Mo_ctor_231 (cells' := 23) (slots' := 7002) rfl rfl (fun H (hP : va_P G.1 zw_cl (zw_l b0 (24) (va_up (va_up (va_up (f) (0) (.inr (7, [.int 0, .ref (b0 + 1), .ref (b0 + 2), .ref (b0 + 3), .ref (b0 + 4), .ref (b0 + 5), .ref (b0 + 6), .ref (b0 + 7), .ref (b0 + 8), .ref (b0 + 9), .ref (b0 + 10), .ref (b0 + 11), .ref (b0 + 12), .ref (b0 + 13), .ref (b0 + 14), .ref (b0 + 15), .ref (b0 + 16), .ref (b0 + 17), .ref (b0 + 18), .ref (b0 + 19), .ref (b0 + 20), .ref (b0 + 21), .ref (b0 + 22), .null, .null, .null]))) (19) (.inl (G.2 0, 48, .inl (fun _ => 0)))) (23) (.inl (G.2 0, 12, .inl (fun _ => 0))))) H) (hz : H.size = b0 + (24)) hS => ?_)
  rw [zx_id (α := va_E) (f := va_up (va_up (f) (0) (.inr (7, [.int 0, .ref (b0 + 1), .ref (b0 + 2), .ref (b0 + 3), .ref (b0 + 4), .ref (b0 + 5), .ref (b0 + 6), .ref (b0 + 7), .ref (b0 + 8), .ref (b0 + 9), .ref (b0 + 10), .ref (b0 + 11), .ref (b0 + 12), .ref (b0 + 13), .ref (b0 + 14), .ref (b0 + 15), .ref (b0 + 16), .ref (b0 + 17), .ref (b0 + 18), .ref (b0 + 19), .ref (b0 + 20), .ref (b0 + 21), .ref (b0 + 22), .null, .null, .null]))) (19) (.inl (G.2 0, 48, .inl (fun _ => 0)))) (a := 23) (e := .inl (G.2 0, 12, .inl (fun _ => 0))) ((va_up_ne _ _ (by decide)).trans ((va_up_ne _ _ (by decide)).trans ((hf 23 (by decide)))))] at hP
  refine zx_pF (ty := .array .int) (k := 24) (f := va_up (va_up (f) (0) (.inr (7, [.int 0, .ref (b0 + 1), .ref (b0 + 2), .ref (b0 + 3), .ref (b0 + 4), .ref (b0 + 5), .ref (b0 + 6), .ref (b0 + 7), .ref (b0 + 8), .ref (b0 + 9), .ref (b0 + 10), .ref (b0 + 11), .ref (b0 + 12), .ref (b0 + 13), .ref (b0 + 14), .ref (b0 + 15), .ref (b0 + 16), .ref (b0 + 17), .ref (b0 + 18), .ref (b0 + 19), .ref (b0 + 20), .ref (b0 + 21), .ref (b0 + 22), .null, .null, .null]))) (19) (.inl (G.2 0, 48, .inl (fun _ => 0)))) (x := 0) F hE hP hz hS (fun q _ h => Or.elim h (fun z => Nat.le_trans zsz z) id) (by decide) (zx_leC (k := 0) (a := 0) (by decide)) ((va_up_ne _ _ (by decide)).trans (va_up_self _ _ _)) rfl zi_Mo zy_Mo zj_Mo zl_Mo 23 (by decide) rfl rfl hin2 rfl wf_Mo_77 (by decide +kernel) rfl rfl (Nat.le_of_ble_eq_true rfl) dd_Mo_ctor_233 (fun H locs hP (hz : H.size = b0 + (24)) hS => ?_)
  have hP : va_P G.1 zw_cl (zw_l b0 (24) (va_up (va_up (va_up (f) (0) (.inr (7, [.int 0, .ref (b0 + 1), .ref (b0 + 2), .ref (b0 + 3), .ref (b0 + 4), .ref (b0 + 5), .ref (b0 + 6), .ref (b0 + 7), .ref (b0 + 8), .ref (b0 + 9), .ref (b0 + 10), .ref (b0 + 11), .ref (b0 + 12), .ref (b0 + 13), .ref (b0 + 14), .ref (b0 + 15), .ref (b0 + 16), .ref (b0 + 17), .ref (b0 + 18), .ref (b0 + 19), .ref (b0 + 20), .ref (b0 + 21), .ref (b0 + 22), .null, .null, .null]))) (19) (.inl (G.2 0, 48, .inl (fun _ => 0)))) (0) (.inr (7, [.int 0, .ref (b0 + 1), .ref (b0 + 2), .ref (b0 + 3), .ref (b0 + 4), .ref (b0 + 5), .ref (b0 + 6), .ref (b0 + 7), .ref (b0 + 8), .ref (b0 + 9), .ref (b0 + 10), .ref (b0 + 11), .ref (b0 + 12), .ref (b0 + 13), .ref (b0 + 14), .ref (b0 + 15), .ref (b0 + 16), .ref (b0 + 17), .ref (b0 + 18), .ref (b0 + 19), .ref (b0 + 20), .ref (b0 + 21), .ref (b0 + 22), .ref (b0 + 23), .null, .null])))) H := hP
  rw [zx_uc (α := va_E) (a := 0) (b := 19) (by decide)] at hP
  rw [zx_uu (α := va_E) (a := 0)] at hP
  refine W.eq (g2 := F0 m 236 ls []) rfl ?_
  refine lv_aload_n F.1 F.2.1 dd_Mo_ctor_236 rfl (lv_at hl 0 rfl) ?_
  refine lv_bipush (v := nI 16) F.1 F.2.1 dd_Mo_ctor_237 (by decide) ?_
  refine zx_newi (k := 24) (f := va_up (va_up (f) (0) (.inr (7, [.int 0, .ref (b0 + 1), .ref (b0 + 2), .ref (b0 + 3), .ref (b0 + 4), .ref (b0 + 5), .ref (b0 + 6), .ref (b0 + 7), .ref (b0 + 8), .ref (b0 + 9), .ref (b0 + 10), .ref (b0 + 11), .ref (b0 + 12), .ref (b0 + 13), .ref (b0 + 14), .ref (b0 + 15), .ref (b0 + 16), .ref (b0 + 17), .ref (b0 + 18), .ref (b0 + 19), .ref (b0 + 20), .ref (b0 + 21), .ref (b0 + 22), .ref (b0 + 23), .null, .null]))) (19) (.inl (G.2 0, 48, .inl (fun _ => 0)))) F hE hP hz hS wx_arrI (by decide) (N := 16) (by decide) (by decide) (Nat.le_of_ble_eq_true rfl) (Nat.le_of_ble_eq_true rfl) dd_Mo_ctor_239 (cells' := 24) (slots' := 7018) rfl rfl (fun H (hP : va_P G.1 zw_cl (zw_l b0 (25) (va_up (va_up (va_up (f) (0) (.inr (7, [.int 0, .ref (b0 + 1), .ref (b0 + 2), .ref (b0 + 3), .ref (b0 + 4), .ref (b0 + 5), .ref (b0 + 6), .ref (b0 + 7), .ref (b0 + 8), .ref (b0 + 9), .ref (b0 + 10), .ref (b0 + 11), .ref (b0 + 12), .ref (b0 + 13), .ref (b0 + 14), .ref (b0 + 15), .ref (b0 + 16), .ref (b0 + 17), .ref (b0 + 18), .ref (b0 + 19), .ref (b0 + 20), .ref (b0 + 21), .ref (b0 + 22), .ref (b0 + 23), .null, .null]))) (19) (.inl (G.2 0, 48, .inl (fun _ => 0)))) (24) (.inl (G.2 0, 16, .inl (fun _ => 0))))) H) (hz : H.size = b0 + (25)) hS => ?_)
  rw [zx_id (α := va_E) (f := va_up (va_up (f) (0) (.inr (7, [.int 0, .ref (b0 + 1), .ref (b0 + 2), .ref (b0 + 3), .ref (b0 + 4), .ref (b0 + 5), .ref (b0 + 6), .ref (b0 + 7), .ref (b0 + 8), .ref (b0 + 9), .ref (b0 + 10), .ref (b0 + 11), .ref (b0 + 12), .ref (b0 + 13), .ref (b0 + 14), .ref (b0 + 15), .ref (b0 + 16), .ref (b0 + 17), .ref (b0 + 18), .ref (b0 + 19), .ref (b0 + 20), .ref (b0 + 21), .ref (b0 + 22), .ref (b0 + 23), .null, .null]))) (19) (.inl (G.2 0, 48, .inl (fun _ => 0)))) (a := 24) (e := .inl (G.2 0, 16, .inl (fun _ => 0))) ((va_up_ne _ _ (by decide)).trans ((va_up_ne _ _ (by decide)).trans ((hf 24 (by decide)))))] at hP
  refine zx_pF (ty := .array .int) (k := 25) (f := va_up (va_up (f) (0) (.inr (7, [.int 0, .ref (b0 + 1), .ref (b0 + 2), .ref (b0 + 3), .ref (b0 + 4), .ref (b0 + 5), .ref (b0 + 6), .ref (b0 + 7), .ref (b0 + 8), .ref (b0 + 9), .ref (b0 + 10), .ref (b0 + 11), .ref (b0 + 12), .ref (b0 + 13), .ref (b0 + 14), .ref (b0 + 15), .ref (b0 + 16), .ref (b0 + 17), .ref (b0 + 18), .ref (b0 + 19), .ref (b0 + 20), .ref (b0 + 21), .ref (b0 + 22), .ref (b0 + 23), .null, .null]))) (19) (.inl (G.2 0, 48, .inl (fun _ => 0)))) (x := 0) F hE hP hz hS (fun q _ h => Or.elim h (fun z => Nat.le_trans zsz z) id) (by decide) (zx_leC (k := 0) (a := 0) (by decide)) ((va_up_ne _ _ (by decide)).trans (va_up_self _ _ _)) rfl zi_Mo zy_Mo zj_Mo zl_Mo 24 (by decide) rfl rfl hin2 rfl wf_Mo_80 (by decide +kernel) rfl rfl (Nat.le_of_ble_eq_true rfl) dd_Mo_ctor_241 (fun H locs hP (hz : H.size = b0 + (25)) hS => ?_)
  have hP : va_P G.1 zw_cl (zw_l b0 (25) (va_up (va_up (va_up (f) (0) (.inr (7, [.int 0, .ref (b0 + 1), .ref (b0 + 2), .ref (b0 + 3), .ref (b0 + 4), .ref (b0 + 5), .ref (b0 + 6), .ref (b0 + 7), .ref (b0 + 8), .ref (b0 + 9), .ref (b0 + 10), .ref (b0 + 11), .ref (b0 + 12), .ref (b0 + 13), .ref (b0 + 14), .ref (b0 + 15), .ref (b0 + 16), .ref (b0 + 17), .ref (b0 + 18), .ref (b0 + 19), .ref (b0 + 20), .ref (b0 + 21), .ref (b0 + 22), .ref (b0 + 23), .null, .null]))) (19) (.inl (G.2 0, 48, .inl (fun _ => 0)))) (0) (.inr (7, [.int 0, .ref (b0 + 1), .ref (b0 + 2), .ref (b0 + 3), .ref (b0 + 4), .ref (b0 + 5), .ref (b0 + 6), .ref (b0 + 7), .ref (b0 + 8), .ref (b0 + 9), .ref (b0 + 10), .ref (b0 + 11), .ref (b0 + 12), .ref (b0 + 13), .ref (b0 + 14), .ref (b0 + 15), .ref (b0 + 16), .ref (b0 + 17), .ref (b0 + 18), .ref (b0 + 19), .ref (b0 + 20), .ref (b0 + 21), .ref (b0 + 22), .ref (b0 + 23), .ref (b0 + 24), .null])))) H := hP
  rw [zx_uc (α := va_E) (a := 0) (b := 19) (by decide)] at hP
  rw [zx_uu (α := va_E) (a := 0)] at hP
  refine W.eq (g2 := F0 m 244 ls []) rfl ?_
  refine lv_aload_n F.1 F.2.1 dd_Mo_ctor_244 rfl (lv_at hl 0 rfl) ?_
  refine lv_bipush (v := nI 16) F.1 F.2.1 dd_Mo_ctor_245 (by decide) ?_
  refine zx_newi (k := 25) (f := va_up (va_up (f) (0) (.inr (7, [.int 0, .ref (b0 + 1), .ref (b0 + 2), .ref (b0 + 3), .ref (b0 + 4), .ref (b0 + 5), .ref (b0 + 6), .ref (b0 + 7), .ref (b0 + 8), .ref (b0 + 9), .ref (b0 + 10), .ref (b0 + 11), .ref (b0 + 12), .ref (b0 + 13), .ref (b0 + 14), .ref (b0 + 15), .ref (b0 + 16), .ref (b0 + 17), .ref (b0 + 18), .ref (b0 + 19), .ref (b0 + 20), .ref (b0 + 21), .ref (b0 + 22), .ref (b0 + 23), .ref (b0 + 24), .null]))) (19) (.inl (G.2 0, 48, .inl (fun _ => 0)))) F hE hP hz hS wx_arrI (by decide) (N := 16) (by decide) (by decide) (Nat.le_of_ble_eq_true rfl) (Nat.le_of_ble_eq_true rfl) dd_Mo_ctor_247 (cells' := 25) (slots' := 7034) rfl rfl (fun H (hP : va_P G.1 zw_cl (zw_l b0 (26) (va_up (va_up (va_up (f) (0) (.inr (7, [.int 0, .ref (b0 + 1), .ref (b0 + 2), .ref (b0 + 3), .ref (b0 + 4), .ref (b0 + 5), .ref (b0 + 6), .ref (b0 + 7), .ref (b0 + 8), .ref (b0 + 9), .ref (b0 + 10), .ref (b0 + 11), .ref (b0 + 12), .ref (b0 + 13), .ref (b0 + 14), .ref (b0 + 15), .ref (b0 + 16), .ref (b0 + 17), .ref (b0 + 18), .ref (b0 + 19), .ref (b0 + 20), .ref (b0 + 21), .ref (b0 + 22), .ref (b0 + 23), .ref (b0 + 24), .null]))) (19) (.inl (G.2 0, 48, .inl (fun _ => 0)))) (25) (.inl (G.2 0, 16, .inl (fun _ => 0))))) H) (hz : H.size = b0 + (26)) hS => ?_)
  rw [zx_id (α := va_E) (f := va_up (va_up (f) (0) (.inr (7, [.int 0, .ref (b0 + 1), .ref (b0 + 2), .ref (b0 + 3), .ref (b0 + 4), .ref (b0 + 5), .ref (b0 + 6), .ref (b0 + 7), .ref (b0 + 8), .ref (b0 + 9), .ref (b0 + 10), .ref (b0 + 11), .ref (b0 + 12), .ref (b0 + 13), .ref (b0 + 14), .ref (b0 + 15), .ref (b0 + 16), .ref (b0 + 17), .ref (b0 + 18), .ref (b0 + 19), .ref (b0 + 20), .ref (b0 + 21), .ref (b0 + 22), .ref (b0 + 23), .ref (b0 + 24), .null]))) (19) (.inl (G.2 0, 48, .inl (fun _ => 0)))) (a := 25) (e := .inl (G.2 0, 16, .inl (fun _ => 0))) ((va_up_ne _ _ (by decide)).trans ((va_up_ne _ _ (by decide)).trans ((hf 25 (by decide)))))] at hP
  refine zx_pF (ty := .array .int) (k := 26) (f := va_up (va_up (f) (0) (.inr (7, [.int 0, .ref (b0 + 1), .ref (b0 + 2), .ref (b0 + 3), .ref (b0 + 4), .ref (b0 + 5), .ref (b0 + 6), .ref (b0 + 7), .ref (b0 + 8), .ref (b0 + 9), .ref (b0 + 10), .ref (b0 + 11), .ref (b0 + 12), .ref (b0 + 13), .ref (b0 + 14), .ref (b0 + 15), .ref (b0 + 16), .ref (b0 + 17), .ref (b0 + 18), .ref (b0 + 19), .ref (b0 + 20), .ref (b0 + 21), .ref (b0 + 22), .ref (b0 + 23), .ref (b0 + 24), .null]))) (19) (.inl (G.2 0, 48, .inl (fun _ => 0)))) (x := 0) F hE hP hz hS (fun q _ h => Or.elim h (fun z => Nat.le_trans zsz z) id) (by decide) (zx_leC (k := 0) (a := 0) (by decide)) ((va_up_ne _ _ (by decide)).trans (va_up_self _ _ _)) rfl zi_Mo zy_Mo zj_Mo zl_Mo 25 (by decide) rfl rfl hin2 rfl wf_Mo_83 (by decide +kernel) rfl rfl (Nat.le_of_ble_eq_true rfl) dd_Mo_ctor_249 (fun H locs hP (hz : H.size = b0 + (26)) hS => ?_)
  have hP : va_P G.1 zw_cl (zw_l b0 (26) (va_up (va_up (va_up (f) (0) (.inr (7, [.int 0, .ref (b0 + 1), .ref (b0 + 2), .ref (b0 + 3), .ref (b0 + 4), .ref (b0 + 5), .ref (b0 + 6), .ref (b0 + 7), .ref (b0 + 8), .ref (b0 + 9), .ref (b0 + 10), .ref (b0 + 11), .ref (b0 + 12), .ref (b0 + 13), .ref (b0 + 14), .ref (b0 + 15), .ref (b0 + 16), .ref (b0 + 17), .ref (b0 + 18), .ref (b0 + 19), .ref (b0 + 20), .ref (b0 + 21), .ref (b0 + 22), .ref (b0 + 23), .ref (b0 + 24), .null]))) (19) (.inl (G.2 0, 48, .inl (fun _ => 0)))) (0) (.inr (7, [.int 0, .ref (b0 + 1), .ref (b0 + 2), .ref (b0 + 3), .ref (b0 + 4), .ref (b0 + 5), .ref (b0 + 6), .ref (b0 + 7), .ref (b0 + 8), .ref (b0 + 9), .ref (b0 + 10), .ref (b0 + 11), .ref (b0 + 12), .ref (b0 + 13), .ref (b0 + 14), .ref (b0 + 15), .ref (b0 + 16), .ref (b0 + 17), .ref (b0 + 18), .ref (b0 + 19), .ref (b0 + 20), .ref (b0 + 21), .ref (b0 + 22), .ref (b0 + 23), .ref (b0 + 24), .ref (b0 + 25)])))) H := hP
  rw [zx_uc (α := va_E) (a := 0) (b := 19) (by decide)] at hP
  rw [zx_uu (α := va_E) (a := 0)] at hP
  refine W.eq (g2 := F0 m 252 ls []) rfl ?_
  refine lv_aload_n F.1 F.2.1 dd_Mo_ctor_252 rfl (lv_at hl 0 rfl) ?_
  refine lv_iload_n F.1 F.2.1 dd_Mo_ctor_253 rfl (lv_at hl 1 rfl) ?_
  refine lv_iconst (v := nI 1) F.1 F.2.1 dd_Mo_ctor_254 (by decide) ?_
  refine lv_icmp_lt F.1 F.2.1 dd_Mo_ctor_255 (tgt := 264) rfl (fun h255 => ?_) (fun h255 => ?_)
  · refine lv_iconst (v := nI 4) F.1 F.2.1 dd_Mo_ctor_264 (by decide) ?_
    refine lv_goto F.1 F.2.1 dd_Mo_ctor_265 (tgt := 269) rfl ?_
    refine zn_top (y := zs_pt x) (by rw [zs_pt, if_pos h255]) ?_
    refine zx_pF (ty := .int) (k := 26) (f := va_up (va_up (f) (0) (.inr (7, [.int 0, .ref (b0 + 1), .ref (b0 + 2), .ref (b0 + 3), .ref (b0 + 4), .ref (b0 + 5), .ref (b0 + 6), .ref (b0 + 7), .ref (b0 + 8), .ref (b0 + 9), .ref (b0 + 10), .ref (b0 + 11), .ref (b0 + 12), .ref (b0 + 13), .ref (b0 + 14), .ref (b0 + 15), .ref (b0 + 16), .ref (b0 + 17), .ref (b0 + 18), .ref (b0 + 19), .ref (b0 + 20), .ref (b0 + 21), .ref (b0 + 22), .ref (b0 + 23), .ref (b0 + 24), .ref (b0 + 25)]))) (19) (.inl (G.2 0, 48, .inl (fun _ => 0)))) (x := 0) F hE hP hz hS (fun q _ h => Or.elim h (fun z => Nat.le_trans zsz z) id) (by decide) (zx_leC (k := 0) (a := 0) (by decide)) ((va_up_ne _ _ (by decide)).trans (va_up_self _ _ _)) rfl zi_Mo zy_Mo zj_Mo zl_Mo 0 (by decide) rfl rfl hin2 rfl wf_Mo_86 (by decide +kernel) rfl rfl (Nat.le_of_ble_eq_true rfl) dd_Mo_ctor_269 (fun H locs hP (hz : H.size = b0 + (26)) hS => ?_)
    have hP : va_P G.1 zw_cl (zw_l b0 (26) (va_up (va_up (va_up (f) (0) (.inr (7, [.int 0, .ref (b0 + 1), .ref (b0 + 2), .ref (b0 + 3), .ref (b0 + 4), .ref (b0 + 5), .ref (b0 + 6), .ref (b0 + 7), .ref (b0 + 8), .ref (b0 + 9), .ref (b0 + 10), .ref (b0 + 11), .ref (b0 + 12), .ref (b0 + 13), .ref (b0 + 14), .ref (b0 + 15), .ref (b0 + 16), .ref (b0 + 17), .ref (b0 + 18), .ref (b0 + 19), .ref (b0 + 20), .ref (b0 + 21), .ref (b0 + 22), .ref (b0 + 23), .ref (b0 + 24), .ref (b0 + 25)]))) (19) (.inl (G.2 0, 48, .inl (fun _ => 0)))) (0) (.inr (7, [.int (zs_pt x), .ref (b0 + 1), .ref (b0 + 2), .ref (b0 + 3), .ref (b0 + 4), .ref (b0 + 5), .ref (b0 + 6), .ref (b0 + 7), .ref (b0 + 8), .ref (b0 + 9), .ref (b0 + 10), .ref (b0 + 11), .ref (b0 + 12), .ref (b0 + 13), .ref (b0 + 14), .ref (b0 + 15), .ref (b0 + 16), .ref (b0 + 17), .ref (b0 + 18), .ref (b0 + 19), .ref (b0 + 20), .ref (b0 + 21), .ref (b0 + 22), .ref (b0 + 23), .ref (b0 + 24), .ref (b0 + 25)])))) H := hP
    rw [zx_uc (α := va_E) (a := 0) (b := 19) (by decide)] at hP
    rw [zx_uu (α := va_E) (a := 0)] at hP
    refine W.eq (g2 := F0 m 272 ls []) rfl ?_
    rw [zx_id (α := va_E) (f := f) (a := 0) (e := .inr (7, [.int (zs_pt x), .ref (b0 + 1), .ref (b0 + 2), .ref (b0 + 3), .ref (b0 + 4), .ref (b0 + 5), .ref (b0 + 6), .ref (b0 + 7), .ref (b0 + 8), .ref (b0 + 9), .ref (b0 + 10), .ref (b0 + 11), .ref (b0 + 12), .ref (b0 + 13), .ref (b0 + 14), .ref (b0 + 15), .ref (b0 + 16), .ref (b0 + 17), .ref (b0 + 18), .ref (b0 + 19), .ref (b0 + 20), .ref (b0 + 21), .ref (b0 + 22), .ref (b0 + 23), .ref (b0 + 24), .ref (b0 + 25)])) ((hf 0 (by decide)))] at hP
    refine lv_iconst (v := nI 0) F.1 F.2.1 dd_Mo_ctor_272 (by decide) ?_
    refine lv_istore_n F.1 F.2.1 dd_Mo_ctor_273 rfl hl (by decide) (lv' := [(2, .int (nI 0)), (0, .ref (b0 + 0)), (1, .int x)]) rfl (fun ls hl => ?_)
    refine lv_iload_n F.1 F.2.1 dd_Mo_ctor_274 rfl (lv_at hl 0 rfl) ?_
    refine lv_iconst (v := nI 2) F.1 F.2.1 dd_Mo_ctor_275 (by decide) ?_
    refine zn_cge F dd_Mo_ctor_276 (tgt := 315) rfl (by decide) (by decide) (fun h => absurd h (by decide)) (fun h => ?_)
    refine lv_iconst (v := nI 0) F.1 F.2.1 dd_Mo_ctor_279 (by decide) ?_
    refine lv_istore_n F.1 F.2.1 dd_Mo_ctor_280 rfl hl (by decide) (lv' := [(3, .int (nI 0)), (2, .int (nI 0)), (0, .ref (b0 + 0)), (1, .int x)]) rfl (fun ls hl => ?_)
    refine lv_iload_n F.1 F.2.1 dd_Mo_ctor_281 rfl (lv_at hl 0 rfl) ?_
    refine lv_iconst (v := nI 4) F.1 F.2.1 dd_Mo_ctor_282 (by decide) ?_
    refine zn_cge F dd_Mo_ctor_283 (tgt := 309) rfl (by decide) (by decide) (fun h => absurd h (by decide)) (fun h => ?_)
    refine lv_aload_n F.1 F.2.1 dd_Mo_ctor_286 rfl (lv_at hl 2 rfl) ?_
    refine zw_gF (n := 26) (f := va_up (f) (19) (.inl (G.2 0, 48, .inl (fun _ => 0)))) (x := 0) F hE hP (by decide) ((va_up_ne _ _ (by decide)).trans ((hf 0 (by decide)))) rfl zi_Mo 19 (by decide) rfl wf_Mo_65 rfl dd_Mo_ctor_287 ?_
    refine W.eq (g2 := F0 m 290 ls [.ref (b0 + 19)]) rfl ?_
    refine lv_bipush (v := nI 24) F.1 F.2.1 dd_Mo_ctor_290 (by decide) ?_
    refine lv_iload_n F.1 F.2.1 dd_Mo_ctor_292 rfl (lv_at hl 1 rfl) ?_
    refine zn_imul F dd_Mo_ctor_293 ?_
    refine zn_top (y := nI 0) rfl ?_
    refine lv_bipush (v := nI 6) F.1 F.2.1 dd_Mo_ctor_294 (by decide) ?_
    refine lv_iload_n F.1 F.2.1 dd_Mo_ctor_296 rfl (lv_at hl 0 rfl) ?_
    refine zn_imul F dd_Mo_ctor_297 ?_
    refine zn_top (y := nI 0) rfl ?_
    refine zn_iadd F dd_Mo_ctor_298 ?_
    refine zn_top (y := nI 0) rfl ?_
    refine lv_sipush (v := nI 1000) F.1 F.2.1 dd_Mo_ctor_299 (by decide) ?_
    refine zx_iast (k := 26) (f := va_up (f) (19) (.inl (G.2 0, 48, .inl (fun _ => 0)))) (x := 19) (j := 0) F hE hP hz hS (by decide) (zx_leC (k := 0) (a := 19) (by decide)) (va_up_self _ _ _) (by decide) (by decide) dd_Mo_ctor_302 (fun H locs hP (hz : H.size = b0 + (26)) hS => ?_)
    rw [zx_uu (α := va_E) (a := 19)] at hP
    refine lv_iinc F.1 F.2.1 dd_Mo_ctor_303 hl (k := 0) rfl (v := nI 1) (by decide) (by decide) (lv' := [(3, .int (nI 1)), (2, .int (nI 0)), (0, .ref (b0 + 0)), (1, .int x)]) rfl (fun ls hl => ?_)
    refine lv_goto F.1 F.2.1 dd_Mo_ctor_306 (tgt := 281) rfl ?_
    refine lv_iload_n F.1 F.2.1 dd_Mo_ctor_281 rfl (lv_at hl 0 rfl) ?_
    refine lv_iconst (v := nI 4) F.1 F.2.1 dd_Mo_ctor_282 (by decide) ?_
    refine zn_cge F dd_Mo_ctor_283 (tgt := 309) rfl (by decide) (by decide) (fun h => absurd h (by decide)) (fun h => ?_)
    refine lv_aload_n F.1 F.2.1 dd_Mo_ctor_286 rfl (lv_at hl 2 rfl) ?_
    refine zw_gF (n := 26) (f := va_up (f) (19) (.inl (G.2 0, 48, .inl (upd (fun _ => 0) 0 (nI 1000))))) (x := 0) F hE hP (by decide) ((va_up_ne _ _ (by decide)).trans ((hf 0 (by decide)))) rfl zi_Mo 19 (by decide) rfl wf_Mo_65 rfl dd_Mo_ctor_287 ?_
    refine W.eq (g2 := F0 m 290 ls [.ref (b0 + 19)]) rfl ?_
    refine lv_bipush (v := nI 24) F.1 F.2.1 dd_Mo_ctor_290 (by decide) ?_
    refine lv_iload_n F.1 F.2.1 dd_Mo_ctor_292 rfl (lv_at hl 1 rfl) ?_
    refine zn_imul F dd_Mo_ctor_293 ?_
    refine zn_top (y := nI 0) rfl ?_
    refine lv_bipush (v := nI 6) F.1 F.2.1 dd_Mo_ctor_294 (by decide) ?_
    refine lv_iload_n F.1 F.2.1 dd_Mo_ctor_296 rfl (lv_at hl 0 rfl) ?_
    refine zn_imul F dd_Mo_ctor_297 ?_
    refine zn_top (y := nI 6) rfl ?_
    refine zn_iadd F dd_Mo_ctor_298 ?_
    refine zn_top (y := nI 6) rfl ?_
    refine lv_sipush (v := nI 1000) F.1 F.2.1 dd_Mo_ctor_299 (by decide) ?_
    refine zx_iast (k := 26) (f := va_up (f) (19) (.inl (G.2 0, 48, .inl (upd (fun _ => 0) 0 (nI 1000))))) (x := 19) (j := 6) F hE hP hz hS (by decide) (zx_leC (k := 0) (a := 19) (by decide)) (va_up_self _ _ _) (by decide) (by decide) dd_Mo_ctor_302 (fun H locs hP (hz : H.size = b0 + (26)) hS => ?_)
    rw [zx_uu (α := va_E) (a := 19)] at hP
    refine lv_iinc F.1 F.2.1 dd_Mo_ctor_303 hl (k := 0) rfl (v := nI 2) (by decide) (by decide) (lv' := [(3, .int (nI 2)), (2, .int (nI 0)), (0, .ref (b0 + 0)), (1, .int x)]) rfl (fun ls hl => ?_)
    refine lv_goto F.1 F.2.1 dd_Mo_ctor_306 (tgt := 281) rfl ?_
    refine lv_iload_n F.1 F.2.1 dd_Mo_ctor_281 rfl (lv_at hl 0 rfl) ?_
    refine lv_iconst (v := nI 4) F.1 F.2.1 dd_Mo_ctor_282 (by decide) ?_
    refine zn_cge F dd_Mo_ctor_283 (tgt := 309) rfl (by decide) (by decide) (fun h => absurd h (by decide)) (fun h => ?_)
    refine lv_aload_n F.1 F.2.1 dd_Mo_ctor_286 rfl (lv_at hl 2 rfl) ?_
    refine zw_gF (n := 26) (f := va_up (f) (19) (.inl (G.2 0, 48, .inl (upd (upd (fun _ => 0) 0 (nI 1000)) 6 (nI 1000))))) (x := 0) F hE hP (by decide) ((va_up_ne _ _ (by decide)).trans ((hf 0 (by decide)))) rfl zi_Mo 19 (by decide) rfl wf_Mo_65 rfl dd_Mo_ctor_287 ?_
    refine W.eq (g2 := F0 m 290 ls [.ref (b0 + 19)]) rfl ?_
    refine lv_bipush (v := nI 24) F.1 F.2.1 dd_Mo_ctor_290 (by decide) ?_
    refine lv_iload_n F.1 F.2.1 dd_Mo_ctor_292 rfl (lv_at hl 1 rfl) ?_
    refine zn_imul F dd_Mo_ctor_293 ?_
    refine zn_top (y := nI 0) rfl ?_
    refine lv_bipush (v := nI 6) F.1 F.2.1 dd_Mo_ctor_294 (by decide) ?_
    refine lv_iload_n F.1 F.2.1 dd_Mo_ctor_296 rfl (lv_at hl 0 rfl) ?_
    refine zn_imul F dd_Mo_ctor_297 ?_
    refine zn_top (y := nI 12) rfl ?_
    refine zn_iadd F dd_Mo_ctor_298 ?_
    refine zn_top (y := nI 12) rfl ?_
    refine lv_sipush (v := nI 1000) F.1 F.2.1 dd_Mo_ctor_299 (by decide) ?_
    refine zx_iast (k := 26) (f := va_up (f) (19) (.inl (G.2 0, 48, .inl (upd (upd (fun _ => 0) 0 (nI 1000)) 6 (nI 1000))))) (x := 19) (j := 12) F hE hP hz hS (by decide) (zx_leC (k := 0) (a := 19) (by decide)) (va_up_self _ _ _) (by decide) (by decide) dd_Mo_ctor_302 (fun H locs hP (hz : H.size = b0 + (26)) hS => ?_)
    rw [zx_uu (α := va_E) (a := 19)] at hP
    refine lv_iinc F.1 F.2.1 dd_Mo_ctor_303 hl (k := 0) rfl (v := nI 3) (by decide) (by decide) (lv' := [(3, .int (nI 3)), (2, .int (nI 0)), (0, .ref (b0 + 0)), (1, .int x)]) rfl (fun ls hl => ?_)
    refine lv_goto F.1 F.2.1 dd_Mo_ctor_306 (tgt := 281) rfl ?_
    refine lv_iload_n F.1 F.2.1 dd_Mo_ctor_281 rfl (lv_at hl 0 rfl) ?_
    refine lv_iconst (v := nI 4) F.1 F.2.1 dd_Mo_ctor_282 (by decide) ?_
    refine zn_cge F dd_Mo_ctor_283 (tgt := 309) rfl (by decide) (by decide) (fun h => absurd h (by decide)) (fun h => ?_)
    refine lv_aload_n F.1 F.2.1 dd_Mo_ctor_286 rfl (lv_at hl 2 rfl) ?_
    refine zw_gF (n := 26) (f := va_up (f) (19) (.inl (G.2 0, 48, .inl (upd (upd (upd (fun _ => 0) 0 (nI 1000)) 6 (nI 1000)) 12 (nI 1000))))) (x := 0) F hE hP (by decide) ((va_up_ne _ _ (by decide)).trans ((hf 0 (by decide)))) rfl zi_Mo 19 (by decide) rfl wf_Mo_65 rfl dd_Mo_ctor_287 ?_
    refine W.eq (g2 := F0 m 290 ls [.ref (b0 + 19)]) rfl ?_
    refine lv_bipush (v := nI 24) F.1 F.2.1 dd_Mo_ctor_290 (by decide) ?_
    refine lv_iload_n F.1 F.2.1 dd_Mo_ctor_292 rfl (lv_at hl 1 rfl) ?_
    refine zn_imul F dd_Mo_ctor_293 ?_
    refine zn_top (y := nI 0) rfl ?_
    refine lv_bipush (v := nI 6) F.1 F.2.1 dd_Mo_ctor_294 (by decide) ?_
    refine lv_iload_n F.1 F.2.1 dd_Mo_ctor_296 rfl (lv_at hl 0 rfl) ?_
    refine zn_imul F dd_Mo_ctor_297 ?_
    refine zn_top (y := nI 18) rfl ?_
    refine zn_iadd F dd_Mo_ctor_298 ?_
    refine zn_top (y := nI 18) rfl ?_
    refine lv_sipush (v := nI 1000) F.1 F.2.1 dd_Mo_ctor_299 (by decide) ?_
    refine zx_iast (k := 26) (f := va_up (f) (19) (.inl (G.2 0, 48, .inl (upd (upd (upd (fun _ => 0) 0 (nI 1000)) 6 (nI 1000)) 12 (nI 1000))))) (x := 19) (j := 18) F hE hP hz hS (by decide) (zx_leC (k := 0) (a := 19) (by decide)) (va_up_self _ _ _) (by decide) (by decide) dd_Mo_ctor_302 (fun H locs hP (hz : H.size = b0 + (26)) hS => ?_)
    rw [zx_uu (α := va_E) (a := 19)] at hP
    refine lv_iinc F.1 F.2.1 dd_Mo_ctor_303 hl (k := 0) rfl (v := nI 4) (by decide) (by decide) (lv' := [(3, .int (nI 4)), (2, .int (nI 0)), (0, .ref (b0 + 0)), (1, .int x)]) rfl (fun ls hl => ?_)
    refine lv_goto F.1 F.2.1 dd_Mo_ctor_306 (tgt := 281) rfl ?_
    refine lv_iload_n F.1 F.2.1 dd_Mo_ctor_281 rfl (lv_at hl 0 rfl) ?_
    refine lv_iconst (v := nI 4) F.1 F.2.1 dd_Mo_ctor_282 (by decide) ?_
    refine zn_cge F dd_Mo_ctor_283 (tgt := 309) rfl (by decide) (by decide) (fun h => ?_) (fun h => absurd h (by decide))
    refine lv_iinc F.1 F.2.1 dd_Mo_ctor_309 hl (k := 1) rfl (v := nI 1) (by decide) (by decide) (lv' := [(2, .int (nI 1)), (3, .int (nI 4)), (0, .ref (b0 + 0)), (1, .int x)]) rfl (fun ls hl => ?_)
    refine lv_goto F.1 F.2.1 dd_Mo_ctor_312 (tgt := 274) rfl ?_
    refine lv_iload_n F.1 F.2.1 dd_Mo_ctor_274 rfl (lv_at hl 0 rfl) ?_
    refine lv_iconst (v := nI 2) F.1 F.2.1 dd_Mo_ctor_275 (by decide) ?_
    refine zn_cge F dd_Mo_ctor_276 (tgt := 315) rfl (by decide) (by decide) (fun h => absurd h (by decide)) (fun h => ?_)
    refine lv_iconst (v := nI 0) F.1 F.2.1 dd_Mo_ctor_279 (by decide) ?_
    refine lv_istore_n F.1 F.2.1 dd_Mo_ctor_280 rfl hl (by decide) (lv' := [(3, .int (nI 0)), (2, .int (nI 1)), (0, .ref (b0 + 0)), (1, .int x)]) rfl (fun ls hl => ?_)
    refine lv_iload_n F.1 F.2.1 dd_Mo_ctor_281 rfl (lv_at hl 0 rfl) ?_
    refine lv_iconst (v := nI 4) F.1 F.2.1 dd_Mo_ctor_282 (by decide) ?_
    refine zn_cge F dd_Mo_ctor_283 (tgt := 309) rfl (by decide) (by decide) (fun h => absurd h (by decide)) (fun h => ?_)
    refine lv_aload_n F.1 F.2.1 dd_Mo_ctor_286 rfl (lv_at hl 2 rfl) ?_
    refine zw_gF (n := 26) (f := va_up (f) (19) (.inl (G.2 0, 48, .inl (upd (upd (upd (upd (fun _ => 0) 0 (nI 1000)) 6 (nI 1000)) 12 (nI 1000)) 18 (nI 1000))))) (x := 0) F hE hP (by decide) ((va_up_ne _ _ (by decide)).trans ((hf 0 (by decide)))) rfl zi_Mo 19 (by decide) rfl wf_Mo_65 rfl dd_Mo_ctor_287 ?_
    refine W.eq (g2 := F0 m 290 ls [.ref (b0 + 19)]) rfl ?_
    refine lv_bipush (v := nI 24) F.1 F.2.1 dd_Mo_ctor_290 (by decide) ?_
    refine lv_iload_n F.1 F.2.1 dd_Mo_ctor_292 rfl (lv_at hl 1 rfl) ?_
    refine zn_imul F dd_Mo_ctor_293 ?_
    refine zn_top (y := nI 24) rfl ?_
    refine lv_bipush (v := nI 6) F.1 F.2.1 dd_Mo_ctor_294 (by decide) ?_
    refine lv_iload_n F.1 F.2.1 dd_Mo_ctor_296 rfl (lv_at hl 0 rfl) ?_
    refine zn_imul F dd_Mo_ctor_297 ?_
    refine zn_top (y := nI 0) rfl ?_
    refine zn_iadd F dd_Mo_ctor_298 ?_
    refine zn_top (y := nI 24) rfl ?_
    refine lv_sipush (v := nI 1000) F.1 F.2.1 dd_Mo_ctor_299 (by decide) ?_
    refine zx_iast (k := 26) (f := va_up (f) (19) (.inl (G.2 0, 48, .inl (upd (upd (upd (upd (fun _ => 0) 0 (nI 1000)) 6 (nI 1000)) 12 (nI 1000)) 18 (nI 1000))))) (x := 19) (j := 24) F hE hP hz hS (by decide) (zx_leC (k := 0) (a := 19) (by decide)) (va_up_self _ _ _) (by decide) (by decide) dd_Mo_ctor_302 (fun H locs hP (hz : H.size = b0 + (26)) hS => ?_)
    rw [zx_uu (α := va_E) (a := 19)] at hP
    refine lv_iinc F.1 F.2.1 dd_Mo_ctor_303 hl (k := 0) rfl (v := nI 1) (by decide) (by decide) (lv' := [(3, .int (nI 1)), (2, .int (nI 1)), (0, .ref (b0 + 0)), (1, .int x)]) rfl (fun ls hl => ?_)
    refine lv_goto F.1 F.2.1 dd_Mo_ctor_306 (tgt := 281) rfl ?_
    refine lv_iload_n F.1 F.2.1 dd_Mo_ctor_281 rfl (lv_at hl 0 rfl) ?_
    refine lv_iconst (v := nI 4) F.1 F.2.1 dd_Mo_ctor_282 (by decide) ?_
    refine zn_cge F dd_Mo_ctor_283 (tgt := 309) rfl (by decide) (by decide) (fun h => absurd h (by decide)) (fun h => ?_)
    refine lv_aload_n F.1 F.2.1 dd_Mo_ctor_286 rfl (lv_at hl 2 rfl) ?_
    refine zw_gF (n := 26) (f := va_up (f) (19) (.inl (G.2 0, 48, .inl (upd (upd (upd (upd (upd (fun _ => 0) 0 (nI 1000)) 6 (nI 1000)) 12 (nI 1000)) 18 (nI 1000)) 24 (nI 1000))))) (x := 0) F hE hP (by decide) ((va_up_ne _ _ (by decide)).trans ((hf 0 (by decide)))) rfl zi_Mo 19 (by decide) rfl wf_Mo_65 rfl dd_Mo_ctor_287 ?_
    refine W.eq (g2 := F0 m 290 ls [.ref (b0 + 19)]) rfl ?_
    refine lv_bipush (v := nI 24) F.1 F.2.1 dd_Mo_ctor_290 (by decide) ?_
    refine lv_iload_n F.1 F.2.1 dd_Mo_ctor_292 rfl (lv_at hl 1 rfl) ?_
    refine zn_imul F dd_Mo_ctor_293 ?_
    refine zn_top (y := nI 24) rfl ?_
    refine lv_bipush (v := nI 6) F.1 F.2.1 dd_Mo_ctor_294 (by decide) ?_
    refine lv_iload_n F.1 F.2.1 dd_Mo_ctor_296 rfl (lv_at hl 0 rfl) ?_
    refine zn_imul F dd_Mo_ctor_297 ?_
    refine zn_top (y := nI 6) rfl ?_
    refine zn_iadd F dd_Mo_ctor_298 ?_
    refine zn_top (y := nI 30) rfl ?_
    refine lv_sipush (v := nI 1000) F.1 F.2.1 dd_Mo_ctor_299 (by decide) ?_
    refine zx_iast (k := 26) (f := va_up (f) (19) (.inl (G.2 0, 48, .inl (upd (upd (upd (upd (upd (fun _ => 0) 0 (nI 1000)) 6 (nI 1000)) 12 (nI 1000)) 18 (nI 1000)) 24 (nI 1000))))) (x := 19) (j := 30) F hE hP hz hS (by decide) (zx_leC (k := 0) (a := 19) (by decide)) (va_up_self _ _ _) (by decide) (by decide) dd_Mo_ctor_302 (fun H locs hP (hz : H.size = b0 + (26)) hS => ?_)
    rw [zx_uu (α := va_E) (a := 19)] at hP
    refine lv_iinc F.1 F.2.1 dd_Mo_ctor_303 hl (k := 0) rfl (v := nI 2) (by decide) (by decide) (lv' := [(3, .int (nI 2)), (2, .int (nI 1)), (0, .ref (b0 + 0)), (1, .int x)]) rfl (fun ls hl => ?_)
    refine lv_goto F.1 F.2.1 dd_Mo_ctor_306 (tgt := 281) rfl ?_
    refine lv_iload_n F.1 F.2.1 dd_Mo_ctor_281 rfl (lv_at hl 0 rfl) ?_
    refine lv_iconst (v := nI 4) F.1 F.2.1 dd_Mo_ctor_282 (by decide) ?_
    refine zn_cge F dd_Mo_ctor_283 (tgt := 309) rfl (by decide) (by decide) (fun h => absurd h (by decide)) (fun h => ?_)
    refine lv_aload_n F.1 F.2.1 dd_Mo_ctor_286 rfl (lv_at hl 2 rfl) ?_
    refine zw_gF (n := 26) (f := va_up (f) (19) (.inl (G.2 0, 48, .inl (upd (upd (upd (upd (upd (upd (fun _ => 0) 0 (nI 1000)) 6 (nI 1000)) 12 (nI 1000)) 18 (nI 1000)) 24 (nI 1000)) 30 (nI 1000))))) (x := 0) F hE hP (by decide) ((va_up_ne _ _ (by decide)).trans ((hf 0 (by decide)))) rfl zi_Mo 19 (by decide) rfl wf_Mo_65 rfl dd_Mo_ctor_287 ?_
    refine W.eq (g2 := F0 m 290 ls [.ref (b0 + 19)]) rfl ?_
    refine lv_bipush (v := nI 24) F.1 F.2.1 dd_Mo_ctor_290 (by decide) ?_
    refine lv_iload_n F.1 F.2.1 dd_Mo_ctor_292 rfl (lv_at hl 1 rfl) ?_
    refine zn_imul F dd_Mo_ctor_293 ?_
    refine zn_top (y := nI 24) rfl ?_
    refine lv_bipush (v := nI 6) F.1 F.2.1 dd_Mo_ctor_294 (by decide) ?_
    refine lv_iload_n F.1 F.2.1 dd_Mo_ctor_296 rfl (lv_at hl 0 rfl) ?_
    refine zn_imul F dd_Mo_ctor_297 ?_
    refine zn_top (y := nI 12) rfl ?_
    refine zn_iadd F dd_Mo_ctor_298 ?_
    refine zn_top (y := nI 36) rfl ?_
    refine lv_sipush (v := nI 1000) F.1 F.2.1 dd_Mo_ctor_299 (by decide) ?_
    refine zx_iast (k := 26) (f := va_up (f) (19) (.inl (G.2 0, 48, .inl (upd (upd (upd (upd (upd (upd (fun _ => 0) 0 (nI 1000)) 6 (nI 1000)) 12 (nI 1000)) 18 (nI 1000)) 24 (nI 1000)) 30 (nI 1000))))) (x := 19) (j := 36) F hE hP hz hS (by decide) (zx_leC (k := 0) (a := 19) (by decide)) (va_up_self _ _ _) (by decide) (by decide) dd_Mo_ctor_302 (fun H locs hP (hz : H.size = b0 + (26)) hS => ?_)
    rw [zx_uu (α := va_E) (a := 19)] at hP
    refine lv_iinc F.1 F.2.1 dd_Mo_ctor_303 hl (k := 0) rfl (v := nI 3) (by decide) (by decide) (lv' := [(3, .int (nI 3)), (2, .int (nI 1)), (0, .ref (b0 + 0)), (1, .int x)]) rfl (fun ls hl => ?_)
    refine lv_goto F.1 F.2.1 dd_Mo_ctor_306 (tgt := 281) rfl ?_
    refine lv_iload_n F.1 F.2.1 dd_Mo_ctor_281 rfl (lv_at hl 0 rfl) ?_
    refine lv_iconst (v := nI 4) F.1 F.2.1 dd_Mo_ctor_282 (by decide) ?_
    refine zn_cge F dd_Mo_ctor_283 (tgt := 309) rfl (by decide) (by decide) (fun h => absurd h (by decide)) (fun h => ?_)
    refine lv_aload_n F.1 F.2.1 dd_Mo_ctor_286 rfl (lv_at hl 2 rfl) ?_
    refine zw_gF (n := 26) (f := va_up (f) (19) (.inl (G.2 0, 48, .inl (upd (upd (upd (upd (upd (upd (upd (fun _ => 0) 0 (nI 1000)) 6 (nI 1000)) 12 (nI 1000)) 18 (nI 1000)) 24 (nI 1000)) 30 (nI 1000)) 36 (nI 1000))))) (x := 0) F hE hP (by decide) ((va_up_ne _ _ (by decide)).trans ((hf 0 (by decide)))) rfl zi_Mo 19 (by decide) rfl wf_Mo_65 rfl dd_Mo_ctor_287 ?_
    refine W.eq (g2 := F0 m 290 ls [.ref (b0 + 19)]) rfl ?_
    refine lv_bipush (v := nI 24) F.1 F.2.1 dd_Mo_ctor_290 (by decide) ?_
    refine lv_iload_n F.1 F.2.1 dd_Mo_ctor_292 rfl (lv_at hl 1 rfl) ?_
    refine zn_imul F dd_Mo_ctor_293 ?_
    refine zn_top (y := nI 24) rfl ?_
    refine lv_bipush (v := nI 6) F.1 F.2.1 dd_Mo_ctor_294 (by decide) ?_
    refine lv_iload_n F.1 F.2.1 dd_Mo_ctor_296 rfl (lv_at hl 0 rfl) ?_
    refine zn_imul F dd_Mo_ctor_297 ?_
    refine zn_top (y := nI 18) rfl ?_
    refine zn_iadd F dd_Mo_ctor_298 ?_
    refine zn_top (y := nI 42) rfl ?_
    refine lv_sipush (v := nI 1000) F.1 F.2.1 dd_Mo_ctor_299 (by decide) ?_
    refine zx_iast (k := 26) (f := va_up (f) (19) (.inl (G.2 0, 48, .inl (upd (upd (upd (upd (upd (upd (upd (fun _ => 0) 0 (nI 1000)) 6 (nI 1000)) 12 (nI 1000)) 18 (nI 1000)) 24 (nI 1000)) 30 (nI 1000)) 36 (nI 1000))))) (x := 19) (j := 42) F hE hP hz hS (by decide) (zx_leC (k := 0) (a := 19) (by decide)) (va_up_self _ _ _) (by decide) (by decide) dd_Mo_ctor_302 (fun H locs hP (hz : H.size = b0 + (26)) hS => ?_)
    rw [zx_uu (α := va_E) (a := 19)] at hP
    rw [zx_id (α := va_E) (f := f) (a := 19) (e := .inl (G.2 0, 48, .inl (upd (upd (upd (upd (upd (upd (upd (upd (fun _ => 0) 0 (nI 1000)) 6 (nI 1000)) 12 (nI 1000)) 18 (nI 1000)) 24 (nI 1000)) 30 (nI 1000)) 36 (nI 1000)) 42 (nI 1000)))) ((hf 19 (by decide)))] at hP
    refine lv_iinc F.1 F.2.1 dd_Mo_ctor_303 hl (k := 0) rfl (v := nI 4) (by decide) (by decide) (lv' := [(3, .int (nI 4)), (2, .int (nI 1)), (0, .ref (b0 + 0)), (1, .int x)]) rfl (fun ls hl => ?_)
    refine lv_goto F.1 F.2.1 dd_Mo_ctor_306 (tgt := 281) rfl ?_
    refine lv_iload_n F.1 F.2.1 dd_Mo_ctor_281 rfl (lv_at hl 0 rfl) ?_
    refine lv_iconst (v := nI 4) F.1 F.2.1 dd_Mo_ctor_282 (by decide) ?_
    refine zn_cge F dd_Mo_ctor_283 (tgt := 309) rfl (by decide) (by decide) (fun h => ?_) (fun h => absurd h (by decide))
    refine lv_iinc F.1 F.2.1 dd_Mo_ctor_309 hl (k := 1) rfl (v := nI 2) (by decide) (by decide) (lv' := [(2, .int (nI 2)), (3, .int (nI 4)), (0, .ref (b0 + 0)), (1, .int x)]) rfl (fun ls hl => ?_)
    refine lv_goto F.1 F.2.1 dd_Mo_ctor_312 (tgt := 274) rfl ?_
    refine lv_iload_n F.1 F.2.1 dd_Mo_ctor_274 rfl (lv_at hl 0 rfl) ?_
    refine lv_iconst (v := nI 2) F.1 F.2.1 dd_Mo_ctor_275 (by decide) ?_
    refine zn_cge F dd_Mo_ctor_276 (tgt := 315) rfl (by decide) (by decide) (fun h => ?_) (fun h => absurd h (by decide))
    exact zx_vret (k := 0) (n := 26) F hr hlk hP hz hS rfl (fun _ _ => rfl) dd_Mo_ctor_315
  · refine lv_iload_n F.1 F.2.1 dd_Mo_ctor_258 rfl (lv_at hl 1 rfl) ?_
    refine lv_bipush (v := nI 16) F.1 F.2.1 dd_Mo_ctor_259 (by decide) ?_
    refine lv_icmp_le F.1 F.2.1 dd_Mo_ctor_261 (tgt := 268) rfl (fun h261 => ?_) (fun h261 => ?_)
    · refine lv_iload_n F.1 F.2.1 dd_Mo_ctor_268 rfl (lv_at hl 1 rfl) ?_
      refine zn_top (y := zs_pt x) (by rw [zs_pt, if_neg h255, if_neg (fun z => zn_ltle z h261)]) ?_
      refine zx_pF (ty := .int) (k := 26) (f := va_up (va_up (f) (0) (.inr (7, [.int 0, .ref (b0 + 1), .ref (b0 + 2), .ref (b0 + 3), .ref (b0 + 4), .ref (b0 + 5), .ref (b0 + 6), .ref (b0 + 7), .ref (b0 + 8), .ref (b0 + 9), .ref (b0 + 10), .ref (b0 + 11), .ref (b0 + 12), .ref (b0 + 13), .ref (b0 + 14), .ref (b0 + 15), .ref (b0 + 16), .ref (b0 + 17), .ref (b0 + 18), .ref (b0 + 19), .ref (b0 + 20), .ref (b0 + 21), .ref (b0 + 22), .ref (b0 + 23), .ref (b0 + 24), .ref (b0 + 25)]))) (19) (.inl (G.2 0, 48, .inl (fun _ => 0)))) (x := 0) F hE hP hz hS (fun q _ h => Or.elim h (fun z => Nat.le_trans zsz z) id) (by decide) (zx_leC (k := 0) (a := 0) (by decide)) ((va_up_ne _ _ (by decide)).trans (va_up_self _ _ _)) rfl zi_Mo zy_Mo zj_Mo zl_Mo 0 (by decide) rfl rfl hin2 rfl wf_Mo_86 (by decide +kernel) rfl rfl (Nat.le_of_ble_eq_true rfl) dd_Mo_ctor_269 (fun H locs hP (hz : H.size = b0 + (26)) hS => ?_)
      have hP : va_P G.1 zw_cl (zw_l b0 (26) (va_up (va_up (va_up (f) (0) (.inr (7, [.int 0, .ref (b0 + 1), .ref (b0 + 2), .ref (b0 + 3), .ref (b0 + 4), .ref (b0 + 5), .ref (b0 + 6), .ref (b0 + 7), .ref (b0 + 8), .ref (b0 + 9), .ref (b0 + 10), .ref (b0 + 11), .ref (b0 + 12), .ref (b0 + 13), .ref (b0 + 14), .ref (b0 + 15), .ref (b0 + 16), .ref (b0 + 17), .ref (b0 + 18), .ref (b0 + 19), .ref (b0 + 20), .ref (b0 + 21), .ref (b0 + 22), .ref (b0 + 23), .ref (b0 + 24), .ref (b0 + 25)]))) (19) (.inl (G.2 0, 48, .inl (fun _ => 0)))) (0) (.inr (7, [.int (zs_pt x), .ref (b0 + 1), .ref (b0 + 2), .ref (b0 + 3), .ref (b0 + 4), .ref (b0 + 5), .ref (b0 + 6), .ref (b0 + 7), .ref (b0 + 8), .ref (b0 + 9), .ref (b0 + 10), .ref (b0 + 11), .ref (b0 + 12), .ref (b0 + 13), .ref (b0 + 14), .ref (b0 + 15), .ref (b0 + 16), .ref (b0 + 17), .ref (b0 + 18), .ref (b0 + 19), .ref (b0 + 20), .ref (b0 + 21), .ref (b0 + 22), .ref (b0 + 23), .ref (b0 + 24), .ref (b0 + 25)])))) H := hP
      rw [zx_uc (α := va_E) (a := 0) (b := 19) (by decide)] at hP
      rw [zx_uu (α := va_E) (a := 0)] at hP
      refine W.eq (g2 := F0 m 272 ls []) rfl ?_
      rw [zx_id (α := va_E) (f := f) (a := 0) (e := .inr (7, [.int (zs_pt x), .ref (b0 + 1), .ref (b0 + 2), .ref (b0 + 3), .ref (b0 + 4), .ref (b0 + 5), .ref (b0 + 6), .ref (b0 + 7), .ref (b0 + 8), .ref (b0 + 9), .ref (b0 + 10), .ref (b0 + 11), .ref (b0 + 12), .ref (b0 + 13), .ref (b0 + 14), .ref (b0 + 15), .ref (b0 + 16), .ref (b0 + 17), .ref (b0 + 18), .ref (b0 + 19), .ref (b0 + 20), .ref (b0 + 21), .ref (b0 + 22), .ref (b0 + 23), .ref (b0 + 24), .ref (b0 + 25)])) ((hf 0 (by decide)))] at hP
      refine lv_iconst (v := nI 0) F.1 F.2.1 dd_Mo_ctor_272 (by decide) ?_
      refine lv_istore_n F.1 F.2.1 dd_Mo_ctor_273 rfl hl (by decide) (lv' := [(2, .int (nI 0)), (0, .ref (b0 + 0)), (1, .int x)]) rfl (fun ls hl => ?_)
      refine lv_iload_n F.1 F.2.1 dd_Mo_ctor_274 rfl (lv_at hl 0 rfl) ?_
      refine lv_iconst (v := nI 2) F.1 F.2.1 dd_Mo_ctor_275 (by decide) ?_
      refine zn_cge F dd_Mo_ctor_276 (tgt := 315) rfl (by decide) (by decide) (fun h => absurd h (by decide)) (fun h => ?_)
      refine lv_iconst (v := nI 0) F.1 F.2.1 dd_Mo_ctor_279 (by decide) ?_
      refine lv_istore_n F.1 F.2.1 dd_Mo_ctor_280 rfl hl (by decide) (lv' := [(3, .int (nI 0)), (2, .int (nI 0)), (0, .ref (b0 + 0)), (1, .int x)]) rfl (fun ls hl => ?_)
      refine lv_iload_n F.1 F.2.1 dd_Mo_ctor_281 rfl (lv_at hl 0 rfl) ?_
      refine lv_iconst (v := nI 4) F.1 F.2.1 dd_Mo_ctor_282 (by decide) ?_
      refine zn_cge F dd_Mo_ctor_283 (tgt := 309) rfl (by decide) (by decide) (fun h => absurd h (by decide)) (fun h => ?_)
      refine lv_aload_n F.1 F.2.1 dd_Mo_ctor_286 rfl (lv_at hl 2 rfl) ?_
      refine zw_gF (n := 26) (f := va_up (f) (19) (.inl (G.2 0, 48, .inl (fun _ => 0)))) (x := 0) F hE hP (by decide) ((va_up_ne _ _ (by decide)).trans ((hf 0 (by decide)))) rfl zi_Mo 19 (by decide) rfl wf_Mo_65 rfl dd_Mo_ctor_287 ?_
      refine W.eq (g2 := F0 m 290 ls [.ref (b0 + 19)]) rfl ?_
      refine lv_bipush (v := nI 24) F.1 F.2.1 dd_Mo_ctor_290 (by decide) ?_
      refine lv_iload_n F.1 F.2.1 dd_Mo_ctor_292 rfl (lv_at hl 1 rfl) ?_
      refine zn_imul F dd_Mo_ctor_293 ?_
      refine zn_top (y := nI 0) rfl ?_
      refine lv_bipush (v := nI 6) F.1 F.2.1 dd_Mo_ctor_294 (by decide) ?_
      refine lv_iload_n F.1 F.2.1 dd_Mo_ctor_296 rfl (lv_at hl 0 rfl) ?_
      refine zn_imul F dd_Mo_ctor_297 ?_
      refine zn_top (y := nI 0) rfl ?_
      refine zn_iadd F dd_Mo_ctor_298 ?_
      refine zn_top (y := nI 0) rfl ?_
      refine lv_sipush (v := nI 1000) F.1 F.2.1 dd_Mo_ctor_299 (by decide) ?_
      refine zx_iast (k := 26) (f := va_up (f) (19) (.inl (G.2 0, 48, .inl (fun _ => 0)))) (x := 19) (j := 0) F hE hP hz hS (by decide) (zx_leC (k := 0) (a := 19) (by decide)) (va_up_self _ _ _) (by decide) (by decide) dd_Mo_ctor_302 (fun H locs hP (hz : H.size = b0 + (26)) hS => ?_)
      rw [zx_uu (α := va_E) (a := 19)] at hP
      refine lv_iinc F.1 F.2.1 dd_Mo_ctor_303 hl (k := 0) rfl (v := nI 1) (by decide) (by decide) (lv' := [(3, .int (nI 1)), (2, .int (nI 0)), (0, .ref (b0 + 0)), (1, .int x)]) rfl (fun ls hl => ?_)
      refine lv_goto F.1 F.2.1 dd_Mo_ctor_306 (tgt := 281) rfl ?_
      refine lv_iload_n F.1 F.2.1 dd_Mo_ctor_281 rfl (lv_at hl 0 rfl) ?_
      refine lv_iconst (v := nI 4) F.1 F.2.1 dd_Mo_ctor_282 (by decide) ?_
      refine zn_cge F dd_Mo_ctor_283 (tgt := 309) rfl (by decide) (by decide) (fun h => absurd h (by decide)) (fun h => ?_)
      refine lv_aload_n F.1 F.2.1 dd_Mo_ctor_286 rfl (lv_at hl 2 rfl) ?_
      refine zw_gF (n := 26) (f := va_up (f) (19) (.inl (G.2 0, 48, .inl (upd (fun _ => 0) 0 (nI 1000))))) (x := 0) F hE hP (by decide) ((va_up_ne _ _ (by decide)).trans ((hf 0 (by decide)))) rfl zi_Mo 19 (by decide) rfl wf_Mo_65 rfl dd_Mo_ctor_287 ?_
      refine W.eq (g2 := F0 m 290 ls [.ref (b0 + 19)]) rfl ?_
      refine lv_bipush (v := nI 24) F.1 F.2.1 dd_Mo_ctor_290 (by decide) ?_
      refine lv_iload_n F.1 F.2.1 dd_Mo_ctor_292 rfl (lv_at hl 1 rfl) ?_
      refine zn_imul F dd_Mo_ctor_293 ?_
      refine zn_top (y := nI 0) rfl ?_
      refine lv_bipush (v := nI 6) F.1 F.2.1 dd_Mo_ctor_294 (by decide) ?_
      refine lv_iload_n F.1 F.2.1 dd_Mo_ctor_296 rfl (lv_at hl 0 rfl) ?_
      refine zn_imul F dd_Mo_ctor_297 ?_
      refine zn_top (y := nI 6) rfl ?_
      refine zn_iadd F dd_Mo_ctor_298 ?_
      refine zn_top (y := nI 6) rfl ?_
      refine lv_sipush (v := nI 1000) F.1 F.2.1 dd_Mo_ctor_299 (by decide) ?_
      refine zx_iast (k := 26) (f := va_up (f) (19) (.inl (G.2 0, 48, .inl (upd (fun _ => 0) 0 (nI 1000))))) (x := 19) (j := 6) F hE hP hz hS (by decide) (zx_leC (k := 0) (a := 19) (by decide)) (va_up_self _ _ _) (by decide) (by decide) dd_Mo_ctor_302 (fun H locs hP (hz : H.size = b0 + (26)) hS => ?_)
      rw [zx_uu (α := va_E) (a := 19)] at hP
      refine lv_iinc F.1 F.2.1 dd_Mo_ctor_303 hl (k := 0) rfl (v := nI 2) (by decide) (by decide) (lv' := [(3, .int (nI 2)), (2, .int (nI 0)), (0, .ref (b0 + 0)), (1, .int x)]) rfl (fun ls hl => ?_)
      refine lv_goto F.1 F.2.1 dd_Mo_ctor_306 (tgt := 281) rfl ?_
      refine lv_iload_n F.1 F.2.1 dd_Mo_ctor_281 rfl (lv_at hl 0 rfl) ?_
      refine lv_iconst (v := nI 4) F.1 F.2.1 dd_Mo_ctor_282 (by decide) ?_
      refine zn_cge F dd_Mo_ctor_283 (tgt := 309) rfl (by decide) (by decide) (fun h => absurd h (by decide)) (fun h => ?_)
      refine lv_aload_n F.1 F.2.1 dd_Mo_ctor_286 rfl (lv_at hl 2 rfl) ?_
      refine zw_gF (n := 26) (f := va_up (f) (19) (.inl (G.2 0, 48, .inl (upd (upd (fun _ => 0) 0 (nI 1000)) 6 (nI 1000))))) (x := 0) F hE hP (by decide) ((va_up_ne _ _ (by decide)).trans ((hf 0 (by decide)))) rfl zi_Mo 19 (by decide) rfl wf_Mo_65 rfl dd_Mo_ctor_287 ?_
      refine W.eq (g2 := F0 m 290 ls [.ref (b0 + 19)]) rfl ?_
      refine lv_bipush (v := nI 24) F.1 F.2.1 dd_Mo_ctor_290 (by decide) ?_
      refine lv_iload_n F.1 F.2.1 dd_Mo_ctor_292 rfl (lv_at hl 1 rfl) ?_
      refine zn_imul F dd_Mo_ctor_293 ?_
      refine zn_top (y := nI 0) rfl ?_
      refine lv_bipush (v := nI 6) F.1 F.2.1 dd_Mo_ctor_294 (by decide) ?_
      refine lv_iload_n F.1 F.2.1 dd_Mo_ctor_296 rfl (lv_at hl 0 rfl) ?_
      refine zn_imul F dd_Mo_ctor_297 ?_
      refine zn_top (y := nI 12) rfl ?_
      refine zn_iadd F dd_Mo_ctor_298 ?_
      refine zn_top (y := nI 12) rfl ?_
      refine lv_sipush (v := nI 1000) F.1 F.2.1 dd_Mo_ctor_299 (by decide) ?_
      refine zx_iast (k := 26) (f := va_up (f) (19) (.inl (G.2 0, 48, .inl (upd (upd (fun _ => 0) 0 (nI 1000)) 6 (nI 1000))))) (x := 19) (j := 12) F hE hP hz hS (by decide) (zx_leC (k := 0) (a := 19) (by decide)) (va_up_self _ _ _) (by decide) (by decide) dd_Mo_ctor_302 (fun H locs hP (hz : H.size = b0 + (26)) hS => ?_)
      rw [zx_uu (α := va_E) (a := 19)] at hP
      refine lv_iinc F.1 F.2.1 dd_Mo_ctor_303 hl (k := 0) rfl (v := nI 3) (by decide) (by decide) (lv' := [(3, .int (nI 3)), (2, .int (nI 0)), (0, .ref (b0 + 0)), (1, .int x)]) rfl (fun ls hl => ?_)
      refine lv_goto F.1 F.2.1 dd_Mo_ctor_306 (tgt := 281) rfl ?_
      refine lv_iload_n F.1 F.2.1 dd_Mo_ctor_281 rfl (lv_at hl 0 rfl) ?_
      refine lv_iconst (v := nI 4) F.1 F.2.1 dd_Mo_ctor_282 (by decide) ?_
      refine zn_cge F dd_Mo_ctor_283 (tgt := 309) rfl (by decide) (by decide) (fun h => absurd h (by decide)) (fun h => ?_)
      refine lv_aload_n F.1 F.2.1 dd_Mo_ctor_286 rfl (lv_at hl 2 rfl) ?_
      refine zw_gF (n := 26) (f := va_up (f) (19) (.inl (G.2 0, 48, .inl (upd (upd (upd (fun _ => 0) 0 (nI 1000)) 6 (nI 1000)) 12 (nI 1000))))) (x := 0) F hE hP (by decide) ((va_up_ne _ _ (by decide)).trans ((hf 0 (by decide)))) rfl zi_Mo 19 (by decide) rfl wf_Mo_65 rfl dd_Mo_ctor_287 ?_
      refine W.eq (g2 := F0 m 290 ls [.ref (b0 + 19)]) rfl ?_
      refine lv_bipush (v := nI 24) F.1 F.2.1 dd_Mo_ctor_290 (by decide) ?_
      refine lv_iload_n F.1 F.2.1 dd_Mo_ctor_292 rfl (lv_at hl 1 rfl) ?_
      refine zn_imul F dd_Mo_ctor_293 ?_
      refine zn_top (y := nI 0) rfl ?_
      refine lv_bipush (v := nI 6) F.1 F.2.1 dd_Mo_ctor_294 (by decide) ?_
      refine lv_iload_n F.1 F.2.1 dd_Mo_ctor_296 rfl (lv_at hl 0 rfl) ?_
      refine zn_imul F dd_Mo_ctor_297 ?_
      refine zn_top (y := nI 18) rfl ?_
      refine zn_iadd F dd_Mo_ctor_298 ?_
      refine zn_top (y := nI 18) rfl ?_
      refine lv_sipush (v := nI 1000) F.1 F.2.1 dd_Mo_ctor_299 (by decide) ?_
      refine zx_iast (k := 26) (f := va_up (f) (19) (.inl (G.2 0, 48, .inl (upd (upd (upd (fun _ => 0) 0 (nI 1000)) 6 (nI 1000)) 12 (nI 1000))))) (x := 19) (j := 18) F hE hP hz hS (by decide) (zx_leC (k := 0) (a := 19) (by decide)) (va_up_self _ _ _) (by decide) (by decide) dd_Mo_ctor_302 (fun H locs hP (hz : H.size = b0 + (26)) hS => ?_)
      rw [zx_uu (α := va_E) (a := 19)] at hP
      refine lv_iinc F.1 F.2.1 dd_Mo_ctor_303 hl (k := 0) rfl (v := nI 4) (by decide) (by decide) (lv' := [(3, .int (nI 4)), (2, .int (nI 0)), (0, .ref (b0 + 0)), (1, .int x)]) rfl (fun ls hl => ?_)
      refine lv_goto F.1 F.2.1 dd_Mo_ctor_306 (tgt := 281) rfl ?_
      refine lv_iload_n F.1 F.2.1 dd_Mo_ctor_281 rfl (lv_at hl 0 rfl) ?_
      refine lv_iconst (v := nI 4) F.1 F.2.1 dd_Mo_ctor_282 (by decide) ?_
      refine zn_cge F dd_Mo_ctor_283 (tgt := 309) rfl (by decide) (by decide) (fun h => ?_) (fun h => absurd h (by decide))
      refine lv_iinc F.1 F.2.1 dd_Mo_ctor_309 hl (k := 1) rfl (v := nI 1) (by decide) (by decide) (lv' := [(2, .int (nI 1)), (3, .int (nI 4)), (0, .ref (b0 + 0)), (1, .int x)]) rfl (fun ls hl => ?_)
      refine lv_goto F.1 F.2.1 dd_Mo_ctor_312 (tgt := 274) rfl ?_
      refine lv_iload_n F.1 F.2.1 dd_Mo_ctor_274 rfl (lv_at hl 0 rfl) ?_
      refine lv_iconst (v := nI 2) F.1 F.2.1 dd_Mo_ctor_275 (by decide) ?_
      refine zn_cge F dd_Mo_ctor_276 (tgt := 315) rfl (by decide) (by decide) (fun h => absurd h (by decide)) (fun h => ?_)
      refine lv_iconst (v := nI 0) F.1 F.2.1 dd_Mo_ctor_279 (by decide) ?_
      refine lv_istore_n F.1 F.2.1 dd_Mo_ctor_280 rfl hl (by decide) (lv' := [(3, .int (nI 0)), (2, .int (nI 1)), (0, .ref (b0 + 0)), (1, .int x)]) rfl (fun ls hl => ?_)
      refine lv_iload_n F.1 F.2.1 dd_Mo_ctor_281 rfl (lv_at hl 0 rfl) ?_
      refine lv_iconst (v := nI 4) F.1 F.2.1 dd_Mo_ctor_282 (by decide) ?_
      refine zn_cge F dd_Mo_ctor_283 (tgt := 309) rfl (by decide) (by decide) (fun h => absurd h (by decide)) (fun h => ?_)
      refine lv_aload_n F.1 F.2.1 dd_Mo_ctor_286 rfl (lv_at hl 2 rfl) ?_
      refine zw_gF (n := 26) (f := va_up (f) (19) (.inl (G.2 0, 48, .inl (upd (upd (upd (upd (fun _ => 0) 0 (nI 1000)) 6 (nI 1000)) 12 (nI 1000)) 18 (nI 1000))))) (x := 0) F hE hP (by decide) ((va_up_ne _ _ (by decide)).trans ((hf 0 (by decide)))) rfl zi_Mo 19 (by decide) rfl wf_Mo_65 rfl dd_Mo_ctor_287 ?_
      refine W.eq (g2 := F0 m 290 ls [.ref (b0 + 19)]) rfl ?_
      refine lv_bipush (v := nI 24) F.1 F.2.1 dd_Mo_ctor_290 (by decide) ?_
      refine lv_iload_n F.1 F.2.1 dd_Mo_ctor_292 rfl (lv_at hl 1 rfl) ?_
      refine zn_imul F dd_Mo_ctor_293 ?_
      refine zn_top (y := nI 24) rfl ?_
      refine lv_bipush (v := nI 6) F.1 F.2.1 dd_Mo_ctor_294 (by decide) ?_
      refine lv_iload_n F.1 F.2.1 dd_Mo_ctor_296 rfl (lv_at hl 0 rfl) ?_
      refine zn_imul F dd_Mo_ctor_297 ?_
      refine zn_top (y := nI 0) rfl ?_
      refine zn_iadd F dd_Mo_ctor_298 ?_
      refine zn_top (y := nI 24) rfl ?_
      refine lv_sipush (v := nI 1000) F.1 F.2.1 dd_Mo_ctor_299 (by decide) ?_
      refine zx_iast (k := 26) (f := va_up (f) (19) (.inl (G.2 0, 48, .inl (upd (upd (upd (upd (fun _ => 0) 0 (nI 1000)) 6 (nI 1000)) 12 (nI 1000)) 18 (nI 1000))))) (x := 19) (j := 24) F hE hP hz hS (by decide) (zx_leC (k := 0) (a := 19) (by decide)) (va_up_self _ _ _) (by decide) (by decide) dd_Mo_ctor_302 (fun H locs hP (hz : H.size = b0 + (26)) hS => ?_)
      rw [zx_uu (α := va_E) (a := 19)] at hP
      refine lv_iinc F.1 F.2.1 dd_Mo_ctor_303 hl (k := 0) rfl (v := nI 1) (by decide) (by decide) (lv' := [(3, .int (nI 1)), (2, .int (nI 1)), (0, .ref (b0 + 0)), (1, .int x)]) rfl (fun ls hl => ?_)
      refine lv_goto F.1 F.2.1 dd_Mo_ctor_306 (tgt := 281) rfl ?_
      refine lv_iload_n F.1 F.2.1 dd_Mo_ctor_281 rfl (lv_at hl 0 rfl) ?_
      refine lv_iconst (v := nI 4) F.1 F.2.1 dd_Mo_ctor_282 (by decide) ?_
      refine zn_cge F dd_Mo_ctor_283 (tgt := 309) rfl (by decide) (by decide) (fun h => absurd h (by decide)) (fun h => ?_)
      refine lv_aload_n F.1 F.2.1 dd_Mo_ctor_286 rfl (lv_at hl 2 rfl) ?_
      refine zw_gF (n := 26) (f := va_up (f) (19) (.inl (G.2 0, 48, .inl (upd (upd (upd (upd (upd (fun _ => 0) 0 (nI 1000)) 6 (nI 1000)) 12 (nI 1000)) 18 (nI 1000)) 24 (nI 1000))))) (x := 0) F hE hP (by decide) ((va_up_ne _ _ (by decide)).trans ((hf 0 (by decide)))) rfl zi_Mo 19 (by decide) rfl wf_Mo_65 rfl dd_Mo_ctor_287 ?_
      refine W.eq (g2 := F0 m 290 ls [.ref (b0 + 19)]) rfl ?_
      refine lv_bipush (v := nI 24) F.1 F.2.1 dd_Mo_ctor_290 (by decide) ?_
      refine lv_iload_n F.1 F.2.1 dd_Mo_ctor_292 rfl (lv_at hl 1 rfl) ?_
      refine zn_imul F dd_Mo_ctor_293 ?_
      refine zn_top (y := nI 24) rfl ?_
      refine lv_bipush (v := nI 6) F.1 F.2.1 dd_Mo_ctor_294 (by decide) ?_
      refine lv_iload_n F.1 F.2.1 dd_Mo_ctor_296 rfl (lv_at hl 0 rfl) ?_
      refine zn_imul F dd_Mo_ctor_297 ?_
      refine zn_top (y := nI 6) rfl ?_
      refine zn_iadd F dd_Mo_ctor_298 ?_
      refine zn_top (y := nI 30) rfl ?_
      refine lv_sipush (v := nI 1000) F.1 F.2.1 dd_Mo_ctor_299 (by decide) ?_
      refine zx_iast (k := 26) (f := va_up (f) (19) (.inl (G.2 0, 48, .inl (upd (upd (upd (upd (upd (fun _ => 0) 0 (nI 1000)) 6 (nI 1000)) 12 (nI 1000)) 18 (nI 1000)) 24 (nI 1000))))) (x := 19) (j := 30) F hE hP hz hS (by decide) (zx_leC (k := 0) (a := 19) (by decide)) (va_up_self _ _ _) (by decide) (by decide) dd_Mo_ctor_302 (fun H locs hP (hz : H.size = b0 + (26)) hS => ?_)
      rw [zx_uu (α := va_E) (a := 19)] at hP
      refine lv_iinc F.1 F.2.1 dd_Mo_ctor_303 hl (k := 0) rfl (v := nI 2) (by decide) (by decide) (lv' := [(3, .int (nI 2)), (2, .int (nI 1)), (0, .ref (b0 + 0)), (1, .int x)]) rfl (fun ls hl => ?_)
      refine lv_goto F.1 F.2.1 dd_Mo_ctor_306 (tgt := 281) rfl ?_
      refine lv_iload_n F.1 F.2.1 dd_Mo_ctor_281 rfl (lv_at hl 0 rfl) ?_
      refine lv_iconst (v := nI 4) F.1 F.2.1 dd_Mo_ctor_282 (by decide) ?_
      refine zn_cge F dd_Mo_ctor_283 (tgt := 309) rfl (by decide) (by decide) (fun h => absurd h (by decide)) (fun h => ?_)
      refine lv_aload_n F.1 F.2.1 dd_Mo_ctor_286 rfl (lv_at hl 2 rfl) ?_
      refine zw_gF (n := 26) (f := va_up (f) (19) (.inl (G.2 0, 48, .inl (upd (upd (upd (upd (upd (upd (fun _ => 0) 0 (nI 1000)) 6 (nI 1000)) 12 (nI 1000)) 18 (nI 1000)) 24 (nI 1000)) 30 (nI 1000))))) (x := 0) F hE hP (by decide) ((va_up_ne _ _ (by decide)).trans ((hf 0 (by decide)))) rfl zi_Mo 19 (by decide) rfl wf_Mo_65 rfl dd_Mo_ctor_287 ?_
      refine W.eq (g2 := F0 m 290 ls [.ref (b0 + 19)]) rfl ?_
      refine lv_bipush (v := nI 24) F.1 F.2.1 dd_Mo_ctor_290 (by decide) ?_
      refine lv_iload_n F.1 F.2.1 dd_Mo_ctor_292 rfl (lv_at hl 1 rfl) ?_
      refine zn_imul F dd_Mo_ctor_293 ?_
      refine zn_top (y := nI 24) rfl ?_
      refine lv_bipush (v := nI 6) F.1 F.2.1 dd_Mo_ctor_294 (by decide) ?_
      refine lv_iload_n F.1 F.2.1 dd_Mo_ctor_296 rfl (lv_at hl 0 rfl) ?_
      refine zn_imul F dd_Mo_ctor_297 ?_
      refine zn_top (y := nI 12) rfl ?_
      refine zn_iadd F dd_Mo_ctor_298 ?_
      refine zn_top (y := nI 36) rfl ?_
      refine lv_sipush (v := nI 1000) F.1 F.2.1 dd_Mo_ctor_299 (by decide) ?_
      refine zx_iast (k := 26) (f := va_up (f) (19) (.inl (G.2 0, 48, .inl (upd (upd (upd (upd (upd (upd (fun _ => 0) 0 (nI 1000)) 6 (nI 1000)) 12 (nI 1000)) 18 (nI 1000)) 24 (nI 1000)) 30 (nI 1000))))) (x := 19) (j := 36) F hE hP hz hS (by decide) (zx_leC (k := 0) (a := 19) (by decide)) (va_up_self _ _ _) (by decide) (by decide) dd_Mo_ctor_302 (fun H locs hP (hz : H.size = b0 + (26)) hS => ?_)
      rw [zx_uu (α := va_E) (a := 19)] at hP
      refine lv_iinc F.1 F.2.1 dd_Mo_ctor_303 hl (k := 0) rfl (v := nI 3) (by decide) (by decide) (lv' := [(3, .int (nI 3)), (2, .int (nI 1)), (0, .ref (b0 + 0)), (1, .int x)]) rfl (fun ls hl => ?_)
      refine lv_goto F.1 F.2.1 dd_Mo_ctor_306 (tgt := 281) rfl ?_
      refine lv_iload_n F.1 F.2.1 dd_Mo_ctor_281 rfl (lv_at hl 0 rfl) ?_
      refine lv_iconst (v := nI 4) F.1 F.2.1 dd_Mo_ctor_282 (by decide) ?_
      refine zn_cge F dd_Mo_ctor_283 (tgt := 309) rfl (by decide) (by decide) (fun h => absurd h (by decide)) (fun h => ?_)
      refine lv_aload_n F.1 F.2.1 dd_Mo_ctor_286 rfl (lv_at hl 2 rfl) ?_
      refine zw_gF (n := 26) (f := va_up (f) (19) (.inl (G.2 0, 48, .inl (upd (upd (upd (upd (upd (upd (upd (fun _ => 0) 0 (nI 1000)) 6 (nI 1000)) 12 (nI 1000)) 18 (nI 1000)) 24 (nI 1000)) 30 (nI 1000)) 36 (nI 1000))))) (x := 0) F hE hP (by decide) ((va_up_ne _ _ (by decide)).trans ((hf 0 (by decide)))) rfl zi_Mo 19 (by decide) rfl wf_Mo_65 rfl dd_Mo_ctor_287 ?_
      refine W.eq (g2 := F0 m 290 ls [.ref (b0 + 19)]) rfl ?_
      refine lv_bipush (v := nI 24) F.1 F.2.1 dd_Mo_ctor_290 (by decide) ?_
      refine lv_iload_n F.1 F.2.1 dd_Mo_ctor_292 rfl (lv_at hl 1 rfl) ?_
      refine zn_imul F dd_Mo_ctor_293 ?_
      refine zn_top (y := nI 24) rfl ?_
      refine lv_bipush (v := nI 6) F.1 F.2.1 dd_Mo_ctor_294 (by decide) ?_
      refine lv_iload_n F.1 F.2.1 dd_Mo_ctor_296 rfl (lv_at hl 0 rfl) ?_
      refine zn_imul F dd_Mo_ctor_297 ?_
      refine zn_top (y := nI 18) rfl ?_
      refine zn_iadd F dd_Mo_ctor_298 ?_
      refine zn_top (y := nI 42) rfl ?_
      refine lv_sipush (v := nI 1000) F.1 F.2.1 dd_Mo_ctor_299 (by decide) ?_
      refine zx_iast (k := 26) (f := va_up (f) (19) (.inl (G.2 0, 48, .inl (upd (upd (upd (upd (upd (upd (upd (fun _ => 0) 0 (nI 1000)) 6 (nI 1000)) 12 (nI 1000)) 18 (nI 1000)) 24 (nI 1000)) 30 (nI 1000)) 36 (nI 1000))))) (x := 19) (j := 42) F hE hP hz hS (by decide) (zx_leC (k := 0) (a := 19) (by decide)) (va_up_self _ _ _) (by decide) (by decide) dd_Mo_ctor_302 (fun H locs hP (hz : H.size = b0 + (26)) hS => ?_)
      rw [zx_uu (α := va_E) (a := 19)] at hP
      rw [zx_id (α := va_E) (f := f) (a := 19) (e := .inl (G.2 0, 48, .inl (upd (upd (upd (upd (upd (upd (upd (upd (fun _ => 0) 0 (nI 1000)) 6 (nI 1000)) 12 (nI 1000)) 18 (nI 1000)) 24 (nI 1000)) 30 (nI 1000)) 36 (nI 1000)) 42 (nI 1000)))) ((hf 19 (by decide)))] at hP
      refine lv_iinc F.1 F.2.1 dd_Mo_ctor_303 hl (k := 0) rfl (v := nI 4) (by decide) (by decide) (lv' := [(3, .int (nI 4)), (2, .int (nI 1)), (0, .ref (b0 + 0)), (1, .int x)]) rfl (fun ls hl => ?_)
      refine lv_goto F.1 F.2.1 dd_Mo_ctor_306 (tgt := 281) rfl ?_
      refine lv_iload_n F.1 F.2.1 dd_Mo_ctor_281 rfl (lv_at hl 0 rfl) ?_
      refine lv_iconst (v := nI 4) F.1 F.2.1 dd_Mo_ctor_282 (by decide) ?_
      refine zn_cge F dd_Mo_ctor_283 (tgt := 309) rfl (by decide) (by decide) (fun h => ?_) (fun h => absurd h (by decide))
      refine lv_iinc F.1 F.2.1 dd_Mo_ctor_309 hl (k := 1) rfl (v := nI 2) (by decide) (by decide) (lv' := [(2, .int (nI 2)), (3, .int (nI 4)), (0, .ref (b0 + 0)), (1, .int x)]) rfl (fun ls hl => ?_)
      refine lv_goto F.1 F.2.1 dd_Mo_ctor_312 (tgt := 274) rfl ?_
      refine lv_iload_n F.1 F.2.1 dd_Mo_ctor_274 rfl (lv_at hl 0 rfl) ?_
      refine lv_iconst (v := nI 2) F.1 F.2.1 dd_Mo_ctor_275 (by decide) ?_
      refine zn_cge F dd_Mo_ctor_276 (tgt := 315) rfl (by decide) (by decide) (fun h => ?_) (fun h => absurd h (by decide))
      exact zx_vret (k := 0) (n := 26) F hr hlk hP hz hS rfl (fun _ _ => rfl) dd_Mo_ctor_315
    · refine lv_iconst (v := nI 4) F.1 F.2.1 dd_Mo_ctor_264 (by decide) ?_
      refine lv_goto F.1 F.2.1 dd_Mo_ctor_265 (tgt := 269) rfl ?_
      refine zn_top (y := zs_pt x) (by rw [zs_pt, if_neg h255, if_pos (zn_nlelt h261)]) ?_
      refine zx_pF (ty := .int) (k := 26) (f := va_up (va_up (f) (0) (.inr (7, [.int 0, .ref (b0 + 1), .ref (b0 + 2), .ref (b0 + 3), .ref (b0 + 4), .ref (b0 + 5), .ref (b0 + 6), .ref (b0 + 7), .ref (b0 + 8), .ref (b0 + 9), .ref (b0 + 10), .ref (b0 + 11), .ref (b0 + 12), .ref (b0 + 13), .ref (b0 + 14), .ref (b0 + 15), .ref (b0 + 16), .ref (b0 + 17), .ref (b0 + 18), .ref (b0 + 19), .ref (b0 + 20), .ref (b0 + 21), .ref (b0 + 22), .ref (b0 + 23), .ref (b0 + 24), .ref (b0 + 25)]))) (19) (.inl (G.2 0, 48, .inl (fun _ => 0)))) (x := 0) F hE hP hz hS (fun q _ h => Or.elim h (fun z => Nat.le_trans zsz z) id) (by decide) (zx_leC (k := 0) (a := 0) (by decide)) ((va_up_ne _ _ (by decide)).trans (va_up_self _ _ _)) rfl zi_Mo zy_Mo zj_Mo zl_Mo 0 (by decide) rfl rfl hin2 rfl wf_Mo_86 (by decide +kernel) rfl rfl (Nat.le_of_ble_eq_true rfl) dd_Mo_ctor_269 (fun H locs hP (hz : H.size = b0 + (26)) hS => ?_)
      have hP : va_P G.1 zw_cl (zw_l b0 (26) (va_up (va_up (va_up (f) (0) (.inr (7, [.int 0, .ref (b0 + 1), .ref (b0 + 2), .ref (b0 + 3), .ref (b0 + 4), .ref (b0 + 5), .ref (b0 + 6), .ref (b0 + 7), .ref (b0 + 8), .ref (b0 + 9), .ref (b0 + 10), .ref (b0 + 11), .ref (b0 + 12), .ref (b0 + 13), .ref (b0 + 14), .ref (b0 + 15), .ref (b0 + 16), .ref (b0 + 17), .ref (b0 + 18), .ref (b0 + 19), .ref (b0 + 20), .ref (b0 + 21), .ref (b0 + 22), .ref (b0 + 23), .ref (b0 + 24), .ref (b0 + 25)]))) (19) (.inl (G.2 0, 48, .inl (fun _ => 0)))) (0) (.inr (7, [.int (zs_pt x), .ref (b0 + 1), .ref (b0 + 2), .ref (b0 + 3), .ref (b0 + 4), .ref (b0 + 5), .ref (b0 + 6), .ref (b0 + 7), .ref (b0 + 8), .ref (b0 + 9), .ref (b0 + 10), .ref (b0 + 11), .ref (b0 + 12), .ref (b0 + 13), .ref (b0 + 14), .ref (b0 + 15), .ref (b0 + 16), .ref (b0 + 17), .ref (b0 + 18), .ref (b0 + 19), .ref (b0 + 20), .ref (b0 + 21), .ref (b0 + 22), .ref (b0 + 23), .ref (b0 + 24), .ref (b0 + 25)])))) H := hP
      rw [zx_uc (α := va_E) (a := 0) (b := 19) (by decide)] at hP
      rw [zx_uu (α := va_E) (a := 0)] at hP
      refine W.eq (g2 := F0 m 272 ls []) rfl ?_
      rw [zx_id (α := va_E) (f := f) (a := 0) (e := .inr (7, [.int (zs_pt x), .ref (b0 + 1), .ref (b0 + 2), .ref (b0 + 3), .ref (b0 + 4), .ref (b0 + 5), .ref (b0 + 6), .ref (b0 + 7), .ref (b0 + 8), .ref (b0 + 9), .ref (b0 + 10), .ref (b0 + 11), .ref (b0 + 12), .ref (b0 + 13), .ref (b0 + 14), .ref (b0 + 15), .ref (b0 + 16), .ref (b0 + 17), .ref (b0 + 18), .ref (b0 + 19), .ref (b0 + 20), .ref (b0 + 21), .ref (b0 + 22), .ref (b0 + 23), .ref (b0 + 24), .ref (b0 + 25)])) ((hf 0 (by decide)))] at hP
      refine lv_iconst (v := nI 0) F.1 F.2.1 dd_Mo_ctor_272 (by decide) ?_
      refine lv_istore_n F.1 F.2.1 dd_Mo_ctor_273 rfl hl (by decide) (lv' := [(2, .int (nI 0)), (0, .ref (b0 + 0)), (1, .int x)]) rfl (fun ls hl => ?_)
      refine lv_iload_n F.1 F.2.1 dd_Mo_ctor_274 rfl (lv_at hl 0 rfl) ?_
      refine lv_iconst (v := nI 2) F.1 F.2.1 dd_Mo_ctor_275 (by decide) ?_
      refine zn_cge F dd_Mo_ctor_276 (tgt := 315) rfl (by decide) (by decide) (fun h => absurd h (by decide)) (fun h => ?_)
      refine lv_iconst (v := nI 0) F.1 F.2.1 dd_Mo_ctor_279 (by decide) ?_
      refine lv_istore_n F.1 F.2.1 dd_Mo_ctor_280 rfl hl (by decide) (lv' := [(3, .int (nI 0)), (2, .int (nI 0)), (0, .ref (b0 + 0)), (1, .int x)]) rfl (fun ls hl => ?_)
      refine lv_iload_n F.1 F.2.1 dd_Mo_ctor_281 rfl (lv_at hl 0 rfl) ?_
      refine lv_iconst (v := nI 4) F.1 F.2.1 dd_Mo_ctor_282 (by decide) ?_
      refine zn_cge F dd_Mo_ctor_283 (tgt := 309) rfl (by decide) (by decide) (fun h => absurd h (by decide)) (fun h => ?_)
      refine lv_aload_n F.1 F.2.1 dd_Mo_ctor_286 rfl (lv_at hl 2 rfl) ?_
      refine zw_gF (n := 26) (f := va_up (f) (19) (.inl (G.2 0, 48, .inl (fun _ => 0)))) (x := 0) F hE hP (by decide) ((va_up_ne _ _ (by decide)).trans ((hf 0 (by decide)))) rfl zi_Mo 19 (by decide) rfl wf_Mo_65 rfl dd_Mo_ctor_287 ?_
      refine W.eq (g2 := F0 m 290 ls [.ref (b0 + 19)]) rfl ?_
      refine lv_bipush (v := nI 24) F.1 F.2.1 dd_Mo_ctor_290 (by decide) ?_
      refine lv_iload_n F.1 F.2.1 dd_Mo_ctor_292 rfl (lv_at hl 1 rfl) ?_
      refine zn_imul F dd_Mo_ctor_293 ?_
      refine zn_top (y := nI 0) rfl ?_
      refine lv_bipush (v := nI 6) F.1 F.2.1 dd_Mo_ctor_294 (by decide) ?_
      refine lv_iload_n F.1 F.2.1 dd_Mo_ctor_296 rfl (lv_at hl 0 rfl) ?_
      refine zn_imul F dd_Mo_ctor_297 ?_
      refine zn_top (y := nI 0) rfl ?_
      refine zn_iadd F dd_Mo_ctor_298 ?_
      refine zn_top (y := nI 0) rfl ?_
      refine lv_sipush (v := nI 1000) F.1 F.2.1 dd_Mo_ctor_299 (by decide) ?_
      refine zx_iast (k := 26) (f := va_up (f) (19) (.inl (G.2 0, 48, .inl (fun _ => 0)))) (x := 19) (j := 0) F hE hP hz hS (by decide) (zx_leC (k := 0) (a := 19) (by decide)) (va_up_self _ _ _) (by decide) (by decide) dd_Mo_ctor_302 (fun H locs hP (hz : H.size = b0 + (26)) hS => ?_)
      rw [zx_uu (α := va_E) (a := 19)] at hP
      refine lv_iinc F.1 F.2.1 dd_Mo_ctor_303 hl (k := 0) rfl (v := nI 1) (by decide) (by decide) (lv' := [(3, .int (nI 1)), (2, .int (nI 0)), (0, .ref (b0 + 0)), (1, .int x)]) rfl (fun ls hl => ?_)
      refine lv_goto F.1 F.2.1 dd_Mo_ctor_306 (tgt := 281) rfl ?_
      refine lv_iload_n F.1 F.2.1 dd_Mo_ctor_281 rfl (lv_at hl 0 rfl) ?_
      refine lv_iconst (v := nI 4) F.1 F.2.1 dd_Mo_ctor_282 (by decide) ?_
      refine zn_cge F dd_Mo_ctor_283 (tgt := 309) rfl (by decide) (by decide) (fun h => absurd h (by decide)) (fun h => ?_)
      refine lv_aload_n F.1 F.2.1 dd_Mo_ctor_286 rfl (lv_at hl 2 rfl) ?_
      refine zw_gF (n := 26) (f := va_up (f) (19) (.inl (G.2 0, 48, .inl (upd (fun _ => 0) 0 (nI 1000))))) (x := 0) F hE hP (by decide) ((va_up_ne _ _ (by decide)).trans ((hf 0 (by decide)))) rfl zi_Mo 19 (by decide) rfl wf_Mo_65 rfl dd_Mo_ctor_287 ?_
      refine W.eq (g2 := F0 m 290 ls [.ref (b0 + 19)]) rfl ?_
      refine lv_bipush (v := nI 24) F.1 F.2.1 dd_Mo_ctor_290 (by decide) ?_
      refine lv_iload_n F.1 F.2.1 dd_Mo_ctor_292 rfl (lv_at hl 1 rfl) ?_
      refine zn_imul F dd_Mo_ctor_293 ?_
      refine zn_top (y := nI 0) rfl ?_
      refine lv_bipush (v := nI 6) F.1 F.2.1 dd_Mo_ctor_294 (by decide) ?_
      refine lv_iload_n F.1 F.2.1 dd_Mo_ctor_296 rfl (lv_at hl 0 rfl) ?_
      refine zn_imul F dd_Mo_ctor_297 ?_
      refine zn_top (y := nI 6) rfl ?_
      refine zn_iadd F dd_Mo_ctor_298 ?_
      refine zn_top (y := nI 6) rfl ?_
      refine lv_sipush (v := nI 1000) F.1 F.2.1 dd_Mo_ctor_299 (by decide) ?_
      refine zx_iast (k := 26) (f := va_up (f) (19) (.inl (G.2 0, 48, .inl (upd (fun _ => 0) 0 (nI 1000))))) (x := 19) (j := 6) F hE hP hz hS (by decide) (zx_leC (k := 0) (a := 19) (by decide)) (va_up_self _ _ _) (by decide) (by decide) dd_Mo_ctor_302 (fun H locs hP (hz : H.size = b0 + (26)) hS => ?_)
      rw [zx_uu (α := va_E) (a := 19)] at hP
      refine lv_iinc F.1 F.2.1 dd_Mo_ctor_303 hl (k := 0) rfl (v := nI 2) (by decide) (by decide) (lv' := [(3, .int (nI 2)), (2, .int (nI 0)), (0, .ref (b0 + 0)), (1, .int x)]) rfl (fun ls hl => ?_)
      refine lv_goto F.1 F.2.1 dd_Mo_ctor_306 (tgt := 281) rfl ?_
      refine lv_iload_n F.1 F.2.1 dd_Mo_ctor_281 rfl (lv_at hl 0 rfl) ?_
      refine lv_iconst (v := nI 4) F.1 F.2.1 dd_Mo_ctor_282 (by decide) ?_
      refine zn_cge F dd_Mo_ctor_283 (tgt := 309) rfl (by decide) (by decide) (fun h => absurd h (by decide)) (fun h => ?_)
      refine lv_aload_n F.1 F.2.1 dd_Mo_ctor_286 rfl (lv_at hl 2 rfl) ?_
      refine zw_gF (n := 26) (f := va_up (f) (19) (.inl (G.2 0, 48, .inl (upd (upd (fun _ => 0) 0 (nI 1000)) 6 (nI 1000))))) (x := 0) F hE hP (by decide) ((va_up_ne _ _ (by decide)).trans ((hf 0 (by decide)))) rfl zi_Mo 19 (by decide) rfl wf_Mo_65 rfl dd_Mo_ctor_287 ?_
      refine W.eq (g2 := F0 m 290 ls [.ref (b0 + 19)]) rfl ?_
      refine lv_bipush (v := nI 24) F.1 F.2.1 dd_Mo_ctor_290 (by decide) ?_
      refine lv_iload_n F.1 F.2.1 dd_Mo_ctor_292 rfl (lv_at hl 1 rfl) ?_
      refine zn_imul F dd_Mo_ctor_293 ?_
      refine zn_top (y := nI 0) rfl ?_
      refine lv_bipush (v := nI 6) F.1 F.2.1 dd_Mo_ctor_294 (by decide) ?_
      refine lv_iload_n F.1 F.2.1 dd_Mo_ctor_296 rfl (lv_at hl 0 rfl) ?_
      refine zn_imul F dd_Mo_ctor_297 ?_
      refine zn_top (y := nI 12) rfl ?_
      refine zn_iadd F dd_Mo_ctor_298 ?_
      refine zn_top (y := nI 12) rfl ?_
      refine lv_sipush (v := nI 1000) F.1 F.2.1 dd_Mo_ctor_299 (by decide) ?_
      refine zx_iast (k := 26) (f := va_up (f) (19) (.inl (G.2 0, 48, .inl (upd (upd (fun _ => 0) 0 (nI 1000)) 6 (nI 1000))))) (x := 19) (j := 12) F hE hP hz hS (by decide) (zx_leC (k := 0) (a := 19) (by decide)) (va_up_self _ _ _) (by decide) (by decide) dd_Mo_ctor_302 (fun H locs hP (hz : H.size = b0 + (26)) hS => ?_)
      rw [zx_uu (α := va_E) (a := 19)] at hP
      refine lv_iinc F.1 F.2.1 dd_Mo_ctor_303 hl (k := 0) rfl (v := nI 3) (by decide) (by decide) (lv' := [(3, .int (nI 3)), (2, .int (nI 0)), (0, .ref (b0 + 0)), (1, .int x)]) rfl (fun ls hl => ?_)
      refine lv_goto F.1 F.2.1 dd_Mo_ctor_306 (tgt := 281) rfl ?_
      refine lv_iload_n F.1 F.2.1 dd_Mo_ctor_281 rfl (lv_at hl 0 rfl) ?_
      refine lv_iconst (v := nI 4) F.1 F.2.1 dd_Mo_ctor_282 (by decide) ?_
      refine zn_cge F dd_Mo_ctor_283 (tgt := 309) rfl (by decide) (by decide) (fun h => absurd h (by decide)) (fun h => ?_)
      refine lv_aload_n F.1 F.2.1 dd_Mo_ctor_286 rfl (lv_at hl 2 rfl) ?_
      refine zw_gF (n := 26) (f := va_up (f) (19) (.inl (G.2 0, 48, .inl (upd (upd (upd (fun _ => 0) 0 (nI 1000)) 6 (nI 1000)) 12 (nI 1000))))) (x := 0) F hE hP (by decide) ((va_up_ne _ _ (by decide)).trans ((hf 0 (by decide)))) rfl zi_Mo 19 (by decide) rfl wf_Mo_65 rfl dd_Mo_ctor_287 ?_
      refine W.eq (g2 := F0 m 290 ls [.ref (b0 + 19)]) rfl ?_
      refine lv_bipush (v := nI 24) F.1 F.2.1 dd_Mo_ctor_290 (by decide) ?_
      refine lv_iload_n F.1 F.2.1 dd_Mo_ctor_292 rfl (lv_at hl 1 rfl) ?_
      refine zn_imul F dd_Mo_ctor_293 ?_
      refine zn_top (y := nI 0) rfl ?_
      refine lv_bipush (v := nI 6) F.1 F.2.1 dd_Mo_ctor_294 (by decide) ?_
      refine lv_iload_n F.1 F.2.1 dd_Mo_ctor_296 rfl (lv_at hl 0 rfl) ?_
      refine zn_imul F dd_Mo_ctor_297 ?_
      refine zn_top (y := nI 18) rfl ?_
      refine zn_iadd F dd_Mo_ctor_298 ?_
      refine zn_top (y := nI 18) rfl ?_
      refine lv_sipush (v := nI 1000) F.1 F.2.1 dd_Mo_ctor_299 (by decide) ?_
      refine zx_iast (k := 26) (f := va_up (f) (19) (.inl (G.2 0, 48, .inl (upd (upd (upd (fun _ => 0) 0 (nI 1000)) 6 (nI 1000)) 12 (nI 1000))))) (x := 19) (j := 18) F hE hP hz hS (by decide) (zx_leC (k := 0) (a := 19) (by decide)) (va_up_self _ _ _) (by decide) (by decide) dd_Mo_ctor_302 (fun H locs hP (hz : H.size = b0 + (26)) hS => ?_)
      rw [zx_uu (α := va_E) (a := 19)] at hP
      refine lv_iinc F.1 F.2.1 dd_Mo_ctor_303 hl (k := 0) rfl (v := nI 4) (by decide) (by decide) (lv' := [(3, .int (nI 4)), (2, .int (nI 0)), (0, .ref (b0 + 0)), (1, .int x)]) rfl (fun ls hl => ?_)
      refine lv_goto F.1 F.2.1 dd_Mo_ctor_306 (tgt := 281) rfl ?_
      refine lv_iload_n F.1 F.2.1 dd_Mo_ctor_281 rfl (lv_at hl 0 rfl) ?_
      refine lv_iconst (v := nI 4) F.1 F.2.1 dd_Mo_ctor_282 (by decide) ?_
      refine zn_cge F dd_Mo_ctor_283 (tgt := 309) rfl (by decide) (by decide) (fun h => ?_) (fun h => absurd h (by decide))
      refine lv_iinc F.1 F.2.1 dd_Mo_ctor_309 hl (k := 1) rfl (v := nI 1) (by decide) (by decide) (lv' := [(2, .int (nI 1)), (3, .int (nI 4)), (0, .ref (b0 + 0)), (1, .int x)]) rfl (fun ls hl => ?_)
      refine lv_goto F.1 F.2.1 dd_Mo_ctor_312 (tgt := 274) rfl ?_
      refine lv_iload_n F.1 F.2.1 dd_Mo_ctor_274 rfl (lv_at hl 0 rfl) ?_
      refine lv_iconst (v := nI 2) F.1 F.2.1 dd_Mo_ctor_275 (by decide) ?_
      refine zn_cge F dd_Mo_ctor_276 (tgt := 315) rfl (by decide) (by decide) (fun h => absurd h (by decide)) (fun h => ?_)
      refine lv_iconst (v := nI 0) F.1 F.2.1 dd_Mo_ctor_279 (by decide) ?_
      refine lv_istore_n F.1 F.2.1 dd_Mo_ctor_280 rfl hl (by decide) (lv' := [(3, .int (nI 0)), (2, .int (nI 1)), (0, .ref (b0 + 0)), (1, .int x)]) rfl (fun ls hl => ?_)
      refine lv_iload_n F.1 F.2.1 dd_Mo_ctor_281 rfl (lv_at hl 0 rfl) ?_
      refine lv_iconst (v := nI 4) F.1 F.2.1 dd_Mo_ctor_282 (by decide) ?_
      refine zn_cge F dd_Mo_ctor_283 (tgt := 309) rfl (by decide) (by decide) (fun h => absurd h (by decide)) (fun h => ?_)
      refine lv_aload_n F.1 F.2.1 dd_Mo_ctor_286 rfl (lv_at hl 2 rfl) ?_
      refine zw_gF (n := 26) (f := va_up (f) (19) (.inl (G.2 0, 48, .inl (upd (upd (upd (upd (fun _ => 0) 0 (nI 1000)) 6 (nI 1000)) 12 (nI 1000)) 18 (nI 1000))))) (x := 0) F hE hP (by decide) ((va_up_ne _ _ (by decide)).trans ((hf 0 (by decide)))) rfl zi_Mo 19 (by decide) rfl wf_Mo_65 rfl dd_Mo_ctor_287 ?_
      refine W.eq (g2 := F0 m 290 ls [.ref (b0 + 19)]) rfl ?_
      refine lv_bipush (v := nI 24) F.1 F.2.1 dd_Mo_ctor_290 (by decide) ?_
      refine lv_iload_n F.1 F.2.1 dd_Mo_ctor_292 rfl (lv_at hl 1 rfl) ?_
      refine zn_imul F dd_Mo_ctor_293 ?_
      refine zn_top (y := nI 24) rfl ?_
      refine lv_bipush (v := nI 6) F.1 F.2.1 dd_Mo_ctor_294 (by decide) ?_
      refine lv_iload_n F.1 F.2.1 dd_Mo_ctor_296 rfl (lv_at hl 0 rfl) ?_
      refine zn_imul F dd_Mo_ctor_297 ?_
      refine zn_top (y := nI 0) rfl ?_
      refine zn_iadd F dd_Mo_ctor_298 ?_
      refine zn_top (y := nI 24) rfl ?_
      refine lv_sipush (v := nI 1000) F.1 F.2.1 dd_Mo_ctor_299 (by decide) ?_
      refine zx_iast (k := 26) (f := va_up (f) (19) (.inl (G.2 0, 48, .inl (upd (upd (upd (upd (fun _ => 0) 0 (nI 1000)) 6 (nI 1000)) 12 (nI 1000)) 18 (nI 1000))))) (x := 19) (j := 24) F hE hP hz hS (by decide) (zx_leC (k := 0) (a := 19) (by decide)) (va_up_self _ _ _) (by decide) (by decide) dd_Mo_ctor_302 (fun H locs hP (hz : H.size = b0 + (26)) hS => ?_)
      rw [zx_uu (α := va_E) (a := 19)] at hP
      refine lv_iinc F.1 F.2.1 dd_Mo_ctor_303 hl (k := 0) rfl (v := nI 1) (by decide) (by decide) (lv' := [(3, .int (nI 1)), (2, .int (nI 1)), (0, .ref (b0 + 0)), (1, .int x)]) rfl (fun ls hl => ?_)
      refine lv_goto F.1 F.2.1 dd_Mo_ctor_306 (tgt := 281) rfl ?_
      refine lv_iload_n F.1 F.2.1 dd_Mo_ctor_281 rfl (lv_at hl 0 rfl) ?_
      refine lv_iconst (v := nI 4) F.1 F.2.1 dd_Mo_ctor_282 (by decide) ?_
      refine zn_cge F dd_Mo_ctor_283 (tgt := 309) rfl (by decide) (by decide) (fun h => absurd h (by decide)) (fun h => ?_)
      refine lv_aload_n F.1 F.2.1 dd_Mo_ctor_286 rfl (lv_at hl 2 rfl) ?_
      refine zw_gF (n := 26) (f := va_up (f) (19) (.inl (G.2 0, 48, .inl (upd (upd (upd (upd (upd (fun _ => 0) 0 (nI 1000)) 6 (nI 1000)) 12 (nI 1000)) 18 (nI 1000)) 24 (nI 1000))))) (x := 0) F hE hP (by decide) ((va_up_ne _ _ (by decide)).trans ((hf 0 (by decide)))) rfl zi_Mo 19 (by decide) rfl wf_Mo_65 rfl dd_Mo_ctor_287 ?_
      refine W.eq (g2 := F0 m 290 ls [.ref (b0 + 19)]) rfl ?_
      refine lv_bipush (v := nI 24) F.1 F.2.1 dd_Mo_ctor_290 (by decide) ?_
      refine lv_iload_n F.1 F.2.1 dd_Mo_ctor_292 rfl (lv_at hl 1 rfl) ?_
      refine zn_imul F dd_Mo_ctor_293 ?_
      refine zn_top (y := nI 24) rfl ?_
      refine lv_bipush (v := nI 6) F.1 F.2.1 dd_Mo_ctor_294 (by decide) ?_
      refine lv_iload_n F.1 F.2.1 dd_Mo_ctor_296 rfl (lv_at hl 0 rfl) ?_
      refine zn_imul F dd_Mo_ctor_297 ?_
      refine zn_top (y := nI 6) rfl ?_
      refine zn_iadd F dd_Mo_ctor_298 ?_
      refine zn_top (y := nI 30) rfl ?_
      refine lv_sipush (v := nI 1000) F.1 F.2.1 dd_Mo_ctor_299 (by decide) ?_
      refine zx_iast (k := 26) (f := va_up (f) (19) (.inl (G.2 0, 48, .inl (upd (upd (upd (upd (upd (fun _ => 0) 0 (nI 1000)) 6 (nI 1000)) 12 (nI 1000)) 18 (nI 1000)) 24 (nI 1000))))) (x := 19) (j := 30) F hE hP hz hS (by decide) (zx_leC (k := 0) (a := 19) (by decide)) (va_up_self _ _ _) (by decide) (by decide) dd_Mo_ctor_302 (fun H locs hP (hz : H.size = b0 + (26)) hS => ?_)
      rw [zx_uu (α := va_E) (a := 19)] at hP
      refine lv_iinc F.1 F.2.1 dd_Mo_ctor_303 hl (k := 0) rfl (v := nI 2) (by decide) (by decide) (lv' := [(3, .int (nI 2)), (2, .int (nI 1)), (0, .ref (b0 + 0)), (1, .int x)]) rfl (fun ls hl => ?_)
      refine lv_goto F.1 F.2.1 dd_Mo_ctor_306 (tgt := 281) rfl ?_
      refine lv_iload_n F.1 F.2.1 dd_Mo_ctor_281 rfl (lv_at hl 0 rfl) ?_
      refine lv_iconst (v := nI 4) F.1 F.2.1 dd_Mo_ctor_282 (by decide) ?_
      refine zn_cge F dd_Mo_ctor_283 (tgt := 309) rfl (by decide) (by decide) (fun h => absurd h (by decide)) (fun h => ?_)
      refine lv_aload_n F.1 F.2.1 dd_Mo_ctor_286 rfl (lv_at hl 2 rfl) ?_
      refine zw_gF (n := 26) (f := va_up (f) (19) (.inl (G.2 0, 48, .inl (upd (upd (upd (upd (upd (upd (fun _ => 0) 0 (nI 1000)) 6 (nI 1000)) 12 (nI 1000)) 18 (nI 1000)) 24 (nI 1000)) 30 (nI 1000))))) (x := 0) F hE hP (by decide) ((va_up_ne _ _ (by decide)).trans ((hf 0 (by decide)))) rfl zi_Mo 19 (by decide) rfl wf_Mo_65 rfl dd_Mo_ctor_287 ?_
      refine W.eq (g2 := F0 m 290 ls [.ref (b0 + 19)]) rfl ?_
      refine lv_bipush (v := nI 24) F.1 F.2.1 dd_Mo_ctor_290 (by decide) ?_
      refine lv_iload_n F.1 F.2.1 dd_Mo_ctor_292 rfl (lv_at hl 1 rfl) ?_
      refine zn_imul F dd_Mo_ctor_293 ?_
      refine zn_top (y := nI 24) rfl ?_
      refine lv_bipush (v := nI 6) F.1 F.2.1 dd_Mo_ctor_294 (by decide) ?_
      refine lv_iload_n F.1 F.2.1 dd_Mo_ctor_296 rfl (lv_at hl 0 rfl) ?_
      refine zn_imul F dd_Mo_ctor_297 ?_
      refine zn_top (y := nI 12) rfl ?_
      refine zn_iadd F dd_Mo_ctor_298 ?_
      refine zn_top (y := nI 36) rfl ?_
      refine lv_sipush (v := nI 1000) F.1 F.2.1 dd_Mo_ctor_299 (by decide) ?_
      refine zx_iast (k := 26) (f := va_up (f) (19) (.inl (G.2 0, 48, .inl (upd (upd (upd (upd (upd (upd (fun _ => 0) 0 (nI 1000)) 6 (nI 1000)) 12 (nI 1000)) 18 (nI 1000)) 24 (nI 1000)) 30 (nI 1000))))) (x := 19) (j := 36) F hE hP hz hS (by decide) (zx_leC (k := 0) (a := 19) (by decide)) (va_up_self _ _ _) (by decide) (by decide) dd_Mo_ctor_302 (fun H locs hP (hz : H.size = b0 + (26)) hS => ?_)
      rw [zx_uu (α := va_E) (a := 19)] at hP
      refine lv_iinc F.1 F.2.1 dd_Mo_ctor_303 hl (k := 0) rfl (v := nI 3) (by decide) (by decide) (lv' := [(3, .int (nI 3)), (2, .int (nI 1)), (0, .ref (b0 + 0)), (1, .int x)]) rfl (fun ls hl => ?_)
      refine lv_goto F.1 F.2.1 dd_Mo_ctor_306 (tgt := 281) rfl ?_
      refine lv_iload_n F.1 F.2.1 dd_Mo_ctor_281 rfl (lv_at hl 0 rfl) ?_
      refine lv_iconst (v := nI 4) F.1 F.2.1 dd_Mo_ctor_282 (by decide) ?_
      refine zn_cge F dd_Mo_ctor_283 (tgt := 309) rfl (by decide) (by decide) (fun h => absurd h (by decide)) (fun h => ?_)
      refine lv_aload_n F.1 F.2.1 dd_Mo_ctor_286 rfl (lv_at hl 2 rfl) ?_
      refine zw_gF (n := 26) (f := va_up (f) (19) (.inl (G.2 0, 48, .inl (upd (upd (upd (upd (upd (upd (upd (fun _ => 0) 0 (nI 1000)) 6 (nI 1000)) 12 (nI 1000)) 18 (nI 1000)) 24 (nI 1000)) 30 (nI 1000)) 36 (nI 1000))))) (x := 0) F hE hP (by decide) ((va_up_ne _ _ (by decide)).trans ((hf 0 (by decide)))) rfl zi_Mo 19 (by decide) rfl wf_Mo_65 rfl dd_Mo_ctor_287 ?_
      refine W.eq (g2 := F0 m 290 ls [.ref (b0 + 19)]) rfl ?_
      refine lv_bipush (v := nI 24) F.1 F.2.1 dd_Mo_ctor_290 (by decide) ?_
      refine lv_iload_n F.1 F.2.1 dd_Mo_ctor_292 rfl (lv_at hl 1 rfl) ?_
      refine zn_imul F dd_Mo_ctor_293 ?_
      refine zn_top (y := nI 24) rfl ?_
      refine lv_bipush (v := nI 6) F.1 F.2.1 dd_Mo_ctor_294 (by decide) ?_
      refine lv_iload_n F.1 F.2.1 dd_Mo_ctor_296 rfl (lv_at hl 0 rfl) ?_
      refine zn_imul F dd_Mo_ctor_297 ?_
      refine zn_top (y := nI 18) rfl ?_
      refine zn_iadd F dd_Mo_ctor_298 ?_
      refine zn_top (y := nI 42) rfl ?_
      refine lv_sipush (v := nI 1000) F.1 F.2.1 dd_Mo_ctor_299 (by decide) ?_
      refine zx_iast (k := 26) (f := va_up (f) (19) (.inl (G.2 0, 48, .inl (upd (upd (upd (upd (upd (upd (upd (fun _ => 0) 0 (nI 1000)) 6 (nI 1000)) 12 (nI 1000)) 18 (nI 1000)) 24 (nI 1000)) 30 (nI 1000)) 36 (nI 1000))))) (x := 19) (j := 42) F hE hP hz hS (by decide) (zx_leC (k := 0) (a := 19) (by decide)) (va_up_self _ _ _) (by decide) (by decide) dd_Mo_ctor_302 (fun H locs hP (hz : H.size = b0 + (26)) hS => ?_)
      rw [zx_uu (α := va_E) (a := 19)] at hP
      rw [zx_id (α := va_E) (f := f) (a := 19) (e := .inl (G.2 0, 48, .inl (upd (upd (upd (upd (upd (upd (upd (upd (fun _ => 0) 0 (nI 1000)) 6 (nI 1000)) 12 (nI 1000)) 18 (nI 1000)) 24 (nI 1000)) 30 (nI 1000)) 36 (nI 1000)) 42 (nI 1000)))) ((hf 19 (by decide)))] at hP
      refine lv_iinc F.1 F.2.1 dd_Mo_ctor_303 hl (k := 0) rfl (v := nI 4) (by decide) (by decide) (lv' := [(3, .int (nI 4)), (2, .int (nI 1)), (0, .ref (b0 + 0)), (1, .int x)]) rfl (fun ls hl => ?_)
      refine lv_goto F.1 F.2.1 dd_Mo_ctor_306 (tgt := 281) rfl ?_
      refine lv_iload_n F.1 F.2.1 dd_Mo_ctor_281 rfl (lv_at hl 0 rfl) ?_
      refine lv_iconst (v := nI 4) F.1 F.2.1 dd_Mo_ctor_282 (by decide) ?_
      refine zn_cge F dd_Mo_ctor_283 (tgt := 309) rfl (by decide) (by decide) (fun h => ?_) (fun h => absurd h (by decide))
      refine lv_iinc F.1 F.2.1 dd_Mo_ctor_309 hl (k := 1) rfl (v := nI 2) (by decide) (by decide) (lv' := [(2, .int (nI 2)), (3, .int (nI 4)), (0, .ref (b0 + 0)), (1, .int x)]) rfl (fun ls hl => ?_)
      refine lv_goto F.1 F.2.1 dd_Mo_ctor_312 (tgt := 274) rfl ?_
      refine lv_iload_n F.1 F.2.1 dd_Mo_ctor_274 rfl (lv_at hl 0 rfl) ?_
      refine lv_iconst (v := nI 2) F.1 F.2.1 dd_Mo_ctor_275 (by decide) ?_
      refine zn_cge F dd_Mo_ctor_276 (tgt := 315) rfl (by decide) (by decide) (fun h => ?_) (fun h => absurd h (by decide))
      exact zx_vret (k := 0) (n := 26) F hr hlk hP hz hS rfl (fun _ _ => rfl) dd_Mo_ctor_315
