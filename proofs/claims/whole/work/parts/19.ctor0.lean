theorem zx_fs_TL : ∀ j, j < 2 → defaultValue (zy_TL j) = vp_V [.int 0, .null] j := fun j hj => by
  match j, hj with
  | 0, _ => rfl
  | 1, _ => rfl
  | n + 2, h => exact absurd h (by omega)
theorem zx_fs_Ledger : ∀ j, j < 7 → defaultValue (zy_Ledger j) = vp_V [.null, .null, .null, .null, .null, .null, .int 0] j := fun j hj => by
  match j, hj with
  | 0, _ => rfl
  | 1, _ => rfl
  | 2, _ => rfl
  | 3, _ => rfl
  | 4, _ => rfl
  | 5, _ => rfl
  | 6, _ => rfl
  | n + 7, h => exact absurd h (by omega)
theorem zx_fs_Store : ∀ j, j < 2 → defaultValue (zy_Store j) = vp_V [.null, .null] j := fun j hj => by
  match j, hj with
  | 0, _ => rfl
  | 1, _ => rfl
  | n + 2, h => exact absurd h (by omega)
theorem zx_fs_Client : ∀ j, j < 2 → defaultValue (zy_Client j) = vp_V [.null, .int 0] j := fun j hj => by
  match j, hj with
  | 0, _ => rfl
  | 1, _ => rfl
  | n + 2, h => exact absurd h (by omega)
theorem zx_fs_Bank : ∀ j, j < 5 → defaultValue (zy_Bank j) = vp_V [.null, .null, .null, .null, .int 0] j := fun j hj => by
  match j, hj with
  | 0, _ => rfl
  | 1, _ => rfl
  | 2, _ => rfl
  | 3, _ => rfl
  | 4, _ => rfl
  | n + 5, h => exact absurd h (by omega)
theorem zx_fs_End : ∀ j, j < 3 → defaultValue (zy_End j) = vp_V [.null, .int 0, .int 0] j := fun j hj => by
  match j, hj with
  | 0, _ => rfl
  | 1, _ => rfl
  | 2, _ => rfl
  | n + 3, h => exact absurd h (by omega)
theorem zx_fs_Packet : ∀ j, j < 7 → defaultValue (zy_Packet j) = vp_V [.int 0, .int 0, .int 0, .int 0, .int 0, .int 0, .int 0] j := fun j hj => by
  match j, hj with
  | 0, _ => rfl
  | 1, _ => rfl
  | 2, _ => rfl
  | 3, _ => rfl
  | 4, _ => rfl
  | 5, _ => rfl
  | 6, _ => rfl
  | n + 7, h => exact absurd h (by omega)
theorem zx_fs_Mo : ∀ j, j < 26 → defaultValue (zy_Mo j) = vp_V [.int 0, .null, .null, .null, .null, .null, .null, .null, .null, .null, .null, .null, .null, .null, .null, .null, .null, .null, .null, .null, .null, .null, .null, .null, .null, .null] j := fun j hj => by
  match j, hj with
  | 0, _ => rfl
  | 1, _ => rfl
  | 2, _ => rfl
  | 3, _ => rfl
  | 4, _ => rfl
  | 5, _ => rfl
  | 6, _ => rfl
  | 7, _ => rfl
  | 8, _ => rfl
  | 9, _ => rfl
  | 10, _ => rfl
  | 11, _ => rfl
  | 12, _ => rfl
  | 13, _ => rfl
  | 14, _ => rfl
  | 15, _ => rfl
  | 16, _ => rfl
  | 17, _ => rfl
  | 18, _ => rfl
  | 19, _ => rfl
  | 20, _ => rfl
  | 21, _ => rfl
  | 22, _ => rfl
  | 23, _ => rfl
  | 24, _ => rfl
  | 25, _ => rfl
  | n + 26, h => exact absurd h (by omega)
set_option maxHeartbeats 4000000 in
set_option maxRecDepth 100000 in
theorem zc_Packet_ctor (lc : Launch) (G : zw_G) (b0 : Nat) (k : Nat) (f : Nat → va_E) (h0 : f k = .inr (6, [.int 0, .int 0, .int 0, .int 0, .int 0, .int 0, .int 0])) : zx_M lc ym_Packet_ctor bm_Packet_ctor 1 { frames := 1, cells := 0, slots := 0, locals := 24 } G b0 (k) 1 (.inr (6, [.int 0, .int 0, .int 0, .int 0, .int 0, .int 0, .int 0])) f [.ref (b0 + k)] 0 0 := by
  refine zx_of (by decide) (Nat.le_of_ble_eq_true rfl) rfl ?_
  intro p e s m below meth cx ls F hr hlk hin2 hE hO hP hz hS hl
  have zsz : b0 + (k) ≤ s.heap.size := by rw [hz]; exact (zx_leK (k := k) (a := 1))
  have hl : lv_has ls 1 [(0, .ref (b0 + k))] := hl
  refine lv_aload_n F.1 F.2.1 dd_Packet_ctor_0 rfl (lv_at hl 0 rfl) ?_
  refine W.objInit F.1 F.2.1 F.2.2.2.1 (F.2.2.2.2 _ wl_Packet_3) (F.2.2.2.2 _ wx_objI) (F.2.2.2.2 _ wx_objC) rfl (by rw [F.2.2.1]; exact hl.1) rfl dd_Packet_ctor_1 (Nat.le_of_ble_eq_true rfl) (Nat.le_of_ble_eq_true rfl) ?_
  refine W.eq (g2 := F0 m 4 ls []) rfl ?_
  rw [zx_id (α := va_E) (f := f) (a := k) (e := .inr (6, [.int 0, .int 0, .int 0, .int 0, .int 0, .int 0, .int 0])) (h0)] at hP
  exact zx_vret (k := k) (n := 1) F hr hlk hP hz hS rfl (fun _ _ => rfl) dd_Packet_ctor_4
set_option maxHeartbeats 4000000 in
set_option maxRecDepth 100000 in
theorem zc_Store_ctor (lc : Launch) (G : zw_G) (b0 : Nat) (k : Nat) (f : Nat → va_E) (h0 : f k = .inr (2, [.ref (b0 + (k + 1)), .ref (b0 + (k + 2))])) (h1 : f (k + 1) = .inl (G.2 0, 114, .inl (fun _ => 0))) (h2 : f (k + 2) = .inl (G.2 1, 114, .inl (fun _ => 0))) : zx_M lc ym_Store_ctor bm_Store_ctor 1 { frames := 1, cells := 2, slots := 228, locals := 24 } G b0 (k) 3 (.inr (2, [.null, .null])) f [.ref (b0 + k)] 2 228 := by
  refine zx_of (by decide) (Nat.le_of_ble_eq_true rfl) rfl ?_
  intro p e s m below meth cx ls F hr hlk hin2 hE hO hP hz hS hl
  have zsz : b0 + (k) ≤ s.heap.size := by rw [hz]; exact (zx_leK (k := k) (a := 1))
  have hl : lv_has ls 1 [(0, .ref (b0 + k))] := hl
  refine lv_aload_n F.1 F.2.1 dd_Store_ctor_0 rfl (lv_at hl 0 rfl) ?_
  refine W.objInit F.1 F.2.1 F.2.2.2.1 (F.2.2.2.2 _ wl_Store_5) (F.2.2.2.2 _ wx_objI) (F.2.2.2.2 _ wx_objC) rfl (by rw [F.2.2.1]; exact hl.1) rfl dd_Store_ctor_1 (Nat.le_of_ble_eq_true rfl) (Nat.le_of_ble_eq_true rfl) ?_
  refine W.eq (g2 := F0 m 4 ls []) rfl ?_
  refine lv_aload_n F.1 F.2.1 dd_Store_ctor_4 rfl (lv_at hl 0 rfl) ?_
  refine lv_bipush (v := nI 114) F.1 F.2.1 dd_Store_ctor_5 (by decide) ?_
  refine zx_newi (k := k + 1) (f := va_up (f) (k) (.inr (2, [.null, .null]))) F hE hP hz hS wx_arrI (by decide) (N := 114) (by decide) (by decide) (Nat.le_of_ble_eq_true rfl) (Nat.le_of_ble_eq_true rfl) dd_Store_ctor_7 (cells' := 1) (slots' := 114) rfl rfl (fun H (hP : va_P G.1 zw_cl (zw_l b0 (k + 2) (va_up (va_up (f) (k) (.inr (2, [.null, .null]))) (k + 1) (.inl (G.2 0, 114, .inl (fun _ => 0))))) H) (hz : H.size = b0 + (k + 2)) hS => ?_)
  rw [zx_id (α := va_E) (f := va_up (f) (k) (.inr (2, [.null, .null]))) (a := k + 1) (e := .inl (G.2 0, 114, .inl (fun _ => 0))) ((va_up_ne _ _ (zx_neR (b := 1) (by decide))).trans (h1))] at hP
  refine zx_pF (ty := .array .int) (k := k + 2) (f := va_up (f) (k) (.inr (2, [.null, .null]))) (x := k) F hE hP hz hS (fun q _ h => Or.elim h (fun z => Nat.le_trans zsz z) id) (zx_lt0 (b := 2) (by decide)) (Nat.le_refl _) (va_up_self _ _ _) rfl zi_Store zy_Store zj_Store zl_Store 0 (by decide) rfl rfl hin2 rfl wf_Store_11 (by decide +kernel) rfl rfl (Nat.le_of_ble_eq_true rfl) dd_Store_ctor_9 (fun H locs hP (hz : H.size = b0 + (k + 2)) hS => ?_)
  have hP : va_P G.1 zw_cl (zw_l b0 (k + 2) (va_up (va_up (f) (k) (.inr (2, [.null, .null]))) (k) (.inr (2, [.ref (b0 + (k + 1)), .null])))) H := hP
  rw [zx_uu (α := va_E) (a := k)] at hP
  refine W.eq (g2 := F0 m 12 ls []) rfl ?_
  refine lv_aload_n F.1 F.2.1 dd_Store_ctor_12 rfl (lv_at hl 0 rfl) ?_
  refine lv_bipush (v := nI 114) F.1 F.2.1 dd_Store_ctor_13 (by decide) ?_
  refine zx_newz (k := k + 2) (f := va_up (f) (k) (.inr (2, [.ref (b0 + (k + 1)), .null]))) F hE hP hz hS wx_arrZ (by decide) (N := 114) (by decide) (by decide) (Nat.le_of_ble_eq_true rfl) (Nat.le_of_ble_eq_true rfl) dd_Store_ctor_15 (cells' := 2) (slots' := 228) rfl rfl (fun H (hP : va_P G.1 zw_cl (zw_l b0 (k + 3) (va_up (va_up (f) (k) (.inr (2, [.ref (b0 + (k + 1)), .null]))) (k + 2) (.inl (G.2 1, 114, .inl (fun _ => 0))))) H) (hz : H.size = b0 + (k + 3)) hS => ?_)
  rw [zx_id (α := va_E) (f := va_up (f) (k) (.inr (2, [.ref (b0 + (k + 1)), .null]))) (a := k + 2) (e := .inl (G.2 1, 114, .inl (fun _ => 0))) ((va_up_ne _ _ (zx_neR (b := 2) (by decide))).trans (h2))] at hP
  refine zx_pF (ty := .array .boolean) (k := k + 3) (f := va_up (f) (k) (.inr (2, [.ref (b0 + (k + 1)), .null]))) (x := k) F hE hP hz hS (fun q _ h => Or.elim h (fun z => Nat.le_trans zsz z) id) (zx_lt0 (b := 3) (by decide)) (Nat.le_refl _) (va_up_self _ _ _) rfl zi_Store zy_Store zj_Store zl_Store 1 (by decide) rfl rfl hin2 rfl wf_Store_15 (by decide +kernel) rfl rfl (Nat.le_of_ble_eq_true rfl) dd_Store_ctor_17 (fun H locs hP (hz : H.size = b0 + (k + 3)) hS => ?_)
  have hP : va_P G.1 zw_cl (zw_l b0 (k + 3) (va_up (va_up (f) (k) (.inr (2, [.ref (b0 + (k + 1)), .null]))) (k) (.inr (2, [.ref (b0 + (k + 1)), .ref (b0 + (k + 2))])))) H := hP
  rw [zx_uu (α := va_E) (a := k)] at hP
  refine W.eq (g2 := F0 m 20 ls []) rfl ?_
  rw [zx_id (α := va_E) (f := f) (a := k) (e := .inr (2, [.ref (b0 + (k + 1)), .ref (b0 + (k + 2))])) (h0)] at hP
  exact zx_vret (k := k) (n := 3) F hr hlk hP hz hS rfl (fun _ _ => rfl) dd_Store_ctor_20
set_option maxHeartbeats 4000000 in
set_option maxRecDepth 100000 in
theorem zc_Client_ctor (lc : Launch) (G : zw_G) (b0 : Nat) (k : Nat) (f : Nat → va_E) (h0 : f k = .inr (3, [.ref (b0 + (k + 1)), .int 0])) (h1 : f (k + 1) = .inl (G.2 1, 513, .inl (fun _ => 0))) : zx_M lc ym_Client_ctor bm_Client_ctor 1 { frames := 1, cells := 1, slots := 513, locals := 24 } G b0 (k) 2 (.inr (3, [.null, .int 0])) f [.ref (b0 + k)] 1 513 := by
  refine zx_of (by decide) (Nat.le_of_ble_eq_true rfl) rfl ?_
  intro p e s m below meth cx ls F hr hlk hin2 hE hO hP hz hS hl
  have zsz : b0 + (k) ≤ s.heap.size := by rw [hz]; exact (zx_leK (k := k) (a := 1))
  have hl : lv_has ls 1 [(0, .ref (b0 + k))] := hl
  refine lv_aload_n F.1 F.2.1 dd_Client_ctor_0 rfl (lv_at hl 0 rfl) ?_
  refine W.objInit F.1 F.2.1 F.2.2.2.1 (F.2.2.2.2 _ wl_Client_3) (F.2.2.2.2 _ wx_objI) (F.2.2.2.2 _ wx_objC) rfl (by rw [F.2.2.1]; exact hl.1) rfl dd_Client_ctor_1 (Nat.le_of_ble_eq_true rfl) (Nat.le_of_ble_eq_true rfl) ?_
  refine W.eq (g2 := F0 m 4 ls []) rfl ?_
  refine lv_aload_n F.1 F.2.1 dd_Client_ctor_4 rfl (lv_at hl 0 rfl) ?_
  refine lv_sipush (v := nI 513) F.1 F.2.1 dd_Client_ctor_5 (by decide) ?_
  refine zx_newz (k := k + 1) (f := va_up (f) (k) (.inr (3, [.null, .int 0]))) F hE hP hz hS wx_arrZ (by decide) (N := 513) (by decide) (by decide) (Nat.le_of_ble_eq_true rfl) (Nat.le_of_ble_eq_true rfl) dd_Client_ctor_8 (cells' := 1) (slots' := 513) rfl rfl (fun H (hP : va_P G.1 zw_cl (zw_l b0 (k + 2) (va_up (va_up (f) (k) (.inr (3, [.null, .int 0]))) (k + 1) (.inl (G.2 1, 513, .inl (fun _ => 0))))) H) (hz : H.size = b0 + (k + 2)) hS => ?_)
  rw [zx_id (α := va_E) (f := va_up (f) (k) (.inr (3, [.null, .int 0]))) (a := k + 1) (e := .inl (G.2 1, 513, .inl (fun _ => 0))) ((va_up_ne _ _ (zx_neR (b := 1) (by decide))).trans (h1))] at hP
  refine zx_pF (ty := .array .boolean) (k := k + 2) (f := va_up (f) (k) (.inr (3, [.null, .int 0]))) (x := k) F hE hP hz hS (fun q _ h => Or.elim h (fun z => Nat.le_trans zsz z) id) (zx_lt0 (b := 2) (by decide)) (Nat.le_refl _) (va_up_self _ _ _) rfl zi_Client zy_Client zj_Client zl_Client 0 (by decide) rfl rfl hin2 rfl wf_Client_9 (by decide +kernel) rfl rfl (Nat.le_of_ble_eq_true rfl) dd_Client_ctor_10 (fun H locs hP (hz : H.size = b0 + (k + 2)) hS => ?_)
  have hP : va_P G.1 zw_cl (zw_l b0 (k + 2) (va_up (va_up (f) (k) (.inr (3, [.null, .int 0]))) (k) (.inr (3, [.ref (b0 + (k + 1)), .int 0])))) H := hP
  rw [zx_uu (α := va_E) (a := k)] at hP
  refine W.eq (g2 := F0 m 13 ls []) rfl ?_
  rw [zx_id (α := va_E) (f := f) (a := k) (e := .inr (3, [.ref (b0 + (k + 1)), .int 0])) (h0)] at hP
  exact zx_vret (k := k) (n := 2) F hr hlk hP hz hS rfl (fun _ _ => rfl) dd_Client_ctor_13
set_option maxHeartbeats 4000000 in
set_option maxRecDepth 100000 in
theorem zc_End_ctor (lc : Launch) (G : zw_G) (b0 : Nat) (k : Nat) (g : Nat → Option Nat) (f : Nat → va_E) (h0 : f k = .inr (5, [.ref (b0 + (k + 1)), .int 0, .int (nI 1)])) (h1 : f (k + 1) = .inl (G.2 5, 12, .inr (.inr (.inr (.inr (g)))))) (h2 : ∀ j, j < 12 → f (k + (2 + j)) = .inr (6, [.int 0, .int 0, .int 0, .int 0, .int 0, .int 0, .int 0])) (hg : ∀ j, j < 12 → g j = some (b0 + (k + (2 + j)))) : zx_M lc ym_End_ctor bm_End_ctor 2 { frames := 2, cells := 13, slots := 96, locals := 44 } G b0 (k) 14 (.inr (5, [.null, .int 0, .int 0])) f [.ref (b0 + k)] 13 96 := by
  refine zx_of (by decide) (Nat.le_of_ble_eq_true rfl) rfl ?_
  intro p e s m below meth cx ls F hr hlk hin2 hE hO hP hz hS hl
  have zsz : b0 + (k) ≤ s.heap.size := by rw [hz]; exact (zx_leK (k := k) (a := 1))
  have hl : lv_has ls 2 [(0, .ref (b0 + k))] := hl
  refine lv_aload_n F.1 F.2.1 dd_End_ctor_0 rfl (lv_at hl 0 rfl) ?_
  refine W.objInit F.1 F.2.1 F.2.2.2.1 (F.2.2.2.2 _ wl_End_3) (F.2.2.2.2 _ wx_objI) (F.2.2.2.2 _ wx_objC) rfl (by rw [F.2.2.1]; exact hl.1) rfl dd_End_ctor_1 (Nat.le_of_ble_eq_true rfl) (Nat.le_of_ble_eq_true rfl) ?_
  refine W.eq (g2 := F0 m 4 ls []) rfl ?_
  refine lv_aload_n F.1 F.2.1 dd_End_ctor_4 rfl (lv_at hl 0 rfl) ?_
  refine lv_bipush (v := nI 12) F.1 F.2.1 dd_End_ctor_5 (by decide) ?_
  refine zx_newq (k := k + 1) (f := va_up (f) (k) (.inr (5, [.null, .int 0, .int 0]))) (C := "TwinLedgers$Packet") (z := 5) F hE hP hz hS wq_End_9 hO.2.2.2.1 rfl (by decide) (N := 12) (by decide) (by decide) (Nat.le_of_ble_eq_true rfl) (Nat.le_of_ble_eq_true rfl) dd_End_ctor_7 (cells' := 1) (slots' := 12) rfl rfl (fun H (hP : va_P G.1 zw_cl (zw_l b0 (k + 2) (va_up (va_up (f) (k) (.inr (5, [.null, .int 0, .int 0]))) (k + 1) (.inl (G.2 5, 12, .inr (.inr (.inr (.inr (fun _ => none)))))))) H) (hz : H.size = b0 + (k + 2)) hS => ?_)
  rw [zx_rf0 (b0 + (k + 2)) 1] at hP
  refine zx_pF (ty := .array (.object "TwinLedgers$Packet")) (k := k + 2) (f := va_up (va_up (f) (k) (.inr (5, [.null, .int 0, .int 0]))) (k + 1) (.inl (G.2 5, 12, .inr (.inr (.inr (.inr (zx_rf (b0 + (k + 2)) 1 0))))))) (x := k) F hE hP hz hS (fun q _ h => Or.elim h (fun z => Nat.le_trans zsz z) id) (zx_lt0 (b := 2) (by decide)) (Nat.le_refl _) ((va_up_ne _ _ (zx_neL (b := 1) (by decide))).trans (va_up_self _ _ _)) rfl zi_End zy_End zj_End zl_End 0 (by decide) rfl rfl hin2 rfl wf_End_11 (by decide +kernel) rfl rfl (Nat.le_of_ble_eq_true rfl) dd_End_ctor_10 (fun H locs hP (hz : H.size = b0 + (k + 2)) hS => ?_)
  have hP : va_P G.1 zw_cl (zw_l b0 (k + 2) (va_up (va_up (va_up (f) (k) (.inr (5, [.null, .int 0, .int 0]))) (k + 1) (.inl (G.2 5, 12, .inr (.inr (.inr (.inr (zx_rf (b0 + (k + 2)) 1 0))))))) (k) (.inr (5, [.ref (b0 + (k + 1)), .int 0, .int 0])))) H := hP
  rw [zx_uc (α := va_E) (a := k) (b := k + 1) (zx_neL (b := 1) (by decide))] at hP
  rw [zx_uu (α := va_E) (a := k)] at hP
  refine W.eq (g2 := F0 m 13 ls []) rfl ?_
  refine lv_aload_n F.1 F.2.1 dd_End_ctor_13 rfl (lv_at hl 0 rfl) ?_
  refine lv_iconst (v := nI 1) F.1 F.2.1 dd_End_ctor_14 (by decide) ?_
  refine zx_put (ty := .int) (k := k + 2) (f := va_up (va_up (f) (k) (.inr (5, [.ref (b0 + (k + 1)), .int 0, .int 0]))) (k + 1) (.inl (G.2 5, 12, .inr (.inr (.inr (.inr (zx_rf (b0 + (k + 2)) 1 0))))))) (x := k) F hE hP hz hS (zx_lt0 (b := 2) (by decide)) (Nat.le_refl _) ((va_up_ne _ _ (zx_neL (b := 1) (by decide))).trans (va_up_self _ _ _)) rfl zi_End zy_End zj_End zl_End 2 (by decide) rfl rfl wf_End_17 (by decide +kernel) rfl rfl (Nat.le_of_ble_eq_true rfl) dd_End_ctor_15 (fun H locs hP (hz : H.size = b0 + (k + 2)) hS => ?_)
  have hP : va_P G.1 zw_cl (zw_l b0 (k + 2) (va_up (va_up (va_up (f) (k) (.inr (5, [.ref (b0 + (k + 1)), .int 0, .int 0]))) (k + 1) (.inl (G.2 5, 12, .inr (.inr (.inr (.inr (zx_rf (b0 + (k + 2)) 1 0))))))) (k) (.inr (5, [.ref (b0 + (k + 1)), .int 0, .int (nI 1)])))) H := hP
  rw [zx_uc (α := va_E) (a := k) (b := k + 1) (zx_neL (b := 1) (by decide))] at hP
  rw [zx_uu (α := va_E) (a := k)] at hP
  refine W.eq (g2 := F0 m 18 ls []) rfl ?_
  rw [zx_id (α := va_E) (f := f) (a := k) (e := .inr (5, [.ref (b0 + (k + 1)), .int 0, .int (nI 1)])) (h0)] at hP
  refine lv_iconst (v := nI 0) F.1 F.2.1 dd_End_ctor_18 (by decide) ?_
  refine lv_istore_n F.1 F.2.1 dd_End_ctor_19 rfl hl (by decide) (lv' := [(1, .int (nI 0)), (0, .ref (b0 + k))]) rfl (fun ls hl => ?_)
  refine lv_iload_n F.1 F.2.1 dd_End_ctor_20 rfl (lv_at hl 0 rfl) ?_
  refine lv_bipush (v := nI 12) F.1 F.2.1 dd_End_ctor_21 (by decide) ?_
  refine zn_cge F dd_End_ctor_23 (tgt := 45) rfl (by decide) (by decide) (fun h => absurd h (by decide)) (fun h => ?_)
  refine lv_aload_n F.1 F.2.1 dd_End_ctor_26 rfl (lv_at hl 1 rfl) ?_
  refine zw_gF (n := k + 2) (f := va_up (f) (k + 1) (.inl (G.2 5, 12, .inr (.inr (.inr (.inr (zx_rf (b0 + (k + 2)) 1 0))))))) (x := k) F hE hP (zx_lt0 (b := 2) (by decide)) ((va_up_ne _ _ (zx_neL (b := 1) (by decide))).trans (h0)) rfl zi_End 0 (by decide) rfl wf_End_11 rfl dd_End_ctor_27 ?_
  refine W.eq (g2 := F0 m 30 ls [.ref (b0 + (k + 1))]) rfl ?_
  refine lv_iload_n F.1 F.2.1 dd_End_ctor_30 rfl (lv_at hl 0 rfl) ?_
  refine zx_new (k := k + 2) (f := va_up (f) (k + 1) (.inl (G.2 5, 12, .inr (.inr (.inr (.inr (zx_rf (b0 + (k + 2)) 1 0))))))) (fs := [.int 0, .int 0, .int 0, .int 0, .int 0, .int 0, .int 0]) zy_Packet F hE hP hz hS rfl zi_Packet zj_Packet wq_End_9 wi_Packet wj_Packet zx_fs_Packet (Nat.le_of_ble_eq_true rfl) (Nat.le_of_ble_eq_true rfl) dd_End_ctor_31 (cells' := 2) (slots' := 19) rfl rfl (fun H (hP : va_P G.1 zw_cl (zw_l b0 (k + 3) (va_up (va_up (f) (k + 1) (.inl (G.2 5, 12, .inr (.inr (.inr (.inr (zx_rf (b0 + (k + 2)) 1 0))))))) (k + 2) (.inr (6, [.int 0, .int 0, .int 0, .int 0, .int 0, .int 0, .int 0])))) H) (hz : H.size = b0 + (k + 3)) hS => ?_)
  refine lv_dup F.1 F.2.1 dd_End_ctor_34 rfl ?_
  refine zx_go (k := k + 2) (n := 1) (f := va_up (f) (k + 1) (.inl (G.2 5, 12, .inr (.inr (.inr (.inr (zx_rf (b0 + (k + 2)) 1 0))))))) (zx_runN (k := k + 2) (f := va_up (f) (k + 1) (.inl (G.2 5, 12, .inr (.inr (.inr (.inr (zx_rf (b0 + (k + 2)) 1 0))))))) F hE hO hP hz (zc_Packet_ctor lc G b0 (k + 2) (va_up (f) (k + 1) (.inl (G.2 5, 12, .inr (.inr (.inr (.inr (zx_rf (b0 + (k + 2)) 1 0))))))) ((va_up_ne _ _ (zx_ne (a := 2) (b := 1) (by decide))).trans ((h2 0 (by decide))))) zk_Packet_ctor za_Packet_ctor rfl wl_End_21 ⟨rfl, rfl, Nat.le_of_ble_eq_true rfl, Nat.le_of_ble_eq_true rfl⟩ hl.1 rfl (Nat.le_of_ble_eq_true rfl) ⟨Nat.le_of_ble_eq_true rfl, Nat.le_of_ble_eq_true rfl⟩ dd_End_ctor_35) hS (fun q h => Nat.le_trans (zx_leK (k := k) (a := 2)) h) (cells' := 2) (slots' := 19) rfl rfl (fun H locs (hP : va_P G.1 zw_cl (zw_l b0 (k + 3) (va_up (f) (k + 1) (.inl (G.2 5, 12, .inr (.inr (.inr (.inr (zx_rf (b0 + (k + 2)) 1 0)))))))) H) (hz : H.size = b0 + (k + 3)) _ hS => ?_)
  refine zx_ast (k := k + 3) (f := va_up (f) (k + 1) (.inl (G.2 5, 12, .inr (.inr (.inr (.inr (zx_rf (b0 + (k + 2)) 1 0))))))) (x := k + 1) (y := k + 2) (z := 5) (j := 0) F hE hP hz hS (zx_lt (a := 1) (b := 3) (by decide)) (zx_leK (k := k) (a := 1)) (va_up_self _ _ _) rfl (zx_lt (a := 2) (b := 3) (by decide)) ((va_up_ne _ _ (zx_ne (a := 2) (b := 1) (by decide))).trans ((h2 0 (by decide)))) rfl (by decide) (by decide) rfl dd_End_ctor_38 (fun H locs hP (hz : H.size = b0 + (k + 3)) hS => ?_)
  rw [zx_rfs (n := 0) (n' := 1) (zx_rv (k := k) (a := 2) (m := 2) (by decide)) rfl] at hP
  rw [zx_uu (α := va_E) (a := k + 1)] at hP
  refine lv_iinc F.1 F.2.1 dd_End_ctor_39 hl (k := 0) rfl (v := nI 1) (by decide) (by decide) (lv' := [(1, .int (nI 1)), (0, .ref (b0 + k))]) rfl (fun ls hl => ?_)
  refine lv_goto F.1 F.2.1 dd_End_ctor_42 (tgt := 20) rfl ?_
  refine lv_iload_n F.1 F.2.1 dd_End_ctor_20 rfl (lv_at hl 0 rfl) ?_
  refine lv_bipush (v := nI 12) F.1 F.2.1 dd_End_ctor_21 (by decide) ?_
  refine zn_cge F dd_End_ctor_23 (tgt := 45) rfl (by decide) (by decide) (fun h => absurd h (by decide)) (fun h => ?_)
  refine lv_aload_n F.1 F.2.1 dd_End_ctor_26 rfl (lv_at hl 1 rfl) ?_
  refine zw_gF (n := k + 3) (f := va_up (f) (k + 1) (.inl (G.2 5, 12, .inr (.inr (.inr (.inr (zx_rf (b0 + (k + 2)) 1 1))))))) (x := k) F hE hP (zx_lt0 (b := 3) (by decide)) ((va_up_ne _ _ (zx_neL (b := 1) (by decide))).trans (h0)) rfl zi_End 0 (by decide) rfl wf_End_11 rfl dd_End_ctor_27 ?_
  refine W.eq (g2 := F0 m 30 ls [.ref (b0 + (k + 1))]) rfl ?_
  refine lv_iload_n F.1 F.2.1 dd_End_ctor_30 rfl (lv_at hl 0 rfl) ?_
  refine zx_new (k := k + 3) (f := va_up (f) (k + 1) (.inl (G.2 5, 12, .inr (.inr (.inr (.inr (zx_rf (b0 + (k + 2)) 1 1))))))) (fs := [.int 0, .int 0, .int 0, .int 0, .int 0, .int 0, .int 0]) zy_Packet F hE hP hz hS rfl zi_Packet zj_Packet wq_End_9 wi_Packet wj_Packet zx_fs_Packet (Nat.le_of_ble_eq_true rfl) (Nat.le_of_ble_eq_true rfl) dd_End_ctor_31 (cells' := 3) (slots' := 26) rfl rfl (fun H (hP : va_P G.1 zw_cl (zw_l b0 (k + 4) (va_up (va_up (f) (k + 1) (.inl (G.2 5, 12, .inr (.inr (.inr (.inr (zx_rf (b0 + (k + 2)) 1 1))))))) (k + 3) (.inr (6, [.int 0, .int 0, .int 0, .int 0, .int 0, .int 0, .int 0])))) H) (hz : H.size = b0 + (k + 4)) hS => ?_)
  refine lv_dup F.1 F.2.1 dd_End_ctor_34 rfl ?_
  refine zx_go (k := k + 3) (n := 1) (f := va_up (f) (k + 1) (.inl (G.2 5, 12, .inr (.inr (.inr (.inr (zx_rf (b0 + (k + 2)) 1 1))))))) (zx_runN (k := k + 3) (f := va_up (f) (k + 1) (.inl (G.2 5, 12, .inr (.inr (.inr (.inr (zx_rf (b0 + (k + 2)) 1 1))))))) F hE hO hP hz (zc_Packet_ctor lc G b0 (k + 3) (va_up (f) (k + 1) (.inl (G.2 5, 12, .inr (.inr (.inr (.inr (zx_rf (b0 + (k + 2)) 1 1))))))) ((va_up_ne _ _ (zx_ne (a := 3) (b := 1) (by decide))).trans ((h2 1 (by decide))))) zk_Packet_ctor za_Packet_ctor rfl wl_End_21 ⟨rfl, rfl, Nat.le_of_ble_eq_true rfl, Nat.le_of_ble_eq_true rfl⟩ hl.1 rfl (Nat.le_of_ble_eq_true rfl) ⟨Nat.le_of_ble_eq_true rfl, Nat.le_of_ble_eq_true rfl⟩ dd_End_ctor_35) hS (fun q h => Nat.le_trans (zx_leK (k := k) (a := 3)) h) (cells' := 3) (slots' := 26) rfl rfl (fun H locs (hP : va_P G.1 zw_cl (zw_l b0 (k + 4) (va_up (f) (k + 1) (.inl (G.2 5, 12, .inr (.inr (.inr (.inr (zx_rf (b0 + (k + 2)) 1 1)))))))) H) (hz : H.size = b0 + (k + 4)) _ hS => ?_)
  refine zx_ast (k := k + 4) (f := va_up (f) (k + 1) (.inl (G.2 5, 12, .inr (.inr (.inr (.inr (zx_rf (b0 + (k + 2)) 1 1))))))) (x := k + 1) (y := k + 3) (z := 5) (j := 1) F hE hP hz hS (zx_lt (a := 1) (b := 4) (by decide)) (zx_leK (k := k) (a := 1)) (va_up_self _ _ _) rfl (zx_lt (a := 3) (b := 4) (by decide)) ((va_up_ne _ _ (zx_ne (a := 3) (b := 1) (by decide))).trans ((h2 1 (by decide)))) rfl (by decide) (by decide) rfl dd_End_ctor_38 (fun H locs hP (hz : H.size = b0 + (k + 4)) hS => ?_)
  rw [zx_rfs (n := 1) (n' := 2) (zx_rv (k := k) (a := 2) (m := 3) (by decide)) rfl] at hP
  rw [zx_uu (α := va_E) (a := k + 1)] at hP
  refine lv_iinc F.1 F.2.1 dd_End_ctor_39 hl (k := 0) rfl (v := nI 2) (by decide) (by decide) (lv' := [(1, .int (nI 2)), (0, .ref (b0 + k))]) rfl (fun ls hl => ?_)
  refine lv_goto F.1 F.2.1 dd_End_ctor_42 (tgt := 20) rfl ?_
  refine lv_iload_n F.1 F.2.1 dd_End_ctor_20 rfl (lv_at hl 0 rfl) ?_
  refine lv_bipush (v := nI 12) F.1 F.2.1 dd_End_ctor_21 (by decide) ?_
  refine zn_cge F dd_End_ctor_23 (tgt := 45) rfl (by decide) (by decide) (fun h => absurd h (by decide)) (fun h => ?_)
  refine lv_aload_n F.1 F.2.1 dd_End_ctor_26 rfl (lv_at hl 1 rfl) ?_
  refine zw_gF (n := k + 4) (f := va_up (f) (k + 1) (.inl (G.2 5, 12, .inr (.inr (.inr (.inr (zx_rf (b0 + (k + 2)) 1 2))))))) (x := k) F hE hP (zx_lt0 (b := 4) (by decide)) ((va_up_ne _ _ (zx_neL (b := 1) (by decide))).trans (h0)) rfl zi_End 0 (by decide) rfl wf_End_11 rfl dd_End_ctor_27 ?_
  refine W.eq (g2 := F0 m 30 ls [.ref (b0 + (k + 1))]) rfl ?_
  refine lv_iload_n F.1 F.2.1 dd_End_ctor_30 rfl (lv_at hl 0 rfl) ?_
  refine zx_new (k := k + 4) (f := va_up (f) (k + 1) (.inl (G.2 5, 12, .inr (.inr (.inr (.inr (zx_rf (b0 + (k + 2)) 1 2))))))) (fs := [.int 0, .int 0, .int 0, .int 0, .int 0, .int 0, .int 0]) zy_Packet F hE hP hz hS rfl zi_Packet zj_Packet wq_End_9 wi_Packet wj_Packet zx_fs_Packet (Nat.le_of_ble_eq_true rfl) (Nat.le_of_ble_eq_true rfl) dd_End_ctor_31 (cells' := 4) (slots' := 33) rfl rfl (fun H (hP : va_P G.1 zw_cl (zw_l b0 (k + 5) (va_up (va_up (f) (k + 1) (.inl (G.2 5, 12, .inr (.inr (.inr (.inr (zx_rf (b0 + (k + 2)) 1 2))))))) (k + 4) (.inr (6, [.int 0, .int 0, .int 0, .int 0, .int 0, .int 0, .int 0])))) H) (hz : H.size = b0 + (k + 5)) hS => ?_)
  refine lv_dup F.1 F.2.1 dd_End_ctor_34 rfl ?_
  refine zx_go (k := k + 4) (n := 1) (f := va_up (f) (k + 1) (.inl (G.2 5, 12, .inr (.inr (.inr (.inr (zx_rf (b0 + (k + 2)) 1 2))))))) (zx_runN (k := k + 4) (f := va_up (f) (k + 1) (.inl (G.2 5, 12, .inr (.inr (.inr (.inr (zx_rf (b0 + (k + 2)) 1 2))))))) F hE hO hP hz (zc_Packet_ctor lc G b0 (k + 4) (va_up (f) (k + 1) (.inl (G.2 5, 12, .inr (.inr (.inr (.inr (zx_rf (b0 + (k + 2)) 1 2))))))) ((va_up_ne _ _ (zx_ne (a := 4) (b := 1) (by decide))).trans ((h2 2 (by decide))))) zk_Packet_ctor za_Packet_ctor rfl wl_End_21 ⟨rfl, rfl, Nat.le_of_ble_eq_true rfl, Nat.le_of_ble_eq_true rfl⟩ hl.1 rfl (Nat.le_of_ble_eq_true rfl) ⟨Nat.le_of_ble_eq_true rfl, Nat.le_of_ble_eq_true rfl⟩ dd_End_ctor_35) hS (fun q h => Nat.le_trans (zx_leK (k := k) (a := 4)) h) (cells' := 4) (slots' := 33) rfl rfl (fun H locs (hP : va_P G.1 zw_cl (zw_l b0 (k + 5) (va_up (f) (k + 1) (.inl (G.2 5, 12, .inr (.inr (.inr (.inr (zx_rf (b0 + (k + 2)) 1 2)))))))) H) (hz : H.size = b0 + (k + 5)) _ hS => ?_)
  refine zx_ast (k := k + 5) (f := va_up (f) (k + 1) (.inl (G.2 5, 12, .inr (.inr (.inr (.inr (zx_rf (b0 + (k + 2)) 1 2))))))) (x := k + 1) (y := k + 4) (z := 5) (j := 2) F hE hP hz hS (zx_lt (a := 1) (b := 5) (by decide)) (zx_leK (k := k) (a := 1)) (va_up_self _ _ _) rfl (zx_lt (a := 4) (b := 5) (by decide)) ((va_up_ne _ _ (zx_ne (a := 4) (b := 1) (by decide))).trans ((h2 2 (by decide)))) rfl (by decide) (by decide) rfl dd_End_ctor_38 (fun H locs hP (hz : H.size = b0 + (k + 5)) hS => ?_)
  rw [zx_rfs (n := 2) (n' := 3) (zx_rv (k := k) (a := 2) (m := 4) (by decide)) rfl] at hP
  rw [zx_uu (α := va_E) (a := k + 1)] at hP
  refine lv_iinc F.1 F.2.1 dd_End_ctor_39 hl (k := 0) rfl (v := nI 3) (by decide) (by decide) (lv' := [(1, .int (nI 3)), (0, .ref (b0 + k))]) rfl (fun ls hl => ?_)
  refine lv_goto F.1 F.2.1 dd_End_ctor_42 (tgt := 20) rfl ?_
  refine lv_iload_n F.1 F.2.1 dd_End_ctor_20 rfl (lv_at hl 0 rfl) ?_
  refine lv_bipush (v := nI 12) F.1 F.2.1 dd_End_ctor_21 (by decide) ?_
  refine zn_cge F dd_End_ctor_23 (tgt := 45) rfl (by decide) (by decide) (fun h => absurd h (by decide)) (fun h => ?_)
  refine lv_aload_n F.1 F.2.1 dd_End_ctor_26 rfl (lv_at hl 1 rfl) ?_
  refine zw_gF (n := k + 5) (f := va_up (f) (k + 1) (.inl (G.2 5, 12, .inr (.inr (.inr (.inr (zx_rf (b0 + (k + 2)) 1 3))))))) (x := k) F hE hP (zx_lt0 (b := 5) (by decide)) ((va_up_ne _ _ (zx_neL (b := 1) (by decide))).trans (h0)) rfl zi_End 0 (by decide) rfl wf_End_11 rfl dd_End_ctor_27 ?_
  refine W.eq (g2 := F0 m 30 ls [.ref (b0 + (k + 1))]) rfl ?_
  refine lv_iload_n F.1 F.2.1 dd_End_ctor_30 rfl (lv_at hl 0 rfl) ?_
  refine zx_new (k := k + 5) (f := va_up (f) (k + 1) (.inl (G.2 5, 12, .inr (.inr (.inr (.inr (zx_rf (b0 + (k + 2)) 1 3))))))) (fs := [.int 0, .int 0, .int 0, .int 0, .int 0, .int 0, .int 0]) zy_Packet F hE hP hz hS rfl zi_Packet zj_Packet wq_End_9 wi_Packet wj_Packet zx_fs_Packet (Nat.le_of_ble_eq_true rfl) (Nat.le_of_ble_eq_true rfl) dd_End_ctor_31 (cells' := 5) (slots' := 40) rfl rfl (fun H (hP : va_P G.1 zw_cl (zw_l b0 (k + 6) (va_up (va_up (f) (k + 1) (.inl (G.2 5, 12, .inr (.inr (.inr (.inr (zx_rf (b0 + (k + 2)) 1 3))))))) (k + 5) (.inr (6, [.int 0, .int 0, .int 0, .int 0, .int 0, .int 0, .int 0])))) H) (hz : H.size = b0 + (k + 6)) hS => ?_)
  refine lv_dup F.1 F.2.1 dd_End_ctor_34 rfl ?_
  refine zx_go (k := k + 5) (n := 1) (f := va_up (f) (k + 1) (.inl (G.2 5, 12, .inr (.inr (.inr (.inr (zx_rf (b0 + (k + 2)) 1 3))))))) (zx_runN (k := k + 5) (f := va_up (f) (k + 1) (.inl (G.2 5, 12, .inr (.inr (.inr (.inr (zx_rf (b0 + (k + 2)) 1 3))))))) F hE hO hP hz (zc_Packet_ctor lc G b0 (k + 5) (va_up (f) (k + 1) (.inl (G.2 5, 12, .inr (.inr (.inr (.inr (zx_rf (b0 + (k + 2)) 1 3))))))) ((va_up_ne _ _ (zx_ne (a := 5) (b := 1) (by decide))).trans ((h2 3 (by decide))))) zk_Packet_ctor za_Packet_ctor rfl wl_End_21 ⟨rfl, rfl, Nat.le_of_ble_eq_true rfl, Nat.le_of_ble_eq_true rfl⟩ hl.1 rfl (Nat.le_of_ble_eq_true rfl) ⟨Nat.le_of_ble_eq_true rfl, Nat.le_of_ble_eq_true rfl⟩ dd_End_ctor_35) hS (fun q h => Nat.le_trans (zx_leK (k := k) (a := 5)) h) (cells' := 5) (slots' := 40) rfl rfl (fun H locs (hP : va_P G.1 zw_cl (zw_l b0 (k + 6) (va_up (f) (k + 1) (.inl (G.2 5, 12, .inr (.inr (.inr (.inr (zx_rf (b0 + (k + 2)) 1 3)))))))) H) (hz : H.size = b0 + (k + 6)) _ hS => ?_)
  refine zx_ast (k := k + 6) (f := va_up (f) (k + 1) (.inl (G.2 5, 12, .inr (.inr (.inr (.inr (zx_rf (b0 + (k + 2)) 1 3))))))) (x := k + 1) (y := k + 5) (z := 5) (j := 3) F hE hP hz hS (zx_lt (a := 1) (b := 6) (by decide)) (zx_leK (k := k) (a := 1)) (va_up_self _ _ _) rfl (zx_lt (a := 5) (b := 6) (by decide)) ((va_up_ne _ _ (zx_ne (a := 5) (b := 1) (by decide))).trans ((h2 3 (by decide)))) rfl (by decide) (by decide) rfl dd_End_ctor_38 (fun H locs hP (hz : H.size = b0 + (k + 6)) hS => ?_)
  rw [zx_rfs (n := 3) (n' := 4) (zx_rv (k := k) (a := 2) (m := 5) (by decide)) rfl] at hP
  rw [zx_uu (α := va_E) (a := k + 1)] at hP
  refine lv_iinc F.1 F.2.1 dd_End_ctor_39 hl (k := 0) rfl (v := nI 4) (by decide) (by decide) (lv' := [(1, .int (nI 4)), (0, .ref (b0 + k))]) rfl (fun ls hl => ?_)
  refine lv_goto F.1 F.2.1 dd_End_ctor_42 (tgt := 20) rfl ?_
  refine lv_iload_n F.1 F.2.1 dd_End_ctor_20 rfl (lv_at hl 0 rfl) ?_
  refine lv_bipush (v := nI 12) F.1 F.2.1 dd_End_ctor_21 (by decide) ?_
  refine zn_cge F dd_End_ctor_23 (tgt := 45) rfl (by decide) (by decide) (fun h => absurd h (by decide)) (fun h => ?_)
  refine lv_aload_n F.1 F.2.1 dd_End_ctor_26 rfl (lv_at hl 1 rfl) ?_
  refine zw_gF (n := k + 6) (f := va_up (f) (k + 1) (.inl (G.2 5, 12, .inr (.inr (.inr (.inr (zx_rf (b0 + (k + 2)) 1 4))))))) (x := k) F hE hP (zx_lt0 (b := 6) (by decide)) ((va_up_ne _ _ (zx_neL (b := 1) (by decide))).trans (h0)) rfl zi_End 0 (by decide) rfl wf_End_11 rfl dd_End_ctor_27 ?_
  refine W.eq (g2 := F0 m 30 ls [.ref (b0 + (k + 1))]) rfl ?_
  refine lv_iload_n F.1 F.2.1 dd_End_ctor_30 rfl (lv_at hl 0 rfl) ?_
  refine zx_new (k := k + 6) (f := va_up (f) (k + 1) (.inl (G.2 5, 12, .inr (.inr (.inr (.inr (zx_rf (b0 + (k + 2)) 1 4))))))) (fs := [.int 0, .int 0, .int 0, .int 0, .int 0, .int 0, .int 0]) zy_Packet F hE hP hz hS rfl zi_Packet zj_Packet wq_End_9 wi_Packet wj_Packet zx_fs_Packet (Nat.le_of_ble_eq_true rfl) (Nat.le_of_ble_eq_true rfl) dd_End_ctor_31 (cells' := 6) (slots' := 47) rfl rfl (fun H (hP : va_P G.1 zw_cl (zw_l b0 (k + 7) (va_up (va_up (f) (k + 1) (.inl (G.2 5, 12, .inr (.inr (.inr (.inr (zx_rf (b0 + (k + 2)) 1 4))))))) (k + 6) (.inr (6, [.int 0, .int 0, .int 0, .int 0, .int 0, .int 0, .int 0])))) H) (hz : H.size = b0 + (k + 7)) hS => ?_)
  refine lv_dup F.1 F.2.1 dd_End_ctor_34 rfl ?_
  refine zx_go (k := k + 6) (n := 1) (f := va_up (f) (k + 1) (.inl (G.2 5, 12, .inr (.inr (.inr (.inr (zx_rf (b0 + (k + 2)) 1 4))))))) (zx_runN (k := k + 6) (f := va_up (f) (k + 1) (.inl (G.2 5, 12, .inr (.inr (.inr (.inr (zx_rf (b0 + (k + 2)) 1 4))))))) F hE hO hP hz (zc_Packet_ctor lc G b0 (k + 6) (va_up (f) (k + 1) (.inl (G.2 5, 12, .inr (.inr (.inr (.inr (zx_rf (b0 + (k + 2)) 1 4))))))) ((va_up_ne _ _ (zx_ne (a := 6) (b := 1) (by decide))).trans ((h2 4 (by decide))))) zk_Packet_ctor za_Packet_ctor rfl wl_End_21 ⟨rfl, rfl, Nat.le_of_ble_eq_true rfl, Nat.le_of_ble_eq_true rfl⟩ hl.1 rfl (Nat.le_of_ble_eq_true rfl) ⟨Nat.le_of_ble_eq_true rfl, Nat.le_of_ble_eq_true rfl⟩ dd_End_ctor_35) hS (fun q h => Nat.le_trans (zx_leK (k := k) (a := 6)) h) (cells' := 6) (slots' := 47) rfl rfl (fun H locs (hP : va_P G.1 zw_cl (zw_l b0 (k + 7) (va_up (f) (k + 1) (.inl (G.2 5, 12, .inr (.inr (.inr (.inr (zx_rf (b0 + (k + 2)) 1 4)))))))) H) (hz : H.size = b0 + (k + 7)) _ hS => ?_)
  refine zx_ast (k := k + 7) (f := va_up (f) (k + 1) (.inl (G.2 5, 12, .inr (.inr (.inr (.inr (zx_rf (b0 + (k + 2)) 1 4))))))) (x := k + 1) (y := k + 6) (z := 5) (j := 4) F hE hP hz hS (zx_lt (a := 1) (b := 7) (by decide)) (zx_leK (k := k) (a := 1)) (va_up_self _ _ _) rfl (zx_lt (a := 6) (b := 7) (by decide)) ((va_up_ne _ _ (zx_ne (a := 6) (b := 1) (by decide))).trans ((h2 4 (by decide)))) rfl (by decide) (by decide) rfl dd_End_ctor_38 (fun H locs hP (hz : H.size = b0 + (k + 7)) hS => ?_)
  rw [zx_rfs (n := 4) (n' := 5) (zx_rv (k := k) (a := 2) (m := 6) (by decide)) rfl] at hP
  rw [zx_uu (α := va_E) (a := k + 1)] at hP
  refine lv_iinc F.1 F.2.1 dd_End_ctor_39 hl (k := 0) rfl (v := nI 5) (by decide) (by decide) (lv' := [(1, .int (nI 5)), (0, .ref (b0 + k))]) rfl (fun ls hl => ?_)
  refine lv_goto F.1 F.2.1 dd_End_ctor_42 (tgt := 20) rfl ?_
  refine lv_iload_n F.1 F.2.1 dd_End_ctor_20 rfl (lv_at hl 0 rfl) ?_
  refine lv_bipush (v := nI 12) F.1 F.2.1 dd_End_ctor_21 (by decide) ?_
  refine zn_cge F dd_End_ctor_23 (tgt := 45) rfl (by decide) (by decide) (fun h => absurd h (by decide)) (fun h => ?_)
  refine lv_aload_n F.1 F.2.1 dd_End_ctor_26 rfl (lv_at hl 1 rfl) ?_
  refine zw_gF (n := k + 7) (f := va_up (f) (k + 1) (.inl (G.2 5, 12, .inr (.inr (.inr (.inr (zx_rf (b0 + (k + 2)) 1 5))))))) (x := k) F hE hP (zx_lt0 (b := 7) (by decide)) ((va_up_ne _ _ (zx_neL (b := 1) (by decide))).trans (h0)) rfl zi_End 0 (by decide) rfl wf_End_11 rfl dd_End_ctor_27 ?_
  refine W.eq (g2 := F0 m 30 ls [.ref (b0 + (k + 1))]) rfl ?_
  refine lv_iload_n F.1 F.2.1 dd_End_ctor_30 rfl (lv_at hl 0 rfl) ?_
  refine zx_new (k := k + 7) (f := va_up (f) (k + 1) (.inl (G.2 5, 12, .inr (.inr (.inr (.inr (zx_rf (b0 + (k + 2)) 1 5))))))) (fs := [.int 0, .int 0, .int 0, .int 0, .int 0, .int 0, .int 0]) zy_Packet F hE hP hz hS rfl zi_Packet zj_Packet wq_End_9 wi_Packet wj_Packet zx_fs_Packet (Nat.le_of_ble_eq_true rfl) (Nat.le_of_ble_eq_true rfl) dd_End_ctor_31 (cells' := 7) (slots' := 54) rfl rfl (fun H (hP : va_P G.1 zw_cl (zw_l b0 (k + 8) (va_up (va_up (f) (k + 1) (.inl (G.2 5, 12, .inr (.inr (.inr (.inr (zx_rf (b0 + (k + 2)) 1 5))))))) (k + 7) (.inr (6, [.int 0, .int 0, .int 0, .int 0, .int 0, .int 0, .int 0])))) H) (hz : H.size = b0 + (k + 8)) hS => ?_)
  refine lv_dup F.1 F.2.1 dd_End_ctor_34 rfl ?_
  refine zx_go (k := k + 7) (n := 1) (f := va_up (f) (k + 1) (.inl (G.2 5, 12, .inr (.inr (.inr (.inr (zx_rf (b0 + (k + 2)) 1 5))))))) (zx_runN (k := k + 7) (f := va_up (f) (k + 1) (.inl (G.2 5, 12, .inr (.inr (.inr (.inr (zx_rf (b0 + (k + 2)) 1 5))))))) F hE hO hP hz (zc_Packet_ctor lc G b0 (k + 7) (va_up (f) (k + 1) (.inl (G.2 5, 12, .inr (.inr (.inr (.inr (zx_rf (b0 + (k + 2)) 1 5))))))) ((va_up_ne _ _ (zx_ne (a := 7) (b := 1) (by decide))).trans ((h2 5 (by decide))))) zk_Packet_ctor za_Packet_ctor rfl wl_End_21 ⟨rfl, rfl, Nat.le_of_ble_eq_true rfl, Nat.le_of_ble_eq_true rfl⟩ hl.1 rfl (Nat.le_of_ble_eq_true rfl) ⟨Nat.le_of_ble_eq_true rfl, Nat.le_of_ble_eq_true rfl⟩ dd_End_ctor_35) hS (fun q h => Nat.le_trans (zx_leK (k := k) (a := 7)) h) (cells' := 7) (slots' := 54) rfl rfl (fun H locs (hP : va_P G.1 zw_cl (zw_l b0 (k + 8) (va_up (f) (k + 1) (.inl (G.2 5, 12, .inr (.inr (.inr (.inr (zx_rf (b0 + (k + 2)) 1 5)))))))) H) (hz : H.size = b0 + (k + 8)) _ hS => ?_)
  refine zx_ast (k := k + 8) (f := va_up (f) (k + 1) (.inl (G.2 5, 12, .inr (.inr (.inr (.inr (zx_rf (b0 + (k + 2)) 1 5))))))) (x := k + 1) (y := k + 7) (z := 5) (j := 5) F hE hP hz hS (zx_lt (a := 1) (b := 8) (by decide)) (zx_leK (k := k) (a := 1)) (va_up_self _ _ _) rfl (zx_lt (a := 7) (b := 8) (by decide)) ((va_up_ne _ _ (zx_ne (a := 7) (b := 1) (by decide))).trans ((h2 5 (by decide)))) rfl (by decide) (by decide) rfl dd_End_ctor_38 (fun H locs hP (hz : H.size = b0 + (k + 8)) hS => ?_)
  rw [zx_rfs (n := 5) (n' := 6) (zx_rv (k := k) (a := 2) (m := 7) (by decide)) rfl] at hP
  rw [zx_uu (α := va_E) (a := k + 1)] at hP
  refine lv_iinc F.1 F.2.1 dd_End_ctor_39 hl (k := 0) rfl (v := nI 6) (by decide) (by decide) (lv' := [(1, .int (nI 6)), (0, .ref (b0 + k))]) rfl (fun ls hl => ?_)
  refine lv_goto F.1 F.2.1 dd_End_ctor_42 (tgt := 20) rfl ?_
  refine lv_iload_n F.1 F.2.1 dd_End_ctor_20 rfl (lv_at hl 0 rfl) ?_
  refine lv_bipush (v := nI 12) F.1 F.2.1 dd_End_ctor_21 (by decide) ?_
  refine zn_cge F dd_End_ctor_23 (tgt := 45) rfl (by decide) (by decide) (fun h => absurd h (by decide)) (fun h => ?_)
  refine lv_aload_n F.1 F.2.1 dd_End_ctor_26 rfl (lv_at hl 1 rfl) ?_
  refine zw_gF (n := k + 8) (f := va_up (f) (k + 1) (.inl (G.2 5, 12, .inr (.inr (.inr (.inr (zx_rf (b0 + (k + 2)) 1 6))))))) (x := k) F hE hP (zx_lt0 (b := 8) (by decide)) ((va_up_ne _ _ (zx_neL (b := 1) (by decide))).trans (h0)) rfl zi_End 0 (by decide) rfl wf_End_11 rfl dd_End_ctor_27 ?_
  refine W.eq (g2 := F0 m 30 ls [.ref (b0 + (k + 1))]) rfl ?_
  refine lv_iload_n F.1 F.2.1 dd_End_ctor_30 rfl (lv_at hl 0 rfl) ?_
  refine zx_new (k := k + 8) (f := va_up (f) (k + 1) (.inl (G.2 5, 12, .inr (.inr (.inr (.inr (zx_rf (b0 + (k + 2)) 1 6))))))) (fs := [.int 0, .int 0, .int 0, .int 0, .int 0, .int 0, .int 0]) zy_Packet F hE hP hz hS rfl zi_Packet zj_Packet wq_End_9 wi_Packet wj_Packet zx_fs_Packet (Nat.le_of_ble_eq_true rfl) (Nat.le_of_ble_eq_true rfl) dd_End_ctor_31 (cells' := 8) (slots' := 61) rfl rfl (fun H (hP : va_P G.1 zw_cl (zw_l b0 (k + 9) (va_up (va_up (f) (k + 1) (.inl (G.2 5, 12, .inr (.inr (.inr (.inr (zx_rf (b0 + (k + 2)) 1 6))))))) (k + 8) (.inr (6, [.int 0, .int 0, .int 0, .int 0, .int 0, .int 0, .int 0])))) H) (hz : H.size = b0 + (k + 9)) hS => ?_)
  refine lv_dup F.1 F.2.1 dd_End_ctor_34 rfl ?_
  refine zx_go (k := k + 8) (n := 1) (f := va_up (f) (k + 1) (.inl (G.2 5, 12, .inr (.inr (.inr (.inr (zx_rf (b0 + (k + 2)) 1 6))))))) (zx_runN (k := k + 8) (f := va_up (f) (k + 1) (.inl (G.2 5, 12, .inr (.inr (.inr (.inr (zx_rf (b0 + (k + 2)) 1 6))))))) F hE hO hP hz (zc_Packet_ctor lc G b0 (k + 8) (va_up (f) (k + 1) (.inl (G.2 5, 12, .inr (.inr (.inr (.inr (zx_rf (b0 + (k + 2)) 1 6))))))) ((va_up_ne _ _ (zx_ne (a := 8) (b := 1) (by decide))).trans ((h2 6 (by decide))))) zk_Packet_ctor za_Packet_ctor rfl wl_End_21 ⟨rfl, rfl, Nat.le_of_ble_eq_true rfl, Nat.le_of_ble_eq_true rfl⟩ hl.1 rfl (Nat.le_of_ble_eq_true rfl) ⟨Nat.le_of_ble_eq_true rfl, Nat.le_of_ble_eq_true rfl⟩ dd_End_ctor_35) hS (fun q h => Nat.le_trans (zx_leK (k := k) (a := 8)) h) (cells' := 8) (slots' := 61) rfl rfl (fun H locs (hP : va_P G.1 zw_cl (zw_l b0 (k + 9) (va_up (f) (k + 1) (.inl (G.2 5, 12, .inr (.inr (.inr (.inr (zx_rf (b0 + (k + 2)) 1 6)))))))) H) (hz : H.size = b0 + (k + 9)) _ hS => ?_)
  refine zx_ast (k := k + 9) (f := va_up (f) (k + 1) (.inl (G.2 5, 12, .inr (.inr (.inr (.inr (zx_rf (b0 + (k + 2)) 1 6))))))) (x := k + 1) (y := k + 8) (z := 5) (j := 6) F hE hP hz hS (zx_lt (a := 1) (b := 9) (by decide)) (zx_leK (k := k) (a := 1)) (va_up_self _ _ _) rfl (zx_lt (a := 8) (b := 9) (by decide)) ((va_up_ne _ _ (zx_ne (a := 8) (b := 1) (by decide))).trans ((h2 6 (by decide)))) rfl (by decide) (by decide) rfl dd_End_ctor_38 (fun H locs hP (hz : H.size = b0 + (k + 9)) hS => ?_)
  rw [zx_rfs (n := 6) (n' := 7) (zx_rv (k := k) (a := 2) (m := 8) (by decide)) rfl] at hP
  rw [zx_uu (α := va_E) (a := k + 1)] at hP
  refine lv_iinc F.1 F.2.1 dd_End_ctor_39 hl (k := 0) rfl (v := nI 7) (by decide) (by decide) (lv' := [(1, .int (nI 7)), (0, .ref (b0 + k))]) rfl (fun ls hl => ?_)
  refine lv_goto F.1 F.2.1 dd_End_ctor_42 (tgt := 20) rfl ?_
  refine lv_iload_n F.1 F.2.1 dd_End_ctor_20 rfl (lv_at hl 0 rfl) ?_
  refine lv_bipush (v := nI 12) F.1 F.2.1 dd_End_ctor_21 (by decide) ?_
  refine zn_cge F dd_End_ctor_23 (tgt := 45) rfl (by decide) (by decide) (fun h => absurd h (by decide)) (fun h => ?_)
  refine lv_aload_n F.1 F.2.1 dd_End_ctor_26 rfl (lv_at hl 1 rfl) ?_
  refine zw_gF (n := k + 9) (f := va_up (f) (k + 1) (.inl (G.2 5, 12, .inr (.inr (.inr (.inr (zx_rf (b0 + (k + 2)) 1 7))))))) (x := k) F hE hP (zx_lt0 (b := 9) (by decide)) ((va_up_ne _ _ (zx_neL (b := 1) (by decide))).trans (h0)) rfl zi_End 0 (by decide) rfl wf_End_11 rfl dd_End_ctor_27 ?_
  refine W.eq (g2 := F0 m 30 ls [.ref (b0 + (k + 1))]) rfl ?_
  refine lv_iload_n F.1 F.2.1 dd_End_ctor_30 rfl (lv_at hl 0 rfl) ?_
  refine zx_new (k := k + 9) (f := va_up (f) (k + 1) (.inl (G.2 5, 12, .inr (.inr (.inr (.inr (zx_rf (b0 + (k + 2)) 1 7))))))) (fs := [.int 0, .int 0, .int 0, .int 0, .int 0, .int 0, .int 0]) zy_Packet F hE hP hz hS rfl zi_Packet zj_Packet wq_End_9 wi_Packet wj_Packet zx_fs_Packet (Nat.le_of_ble_eq_true rfl) (Nat.le_of_ble_eq_true rfl) dd_End_ctor_31 (cells' := 9) (slots' := 68) rfl rfl (fun H (hP : va_P G.1 zw_cl (zw_l b0 (k + 10) (va_up (va_up (f) (k + 1) (.inl (G.2 5, 12, .inr (.inr (.inr (.inr (zx_rf (b0 + (k + 2)) 1 7))))))) (k + 9) (.inr (6, [.int 0, .int 0, .int 0, .int 0, .int 0, .int 0, .int 0])))) H) (hz : H.size = b0 + (k + 10)) hS => ?_)
  refine lv_dup F.1 F.2.1 dd_End_ctor_34 rfl ?_
  refine zx_go (k := k + 9) (n := 1) (f := va_up (f) (k + 1) (.inl (G.2 5, 12, .inr (.inr (.inr (.inr (zx_rf (b0 + (k + 2)) 1 7))))))) (zx_runN (k := k + 9) (f := va_up (f) (k + 1) (.inl (G.2 5, 12, .inr (.inr (.inr (.inr (zx_rf (b0 + (k + 2)) 1 7))))))) F hE hO hP hz (zc_Packet_ctor lc G b0 (k + 9) (va_up (f) (k + 1) (.inl (G.2 5, 12, .inr (.inr (.inr (.inr (zx_rf (b0 + (k + 2)) 1 7))))))) ((va_up_ne _ _ (zx_ne (a := 9) (b := 1) (by decide))).trans ((h2 7 (by decide))))) zk_Packet_ctor za_Packet_ctor rfl wl_End_21 ⟨rfl, rfl, Nat.le_of_ble_eq_true rfl, Nat.le_of_ble_eq_true rfl⟩ hl.1 rfl (Nat.le_of_ble_eq_true rfl) ⟨Nat.le_of_ble_eq_true rfl, Nat.le_of_ble_eq_true rfl⟩ dd_End_ctor_35) hS (fun q h => Nat.le_trans (zx_leK (k := k) (a := 9)) h) (cells' := 9) (slots' := 68) rfl rfl (fun H locs (hP : va_P G.1 zw_cl (zw_l b0 (k + 10) (va_up (f) (k + 1) (.inl (G.2 5, 12, .inr (.inr (.inr (.inr (zx_rf (b0 + (k + 2)) 1 7)))))))) H) (hz : H.size = b0 + (k + 10)) _ hS => ?_)
  refine zx_ast (k := k + 10) (f := va_up (f) (k + 1) (.inl (G.2 5, 12, .inr (.inr (.inr (.inr (zx_rf (b0 + (k + 2)) 1 7))))))) (x := k + 1) (y := k + 9) (z := 5) (j := 7) F hE hP hz hS (zx_lt (a := 1) (b := 10) (by decide)) (zx_leK (k := k) (a := 1)) (va_up_self _ _ _) rfl (zx_lt (a := 9) (b := 10) (by decide)) ((va_up_ne _ _ (zx_ne (a := 9) (b := 1) (by decide))).trans ((h2 7 (by decide)))) rfl (by decide) (by decide) rfl dd_End_ctor_38 (fun H locs hP (hz : H.size = b0 + (k + 10)) hS => ?_)
  rw [zx_rfs (n := 7) (n' := 8) (zx_rv (k := k) (a := 2) (m := 9) (by decide)) rfl] at hP
  rw [zx_uu (α := va_E) (a := k + 1)] at hP
  refine lv_iinc F.1 F.2.1 dd_End_ctor_39 hl (k := 0) rfl (v := nI 8) (by decide) (by decide) (lv' := [(1, .int (nI 8)), (0, .ref (b0 + k))]) rfl (fun ls hl => ?_)
  refine lv_goto F.1 F.2.1 dd_End_ctor_42 (tgt := 20) rfl ?_
  refine lv_iload_n F.1 F.2.1 dd_End_ctor_20 rfl (lv_at hl 0 rfl) ?_
  refine lv_bipush (v := nI 12) F.1 F.2.1 dd_End_ctor_21 (by decide) ?_
  refine zn_cge F dd_End_ctor_23 (tgt := 45) rfl (by decide) (by decide) (fun h => absurd h (by decide)) (fun h => ?_)
  refine lv_aload_n F.1 F.2.1 dd_End_ctor_26 rfl (lv_at hl 1 rfl) ?_
  refine zw_gF (n := k + 10) (f := va_up (f) (k + 1) (.inl (G.2 5, 12, .inr (.inr (.inr (.inr (zx_rf (b0 + (k + 2)) 1 8))))))) (x := k) F hE hP (zx_lt0 (b := 10) (by decide)) ((va_up_ne _ _ (zx_neL (b := 1) (by decide))).trans (h0)) rfl zi_End 0 (by decide) rfl wf_End_11 rfl dd_End_ctor_27 ?_
  refine W.eq (g2 := F0 m 30 ls [.ref (b0 + (k + 1))]) rfl ?_
  refine lv_iload_n F.1 F.2.1 dd_End_ctor_30 rfl (lv_at hl 0 rfl) ?_
  refine zx_new (k := k + 10) (f := va_up (f) (k + 1) (.inl (G.2 5, 12, .inr (.inr (.inr (.inr (zx_rf (b0 + (k + 2)) 1 8))))))) (fs := [.int 0, .int 0, .int 0, .int 0, .int 0, .int 0, .int 0]) zy_Packet F hE hP hz hS rfl zi_Packet zj_Packet wq_End_9 wi_Packet wj_Packet zx_fs_Packet (Nat.le_of_ble_eq_true rfl) (Nat.le_of_ble_eq_true rfl) dd_End_ctor_31 (cells' := 10) (slots' := 75) rfl rfl (fun H (hP : va_P G.1 zw_cl (zw_l b0 (k + 11) (va_up (va_up (f) (k + 1) (.inl (G.2 5, 12, .inr (.inr (.inr (.inr (zx_rf (b0 + (k + 2)) 1 8))))))) (k + 10) (.inr (6, [.int 0, .int 0, .int 0, .int 0, .int 0, .int 0, .int 0])))) H) (hz : H.size = b0 + (k + 11)) hS => ?_)
  refine lv_dup F.1 F.2.1 dd_End_ctor_34 rfl ?_
  refine zx_go (k := k + 10) (n := 1) (f := va_up (f) (k + 1) (.inl (G.2 5, 12, .inr (.inr (.inr (.inr (zx_rf (b0 + (k + 2)) 1 8))))))) (zx_runN (k := k + 10) (f := va_up (f) (k + 1) (.inl (G.2 5, 12, .inr (.inr (.inr (.inr (zx_rf (b0 + (k + 2)) 1 8))))))) F hE hO hP hz (zc_Packet_ctor lc G b0 (k + 10) (va_up (f) (k + 1) (.inl (G.2 5, 12, .inr (.inr (.inr (.inr (zx_rf (b0 + (k + 2)) 1 8))))))) ((va_up_ne _ _ (zx_ne (a := 10) (b := 1) (by decide))).trans ((h2 8 (by decide))))) zk_Packet_ctor za_Packet_ctor rfl wl_End_21 ⟨rfl, rfl, Nat.le_of_ble_eq_true rfl, Nat.le_of_ble_eq_true rfl⟩ hl.1 rfl (Nat.le_of_ble_eq_true rfl) ⟨Nat.le_of_ble_eq_true rfl, Nat.le_of_ble_eq_true rfl⟩ dd_End_ctor_35) hS (fun q h => Nat.le_trans (zx_leK (k := k) (a := 10)) h) (cells' := 10) (slots' := 75) rfl rfl (fun H locs (hP : va_P G.1 zw_cl (zw_l b0 (k + 11) (va_up (f) (k + 1) (.inl (G.2 5, 12, .inr (.inr (.inr (.inr (zx_rf (b0 + (k + 2)) 1 8)))))))) H) (hz : H.size = b0 + (k + 11)) _ hS => ?_)
  refine zx_ast (k := k + 11) (f := va_up (f) (k + 1) (.inl (G.2 5, 12, .inr (.inr (.inr (.inr (zx_rf (b0 + (k + 2)) 1 8))))))) (x := k + 1) (y := k + 10) (z := 5) (j := 8) F hE hP hz hS (zx_lt (a := 1) (b := 11) (by decide)) (zx_leK (k := k) (a := 1)) (va_up_self _ _ _) rfl (zx_lt (a := 10) (b := 11) (by decide)) ((va_up_ne _ _ (zx_ne (a := 10) (b := 1) (by decide))).trans ((h2 8 (by decide)))) rfl (by decide) (by decide) rfl dd_End_ctor_38 (fun H locs hP (hz : H.size = b0 + (k + 11)) hS => ?_)
  rw [zx_rfs (n := 8) (n' := 9) (zx_rv (k := k) (a := 2) (m := 10) (by decide)) rfl] at hP
  rw [zx_uu (α := va_E) (a := k + 1)] at hP
  refine lv_iinc F.1 F.2.1 dd_End_ctor_39 hl (k := 0) rfl (v := nI 9) (by decide) (by decide) (lv' := [(1, .int (nI 9)), (0, .ref (b0 + k))]) rfl (fun ls hl => ?_)
  refine lv_goto F.1 F.2.1 dd_End_ctor_42 (tgt := 20) rfl ?_
  refine lv_iload_n F.1 F.2.1 dd_End_ctor_20 rfl (lv_at hl 0 rfl) ?_
  refine lv_bipush (v := nI 12) F.1 F.2.1 dd_End_ctor_21 (by decide) ?_
  refine zn_cge F dd_End_ctor_23 (tgt := 45) rfl (by decide) (by decide) (fun h => absurd h (by decide)) (fun h => ?_)
  refine lv_aload_n F.1 F.2.1 dd_End_ctor_26 rfl (lv_at hl 1 rfl) ?_
  refine zw_gF (n := k + 11) (f := va_up (f) (k + 1) (.inl (G.2 5, 12, .inr (.inr (.inr (.inr (zx_rf (b0 + (k + 2)) 1 9))))))) (x := k) F hE hP (zx_lt0 (b := 11) (by decide)) ((va_up_ne _ _ (zx_neL (b := 1) (by decide))).trans (h0)) rfl zi_End 0 (by decide) rfl wf_End_11 rfl dd_End_ctor_27 ?_
  refine W.eq (g2 := F0 m 30 ls [.ref (b0 + (k + 1))]) rfl ?_
  refine lv_iload_n F.1 F.2.1 dd_End_ctor_30 rfl (lv_at hl 0 rfl) ?_
  refine zx_new (k := k + 11) (f := va_up (f) (k + 1) (.inl (G.2 5, 12, .inr (.inr (.inr (.inr (zx_rf (b0 + (k + 2)) 1 9))))))) (fs := [.int 0, .int 0, .int 0, .int 0, .int 0, .int 0, .int 0]) zy_Packet F hE hP hz hS rfl zi_Packet zj_Packet wq_End_9 wi_Packet wj_Packet zx_fs_Packet (Nat.le_of_ble_eq_true rfl) (Nat.le_of_ble_eq_true rfl) dd_End_ctor_31 (cells' := 11) (slots' := 82) rfl rfl (fun H (hP : va_P G.1 zw_cl (zw_l b0 (k + 12) (va_up (va_up (f) (k + 1) (.inl (G.2 5, 12, .inr (.inr (.inr (.inr (zx_rf (b0 + (k + 2)) 1 9))))))) (k + 11) (.inr (6, [.int 0, .int 0, .int 0, .int 0, .int 0, .int 0, .int 0])))) H) (hz : H.size = b0 + (k + 12)) hS => ?_)
  refine lv_dup F.1 F.2.1 dd_End_ctor_34 rfl ?_
  refine zx_go (k := k + 11) (n := 1) (f := va_up (f) (k + 1) (.inl (G.2 5, 12, .inr (.inr (.inr (.inr (zx_rf (b0 + (k + 2)) 1 9))))))) (zx_runN (k := k + 11) (f := va_up (f) (k + 1) (.inl (G.2 5, 12, .inr (.inr (.inr (.inr (zx_rf (b0 + (k + 2)) 1 9))))))) F hE hO hP hz (zc_Packet_ctor lc G b0 (k + 11) (va_up (f) (k + 1) (.inl (G.2 5, 12, .inr (.inr (.inr (.inr (zx_rf (b0 + (k + 2)) 1 9))))))) ((va_up_ne _ _ (zx_ne (a := 11) (b := 1) (by decide))).trans ((h2 9 (by decide))))) zk_Packet_ctor za_Packet_ctor rfl wl_End_21 ⟨rfl, rfl, Nat.le_of_ble_eq_true rfl, Nat.le_of_ble_eq_true rfl⟩ hl.1 rfl (Nat.le_of_ble_eq_true rfl) ⟨Nat.le_of_ble_eq_true rfl, Nat.le_of_ble_eq_true rfl⟩ dd_End_ctor_35) hS (fun q h => Nat.le_trans (zx_leK (k := k) (a := 11)) h) (cells' := 11) (slots' := 82) rfl rfl (fun H locs (hP : va_P G.1 zw_cl (zw_l b0 (k + 12) (va_up (f) (k + 1) (.inl (G.2 5, 12, .inr (.inr (.inr (.inr (zx_rf (b0 + (k + 2)) 1 9)))))))) H) (hz : H.size = b0 + (k + 12)) _ hS => ?_)
  refine zx_ast (k := k + 12) (f := va_up (f) (k + 1) (.inl (G.2 5, 12, .inr (.inr (.inr (.inr (zx_rf (b0 + (k + 2)) 1 9))))))) (x := k + 1) (y := k + 11) (z := 5) (j := 9) F hE hP hz hS (zx_lt (a := 1) (b := 12) (by decide)) (zx_leK (k := k) (a := 1)) (va_up_self _ _ _) rfl (zx_lt (a := 11) (b := 12) (by decide)) ((va_up_ne _ _ (zx_ne (a := 11) (b := 1) (by decide))).trans ((h2 9 (by decide)))) rfl (by decide) (by decide) rfl dd_End_ctor_38 (fun H locs hP (hz : H.size = b0 + (k + 12)) hS => ?_)
  rw [zx_rfs (n := 9) (n' := 10) (zx_rv (k := k) (a := 2) (m := 11) (by decide)) rfl] at hP
  rw [zx_uu (α := va_E) (a := k + 1)] at hP
  refine lv_iinc F.1 F.2.1 dd_End_ctor_39 hl (k := 0) rfl (v := nI 10) (by decide) (by decide) (lv' := [(1, .int (nI 10)), (0, .ref (b0 + k))]) rfl (fun ls hl => ?_)
  refine lv_goto F.1 F.2.1 dd_End_ctor_42 (tgt := 20) rfl ?_
  refine lv_iload_n F.1 F.2.1 dd_End_ctor_20 rfl (lv_at hl 0 rfl) ?_
  refine lv_bipush (v := nI 12) F.1 F.2.1 dd_End_ctor_21 (by decide) ?_
  refine zn_cge F dd_End_ctor_23 (tgt := 45) rfl (by decide) (by decide) (fun h => absurd h (by decide)) (fun h => ?_)
  refine lv_aload_n F.1 F.2.1 dd_End_ctor_26 rfl (lv_at hl 1 rfl) ?_
  refine zw_gF (n := k + 12) (f := va_up (f) (k + 1) (.inl (G.2 5, 12, .inr (.inr (.inr (.inr (zx_rf (b0 + (k + 2)) 1 10))))))) (x := k) F hE hP (zx_lt0 (b := 12) (by decide)) ((va_up_ne _ _ (zx_neL (b := 1) (by decide))).trans (h0)) rfl zi_End 0 (by decide) rfl wf_End_11 rfl dd_End_ctor_27 ?_
  refine W.eq (g2 := F0 m 30 ls [.ref (b0 + (k + 1))]) rfl ?_
  refine lv_iload_n F.1 F.2.1 dd_End_ctor_30 rfl (lv_at hl 0 rfl) ?_
  refine zx_new (k := k + 12) (f := va_up (f) (k + 1) (.inl (G.2 5, 12, .inr (.inr (.inr (.inr (zx_rf (b0 + (k + 2)) 1 10))))))) (fs := [.int 0, .int 0, .int 0, .int 0, .int 0, .int 0, .int 0]) zy_Packet F hE hP hz hS rfl zi_Packet zj_Packet wq_End_9 wi_Packet wj_Packet zx_fs_Packet (Nat.le_of_ble_eq_true rfl) (Nat.le_of_ble_eq_true rfl) dd_End_ctor_31 (cells' := 12) (slots' := 89) rfl rfl (fun H (hP : va_P G.1 zw_cl (zw_l b0 (k + 13) (va_up (va_up (f) (k + 1) (.inl (G.2 5, 12, .inr (.inr (.inr (.inr (zx_rf (b0 + (k + 2)) 1 10))))))) (k + 12) (.inr (6, [.int 0, .int 0, .int 0, .int 0, .int 0, .int 0, .int 0])))) H) (hz : H.size = b0 + (k + 13)) hS => ?_)
  refine lv_dup F.1 F.2.1 dd_End_ctor_34 rfl ?_
  refine zx_go (k := k + 12) (n := 1) (f := va_up (f) (k + 1) (.inl (G.2 5, 12, .inr (.inr (.inr (.inr (zx_rf (b0 + (k + 2)) 1 10))))))) (zx_runN (k := k + 12) (f := va_up (f) (k + 1) (.inl (G.2 5, 12, .inr (.inr (.inr (.inr (zx_rf (b0 + (k + 2)) 1 10))))))) F hE hO hP hz (zc_Packet_ctor lc G b0 (k + 12) (va_up (f) (k + 1) (.inl (G.2 5, 12, .inr (.inr (.inr (.inr (zx_rf (b0 + (k + 2)) 1 10))))))) ((va_up_ne _ _ (zx_ne (a := 12) (b := 1) (by decide))).trans ((h2 10 (by decide))))) zk_Packet_ctor za_Packet_ctor rfl wl_End_21 ⟨rfl, rfl, Nat.le_of_ble_eq_true rfl, Nat.le_of_ble_eq_true rfl⟩ hl.1 rfl (Nat.le_of_ble_eq_true rfl) ⟨Nat.le_of_ble_eq_true rfl, Nat.le_of_ble_eq_true rfl⟩ dd_End_ctor_35) hS (fun q h => Nat.le_trans (zx_leK (k := k) (a := 12)) h) (cells' := 12) (slots' := 89) rfl rfl (fun H locs (hP : va_P G.1 zw_cl (zw_l b0 (k + 13) (va_up (f) (k + 1) (.inl (G.2 5, 12, .inr (.inr (.inr (.inr (zx_rf (b0 + (k + 2)) 1 10)))))))) H) (hz : H.size = b0 + (k + 13)) _ hS => ?_)
  refine zx_ast (k := k + 13) (f := va_up (f) (k + 1) (.inl (G.2 5, 12, .inr (.inr (.inr (.inr (zx_rf (b0 + (k + 2)) 1 10))))))) (x := k + 1) (y := k + 12) (z := 5) (j := 10) F hE hP hz hS (zx_lt (a := 1) (b := 13) (by decide)) (zx_leK (k := k) (a := 1)) (va_up_self _ _ _) rfl (zx_lt (a := 12) (b := 13) (by decide)) ((va_up_ne _ _ (zx_ne (a := 12) (b := 1) (by decide))).trans ((h2 10 (by decide)))) rfl (by decide) (by decide) rfl dd_End_ctor_38 (fun H locs hP (hz : H.size = b0 + (k + 13)) hS => ?_)
  rw [zx_rfs (n := 10) (n' := 11) (zx_rv (k := k) (a := 2) (m := 12) (by decide)) rfl] at hP
  rw [zx_uu (α := va_E) (a := k + 1)] at hP
  refine lv_iinc F.1 F.2.1 dd_End_ctor_39 hl (k := 0) rfl (v := nI 11) (by decide) (by decide) (lv' := [(1, .int (nI 11)), (0, .ref (b0 + k))]) rfl (fun ls hl => ?_)
  refine lv_goto F.1 F.2.1 dd_End_ctor_42 (tgt := 20) rfl ?_
  refine lv_iload_n F.1 F.2.1 dd_End_ctor_20 rfl (lv_at hl 0 rfl) ?_
  refine lv_bipush (v := nI 12) F.1 F.2.1 dd_End_ctor_21 (by decide) ?_
  refine zn_cge F dd_End_ctor_23 (tgt := 45) rfl (by decide) (by decide) (fun h => absurd h (by decide)) (fun h => ?_)
  refine lv_aload_n F.1 F.2.1 dd_End_ctor_26 rfl (lv_at hl 1 rfl) ?_
  refine zw_gF (n := k + 13) (f := va_up (f) (k + 1) (.inl (G.2 5, 12, .inr (.inr (.inr (.inr (zx_rf (b0 + (k + 2)) 1 11))))))) (x := k) F hE hP (zx_lt0 (b := 13) (by decide)) ((va_up_ne _ _ (zx_neL (b := 1) (by decide))).trans (h0)) rfl zi_End 0 (by decide) rfl wf_End_11 rfl dd_End_ctor_27 ?_
  refine W.eq (g2 := F0 m 30 ls [.ref (b0 + (k + 1))]) rfl ?_
  refine lv_iload_n F.1 F.2.1 dd_End_ctor_30 rfl (lv_at hl 0 rfl) ?_
  refine zx_new (k := k + 13) (f := va_up (f) (k + 1) (.inl (G.2 5, 12, .inr (.inr (.inr (.inr (zx_rf (b0 + (k + 2)) 1 11))))))) (fs := [.int 0, .int 0, .int 0, .int 0, .int 0, .int 0, .int 0]) zy_Packet F hE hP hz hS rfl zi_Packet zj_Packet wq_End_9 wi_Packet wj_Packet zx_fs_Packet (Nat.le_of_ble_eq_true rfl) (Nat.le_of_ble_eq_true rfl) dd_End_ctor_31 (cells' := 13) (slots' := 96) rfl rfl (fun H (hP : va_P G.1 zw_cl (zw_l b0 (k + 14) (va_up (va_up (f) (k + 1) (.inl (G.2 5, 12, .inr (.inr (.inr (.inr (zx_rf (b0 + (k + 2)) 1 11))))))) (k + 13) (.inr (6, [.int 0, .int 0, .int 0, .int 0, .int 0, .int 0, .int 0])))) H) (hz : H.size = b0 + (k + 14)) hS => ?_)
  refine lv_dup F.1 F.2.1 dd_End_ctor_34 rfl ?_
  refine zx_go (k := k + 13) (n := 1) (f := va_up (f) (k + 1) (.inl (G.2 5, 12, .inr (.inr (.inr (.inr (zx_rf (b0 + (k + 2)) 1 11))))))) (zx_runN (k := k + 13) (f := va_up (f) (k + 1) (.inl (G.2 5, 12, .inr (.inr (.inr (.inr (zx_rf (b0 + (k + 2)) 1 11))))))) F hE hO hP hz (zc_Packet_ctor lc G b0 (k + 13) (va_up (f) (k + 1) (.inl (G.2 5, 12, .inr (.inr (.inr (.inr (zx_rf (b0 + (k + 2)) 1 11))))))) ((va_up_ne _ _ (zx_ne (a := 13) (b := 1) (by decide))).trans ((h2 11 (by decide))))) zk_Packet_ctor za_Packet_ctor rfl wl_End_21 ⟨rfl, rfl, Nat.le_of_ble_eq_true rfl, Nat.le_of_ble_eq_true rfl⟩ hl.1 rfl (Nat.le_of_ble_eq_true rfl) ⟨Nat.le_of_ble_eq_true rfl, Nat.le_of_ble_eq_true rfl⟩ dd_End_ctor_35) hS (fun q h => Nat.le_trans (zx_leK (k := k) (a := 13)) h) (cells' := 13) (slots' := 96) rfl rfl (fun H locs (hP : va_P G.1 zw_cl (zw_l b0 (k + 14) (va_up (f) (k + 1) (.inl (G.2 5, 12, .inr (.inr (.inr (.inr (zx_rf (b0 + (k + 2)) 1 11)))))))) H) (hz : H.size = b0 + (k + 14)) _ hS => ?_)
  refine zx_ast (k := k + 14) (f := va_up (f) (k + 1) (.inl (G.2 5, 12, .inr (.inr (.inr (.inr (zx_rf (b0 + (k + 2)) 1 11))))))) (x := k + 1) (y := k + 13) (z := 5) (j := 11) F hE hP hz hS (zx_lt (a := 1) (b := 14) (by decide)) (zx_leK (k := k) (a := 1)) (va_up_self _ _ _) rfl (zx_lt (a := 13) (b := 14) (by decide)) ((va_up_ne _ _ (zx_ne (a := 13) (b := 1) (by decide))).trans ((h2 11 (by decide)))) rfl (by decide) (by decide) rfl dd_End_ctor_38 (fun H locs hP (hz : H.size = b0 + (k + 14)) hS => ?_)
  rw [zx_rfs (n := 11) (n' := 12) (zx_rv (k := k) (a := 2) (m := 13) (by decide)) rfl] at hP
  rw [zx_uu (α := va_E) (a := k + 1)] at hP
  have hP := zx_refs (x := k + 1) (g' := g) hP (va_up_self _ _ _) (fun j hj => by
      have hj : j < 12 := hj
      rw [hg j hj]
      show (if j < 12 then some (b0 + (k + 2) + 1 * j) else none) = _
      rw [if_pos hj]
      exact congrArg some (by omega))
  rw [zx_uu (α := va_E) (a := k + 1)] at hP
  rw [zx_id (α := va_E) (f := f) (a := k + 1) (e := .inl (G.2 5, 12, .inr (.inr (.inr (.inr (g)))))) (h1)] at hP
  refine lv_iinc F.1 F.2.1 dd_End_ctor_39 hl (k := 0) rfl (v := nI 12) (by decide) (by decide) (lv' := [(1, .int (nI 12)), (0, .ref (b0 + k))]) rfl (fun ls hl => ?_)
  refine lv_goto F.1 F.2.1 dd_End_ctor_42 (tgt := 20) rfl ?_
  refine lv_iload_n F.1 F.2.1 dd_End_ctor_20 rfl (lv_at hl 0 rfl) ?_
  refine lv_bipush (v := nI 12) F.1 F.2.1 dd_End_ctor_21 (by decide) ?_
  refine zn_cge F dd_End_ctor_23 (tgt := 45) rfl (by decide) (by decide) (fun h => ?_) (fun h => absurd h (by decide))
  exact zx_vret (k := k) (n := 14) F hr hlk hP hz hS rfl (fun _ _ => rfl) dd_End_ctor_45
set_option maxHeartbeats 4000000 in
set_option maxRecDepth 100000 in
theorem zc_Bank_ctor (lc : Launch) (G : zw_G) (b0 : Nat) (k : Nat) (g g' : Nat → Option Nat) (f : Nat → va_E) (h0 : f k = .inr (4, [.ref (b0 + (k + 1)), .ref (b0 + (k + 6)), .ref (b0 + (k + 10)), .ref (b0 + (k + 11)), .int 0])) (h1 : f (k + 1) = .inl (G.2 6, 4, .inr (.inr (.inr (.inr (g)))))) (h2 : ∀ j, j < 4 → f (k + (2 + j)) = .inl (G.2 0, 6, .inl (upd (fun _ => 0) 0 (nI 1000)))) (h6 : f (k + 6) = .inl (G.2 6, 3, .inr (.inr (.inr (.inr (g')))))) (h7 : ∀ j, j < 3 → f (k + (7 + j)) = .inl (G.2 0, 6, .inl (fun _ => 0))) (h10 : f (k + 10) = .inl (G.2 0, 6, .inl (fun _ => 0))) (h11 : f (k + 11) = .inl (G.2 0, 6, .inl (fun _ => 0))) (hg : ∀ j, j < 4 → g j = some (b0 + (k + (2 + j)))) (hg' : ∀ j, j < 3 → g' j = some (b0 + (k + (7 + j)))) : zx_M lc ym_Bank_ctor bm_Bank_ctor 2 { frames := 1, cells := 11, slots := 61, locals := 24 } G b0 (k) 12 (.inr (4, [.null, .null, .null, .null, .int 0])) f [.ref (b0 + k)] 11 61 := by
  refine zx_of (by decide) (Nat.le_of_ble_eq_true rfl) rfl ?_
  intro p e s m below meth cx ls F hr hlk hin2 hE hO hP hz hS hl
  have zsz : b0 + (k) ≤ s.heap.size := by rw [hz]; exact (zx_leK (k := k) (a := 1))
  have hl : lv_has ls 2 [(0, .ref (b0 + k))] := hl
  refine lv_aload_n F.1 F.2.1 dd_Bank_ctor_0 rfl (lv_at hl 0 rfl) ?_
  refine W.objInit F.1 F.2.1 F.2.2.2.1 (F.2.2.2.2 _ wl_Bank_3) (F.2.2.2.2 _ wx_objI) (F.2.2.2.2 _ wx_objC) rfl (by rw [F.2.2.1]; exact hl.1) rfl dd_Bank_ctor_1 (Nat.le_of_ble_eq_true rfl) (Nat.le_of_ble_eq_true rfl) ?_
  refine W.eq (g2 := F0 m 4 ls []) rfl ?_
  refine lv_aload_n F.1 F.2.1 dd_Bank_ctor_4 rfl (lv_at hl 0 rfl) ?_
  refine lv_iconst (v := nI 4) F.1 F.2.1 dd_Bank_ctor_5 (by decide) ?_
  refine lv_bipush (v := nI 6) F.1 F.2.1 dd_Bank_ctor_6 (by decide) ?_
  refine zx_mna (k := k + 1) (f := va_up (f) (k) (.inr (4, [.null, .null, .null, .null, .int 0]))) F hE hP hz hS wq_Bank_9 hO.2.2.2.2 wx_arrI (by decide) (by decide) (N := 4) (K := 6) (by decide) (by decide) (by decide) (by decide) (Nat.le_of_ble_eq_true rfl) (Nat.le_of_ble_eq_true rfl) dd_Bank_ctor_8 (cells' := 5) (slots' := 28) rfl rfl (fun H hP (hz : H.size = b0 + (k + 6)) hS => ?_)
  have hP : va_P G.1 zw_cl (zw_l b0 (k + 6) (va_up (va_up (va_up (va_up (va_up (va_up (f) (k) (.inr (4, [.null, .null, .null, .null, .int 0]))) (k + 1) (.inl (G.2 6, 4, .inr (.inr (.inr (.inr (fun i => if i < 4 then some (b0 + (k + 1) + 1 + i) else none))))))) (k + 2) (.inl (G.2 0, 6, .inl (fun _ => 0)))) (k + 3) (.inl (G.2 0, 6, .inl (fun _ => 0)))) (k + 4) (.inl (G.2 0, 6, .inl (fun _ => 0)))) (k + 5) (.inl (G.2 0, 6, .inl (fun _ => 0))))) H := zx_cg hP (fun x hx => by
    have hx : x < k + 6 := hx
    unfold zx_mf
    by_cases h1 : x < k + 1
    · rw [if_pos h1]
      exact ((va_up_ne _ _ (by omega)).trans ((va_up_ne _ _ (by omega)).trans ((va_up_ne _ _ (by omega)).trans ((va_up_ne _ _ (by omega)).trans ((va_up_ne _ _ (by omega)).trans (rfl)))))).symm
    · rw [if_neg h1]
      by_cases h2 : x = k + 1
      · rw [if_pos h2, va_up_ne _ _ (by omega), va_up_ne _ _ (by omega), va_up_ne _ _ (by omega), va_up_ne _ _ (by omega), h2, va_up_self]
      · rw [if_neg h2]
        by_cases h3_3 : x = k + 5
        · rw [h3_3, va_up_self]
        · rw [va_up_ne _ _ h3_3]
          by_cases h3_2 : x = k + 4
          · rw [h3_2, va_up_self]
          · rw [va_up_ne _ _ h3_2]
            by_cases h3_1 : x = k + 3
            · rw [h3_1, va_up_self]
            · rw [va_up_ne _ _ h3_1]
              have h4 : x = k + 2 := by omega
              rw [h4, va_up_self])
  have hP := zx_refs (x := k + 1) (g' := g) hP ((va_up_ne _ _ (zx_ne (a := 1) (b := 5) (by decide))).trans ((va_up_ne _ _ (zx_ne (a := 1) (b := 4) (by decide))).trans ((va_up_ne _ _ (zx_ne (a := 1) (b := 3) (by decide))).trans ((va_up_ne _ _ (zx_ne (a := 1) (b := 2) (by decide))).trans (va_up_self _ _ _))))) (fun j hj => by
      have hj : j < 4 := hj
      show (if j < 4 then some (b0 + (k + 1) + 1 + j) else none) = g j
      rw [if_pos hj, hg j hj]
      exact congrArg some (by omega))
  rw [zx_uc (α := va_E) (a := k + 1) (b := k + 5) (zx_ne (a := 1) (b := 5) (by decide))] at hP
  rw [zx_uc (α := va_E) (a := k + 1) (b := k + 4) (zx_ne (a := 1) (b := 4) (by decide))] at hP
  rw [zx_uc (α := va_E) (a := k + 1) (b := k + 3) (zx_ne (a := 1) (b := 3) (by decide))] at hP
  rw [zx_uc (α := va_E) (a := k + 1) (b := k + 2) (zx_ne (a := 1) (b := 2) (by decide))] at hP
  rw [zx_uu (α := va_E) (a := k + 1)] at hP
  rw [zx_id (α := va_E) (f := va_up (f) (k) (.inr (4, [.null, .null, .null, .null, .int 0]))) (a := k + 1) (e := .inl (G.2 6, 4, .inr (.inr (.inr (.inr (g)))))) ((va_up_ne _ _ (zx_neR (b := 1) (by decide))).trans (h1))] at hP
  refine zx_pF (ty := .array (.array .int)) (k := k + 6) (f := va_up (va_up (va_up (va_up (va_up (f) (k) (.inr (4, [.null, .null, .null, .null, .int 0]))) (k + 2) (.inl (G.2 0, 6, .inl (fun _ => 0)))) (k + 3) (.inl (G.2 0, 6, .inl (fun _ => 0)))) (k + 4) (.inl (G.2 0, 6, .inl (fun _ => 0)))) (k + 5) (.inl (G.2 0, 6, .inl (fun _ => 0)))) (x := k) F hE hP hz hS (fun q _ h => Or.elim h (fun z => Nat.le_trans zsz z) id) (zx_lt0 (b := 6) (by decide)) (Nat.le_refl _) ((va_up_ne _ _ (zx_neL (b := 5) (by decide))).trans ((va_up_ne _ _ (zx_neL (b := 4) (by decide))).trans ((va_up_ne _ _ (zx_neL (b := 3) (by decide))).trans ((va_up_ne _ _ (zx_neL (b := 2) (by decide))).trans (va_up_self _ _ _))))) rfl zi_Bank zy_Bank zj_Bank zl_Bank 0 (by decide) rfl rfl hin2 rfl wf_Bank_11 (by decide +kernel) rfl rfl (Nat.le_of_ble_eq_true rfl) dd_Bank_ctor_12 (fun H locs hP (hz : H.size = b0 + (k + 6)) hS => ?_)
  have hP : va_P G.1 zw_cl (zw_l b0 (k + 6) (va_up (va_up (va_up (va_up (va_up (va_up (f) (k) (.inr (4, [.null, .null, .null, .null, .int 0]))) (k + 2) (.inl (G.2 0, 6, .inl (fun _ => 0)))) (k + 3) (.inl (G.2 0, 6, .inl (fun _ => 0)))) (k + 4) (.inl (G.2 0, 6, .inl (fun _ => 0)))) (k + 5) (.inl (G.2 0, 6, .inl (fun _ => 0)))) (k) (.inr (4, [.ref (b0 + (k + 1)), .null, .null, .null, .int 0])))) H := hP
  rw [zx_uc (α := va_E) (a := k) (b := k + 5) (zx_neL (b := 5) (by decide))] at hP
  rw [zx_uc (α := va_E) (a := k) (b := k + 4) (zx_neL (b := 4) (by decide))] at hP
  rw [zx_uc (α := va_E) (a := k) (b := k + 3) (zx_neL (b := 3) (by decide))] at hP
  rw [zx_uc (α := va_E) (a := k) (b := k + 2) (zx_neL (b := 2) (by decide))] at hP
  rw [zx_uu (α := va_E) (a := k)] at hP
  refine W.eq (g2 := F0 m 15 ls []) rfl ?_
  refine lv_aload_n F.1 F.2.1 dd_Bank_ctor_15 rfl (lv_at hl 0 rfl) ?_
  refine lv_iconst (v := nI 3) F.1 F.2.1 dd_Bank_ctor_16 (by decide) ?_
  refine lv_bipush (v := nI 6) F.1 F.2.1 dd_Bank_ctor_17 (by decide) ?_
  refine zx_mna (k := k + 6) (f := va_up (va_up (va_up (va_up (va_up (f) (k) (.inr (4, [.ref (b0 + (k + 1)), .null, .null, .null, .int 0]))) (k + 2) (.inl (G.2 0, 6, .inl (fun _ => 0)))) (k + 3) (.inl (G.2 0, 6, .inl (fun _ => 0)))) (k + 4) (.inl (G.2 0, 6, .inl (fun _ => 0)))) (k + 5) (.inl (G.2 0, 6, .inl (fun _ => 0)))) F hE hP hz hS wq_Bank_9 hO.2.2.2.2 wx_arrI (by decide) (by decide) (N := 3) (K := 6) (by decide) (by decide) (by decide) (by decide) (Nat.le_of_ble_eq_true rfl) (Nat.le_of_ble_eq_true rfl) dd_Bank_ctor_19 (cells' := 9) (slots' := 49) rfl rfl (fun H hP (hz : H.size = b0 + (k + 10)) hS => ?_)
  have hP : va_P G.1 zw_cl (zw_l b0 (k + 10) (va_up (va_up (va_up (va_up (va_up (va_up (va_up (va_up (va_up (f) (k) (.inr (4, [.ref (b0 + (k + 1)), .null, .null, .null, .int 0]))) (k + 2) (.inl (G.2 0, 6, .inl (fun _ => 0)))) (k + 3) (.inl (G.2 0, 6, .inl (fun _ => 0)))) (k + 4) (.inl (G.2 0, 6, .inl (fun _ => 0)))) (k + 5) (.inl (G.2 0, 6, .inl (fun _ => 0)))) (k + 6) (.inl (G.2 6, 3, .inr (.inr (.inr (.inr (fun i => if i < 3 then some (b0 + (k + 6) + 1 + i) else none))))))) (k + 7) (.inl (G.2 0, 6, .inl (fun _ => 0)))) (k + 8) (.inl (G.2 0, 6, .inl (fun _ => 0)))) (k + 9) (.inl (G.2 0, 6, .inl (fun _ => 0))))) H := zx_cg hP (fun x hx => by
    have hx : x < k + 10 := hx
    unfold zx_mf
    by_cases h1 : x < k + 6
    · rw [if_pos h1]
      exact ((va_up_ne _ _ (by omega)).trans ((va_up_ne _ _ (by omega)).trans ((va_up_ne _ _ (by omega)).trans ((va_up_ne _ _ (by omega)).trans (rfl))))).symm
    · rw [if_neg h1]
      by_cases h2 : x = k + 6
      · rw [if_pos h2, va_up_ne _ _ (by omega), va_up_ne _ _ (by omega), va_up_ne _ _ (by omega), h2, va_up_self]
      · rw [if_neg h2]
        by_cases h3_2 : x = k + 9
        · rw [h3_2, va_up_self]
        · rw [va_up_ne _ _ h3_2]
          by_cases h3_1 : x = k + 8
          · rw [h3_1, va_up_self]
          · rw [va_up_ne _ _ h3_1]
            have h4 : x = k + 7 := by omega
            rw [h4, va_up_self])
  have hP := zx_refs (x := k + 6) (g' := g') hP ((va_up_ne _ _ (zx_ne (a := 6) (b := 9) (by decide))).trans ((va_up_ne _ _ (zx_ne (a := 6) (b := 8) (by decide))).trans ((va_up_ne _ _ (zx_ne (a := 6) (b := 7) (by decide))).trans (va_up_self _ _ _)))) (fun j hj => by
      have hj : j < 3 := hj
      show (if j < 3 then some (b0 + (k + 6) + 1 + j) else none) = g' j
      rw [if_pos hj, hg' j hj]
      exact congrArg some (by omega))
  rw [zx_uc (α := va_E) (a := k + 6) (b := k + 9) (zx_ne (a := 6) (b := 9) (by decide))] at hP
  rw [zx_uc (α := va_E) (a := k + 6) (b := k + 8) (zx_ne (a := 6) (b := 8) (by decide))] at hP
  rw [zx_uc (α := va_E) (a := k + 6) (b := k + 7) (zx_ne (a := 6) (b := 7) (by decide))] at hP
  rw [zx_uu (α := va_E) (a := k + 6)] at hP
  rw [zx_id (α := va_E) (f := va_up (va_up (va_up (va_up (va_up (f) (k) (.inr (4, [.ref (b0 + (k + 1)), .null, .null, .null, .int 0]))) (k + 2) (.inl (G.2 0, 6, .inl (fun _ => 0)))) (k + 3) (.inl (G.2 0, 6, .inl (fun _ => 0)))) (k + 4) (.inl (G.2 0, 6, .inl (fun _ => 0)))) (k + 5) (.inl (G.2 0, 6, .inl (fun _ => 0)))) (a := k + 6) (e := .inl (G.2 6, 3, .inr (.inr (.inr (.inr (g')))))) ((va_up_ne _ _ (zx_ne (a := 6) (b := 5) (by decide))).trans ((va_up_ne _ _ (zx_ne (a := 6) (b := 4) (by decide))).trans ((va_up_ne _ _ (zx_ne (a := 6) (b := 3) (by decide))).trans ((va_up_ne _ _ (zx_ne (a := 6) (b := 2) (by decide))).trans ((va_up_ne _ _ (zx_neR (b := 6) (by decide))).trans (h6))))))] at hP
  rw [zx_id (α := va_E) (f := va_up (va_up (va_up (va_up (va_up (f) (k) (.inr (4, [.ref (b0 + (k + 1)), .null, .null, .null, .int 0]))) (k + 2) (.inl (G.2 0, 6, .inl (fun _ => 0)))) (k + 3) (.inl (G.2 0, 6, .inl (fun _ => 0)))) (k + 4) (.inl (G.2 0, 6, .inl (fun _ => 0)))) (k + 5) (.inl (G.2 0, 6, .inl (fun _ => 0)))) (a := k + 7) (e := .inl (G.2 0, 6, .inl (fun _ => 0))) ((va_up_ne _ _ (zx_ne (a := 7) (b := 5) (by decide))).trans ((va_up_ne _ _ (zx_ne (a := 7) (b := 4) (by decide))).trans ((va_up_ne _ _ (zx_ne (a := 7) (b := 3) (by decide))).trans ((va_up_ne _ _ (zx_ne (a := 7) (b := 2) (by decide))).trans ((va_up_ne _ _ (zx_neR (b := 7) (by decide))).trans ((h7 0 (by decide))))))))] at hP
  rw [zx_id (α := va_E) (f := va_up (va_up (va_up (va_up (va_up (f) (k) (.inr (4, [.ref (b0 + (k + 1)), .null, .null, .null, .int 0]))) (k + 2) (.inl (G.2 0, 6, .inl (fun _ => 0)))) (k + 3) (.inl (G.2 0, 6, .inl (fun _ => 0)))) (k + 4) (.inl (G.2 0, 6, .inl (fun _ => 0)))) (k + 5) (.inl (G.2 0, 6, .inl (fun _ => 0)))) (a := k + 8) (e := .inl (G.2 0, 6, .inl (fun _ => 0))) ((va_up_ne _ _ (zx_ne (a := 8) (b := 5) (by decide))).trans ((va_up_ne _ _ (zx_ne (a := 8) (b := 4) (by decide))).trans ((va_up_ne _ _ (zx_ne (a := 8) (b := 3) (by decide))).trans ((va_up_ne _ _ (zx_ne (a := 8) (b := 2) (by decide))).trans ((va_up_ne _ _ (zx_neR (b := 8) (by decide))).trans ((h7 1 (by decide))))))))] at hP
  rw [zx_id (α := va_E) (f := va_up (va_up (va_up (va_up (va_up (f) (k) (.inr (4, [.ref (b0 + (k + 1)), .null, .null, .null, .int 0]))) (k + 2) (.inl (G.2 0, 6, .inl (fun _ => 0)))) (k + 3) (.inl (G.2 0, 6, .inl (fun _ => 0)))) (k + 4) (.inl (G.2 0, 6, .inl (fun _ => 0)))) (k + 5) (.inl (G.2 0, 6, .inl (fun _ => 0)))) (a := k + 9) (e := .inl (G.2 0, 6, .inl (fun _ => 0))) ((va_up_ne _ _ (zx_ne (a := 9) (b := 5) (by decide))).trans ((va_up_ne _ _ (zx_ne (a := 9) (b := 4) (by decide))).trans ((va_up_ne _ _ (zx_ne (a := 9) (b := 3) (by decide))).trans ((va_up_ne _ _ (zx_ne (a := 9) (b := 2) (by decide))).trans ((va_up_ne _ _ (zx_neR (b := 9) (by decide))).trans ((h7 2 (by decide))))))))] at hP
  refine zx_pF (ty := .array (.array .int)) (k := k + 10) (f := va_up (va_up (va_up (va_up (va_up (f) (k) (.inr (4, [.ref (b0 + (k + 1)), .null, .null, .null, .int 0]))) (k + 2) (.inl (G.2 0, 6, .inl (fun _ => 0)))) (k + 3) (.inl (G.2 0, 6, .inl (fun _ => 0)))) (k + 4) (.inl (G.2 0, 6, .inl (fun _ => 0)))) (k + 5) (.inl (G.2 0, 6, .inl (fun _ => 0)))) (x := k) F hE hP hz hS (fun q _ h => Or.elim h (fun z => Nat.le_trans zsz z) id) (zx_lt0 (b := 10) (by decide)) (Nat.le_refl _) ((va_up_ne _ _ (zx_neL (b := 5) (by decide))).trans ((va_up_ne _ _ (zx_neL (b := 4) (by decide))).trans ((va_up_ne _ _ (zx_neL (b := 3) (by decide))).trans ((va_up_ne _ _ (zx_neL (b := 2) (by decide))).trans (va_up_self _ _ _))))) rfl zi_Bank zy_Bank zj_Bank zl_Bank 1 (by decide) rfl rfl hin2 rfl wf_Bank_16 (by decide +kernel) rfl rfl (Nat.le_of_ble_eq_true rfl) dd_Bank_ctor_23 (fun H locs hP (hz : H.size = b0 + (k + 10)) hS => ?_)
  have hP : va_P G.1 zw_cl (zw_l b0 (k + 10) (va_up (va_up (va_up (va_up (va_up (va_up (f) (k) (.inr (4, [.ref (b0 + (k + 1)), .null, .null, .null, .int 0]))) (k + 2) (.inl (G.2 0, 6, .inl (fun _ => 0)))) (k + 3) (.inl (G.2 0, 6, .inl (fun _ => 0)))) (k + 4) (.inl (G.2 0, 6, .inl (fun _ => 0)))) (k + 5) (.inl (G.2 0, 6, .inl (fun _ => 0)))) (k) (.inr (4, [.ref (b0 + (k + 1)), .ref (b0 + (k + 6)), .null, .null, .int 0])))) H := hP
  rw [zx_uc (α := va_E) (a := k) (b := k + 5) (zx_neL (b := 5) (by decide))] at hP
  rw [zx_uc (α := va_E) (a := k) (b := k + 4) (zx_neL (b := 4) (by decide))] at hP
  rw [zx_uc (α := va_E) (a := k) (b := k + 3) (zx_neL (b := 3) (by decide))] at hP
  rw [zx_uc (α := va_E) (a := k) (b := k + 2) (zx_neL (b := 2) (by decide))] at hP
  rw [zx_uu (α := va_E) (a := k)] at hP
  refine W.eq (g2 := F0 m 26 ls []) rfl ?_
  refine lv_aload_n F.1 F.2.1 dd_Bank_ctor_26 rfl (lv_at hl 0 rfl) ?_
  refine lv_bipush (v := nI 6) F.1 F.2.1 dd_Bank_ctor_27 (by decide) ?_
  refine zx_newi (k := k + 10) (f := va_up (va_up (va_up (va_up (va_up (f) (k) (.inr (4, [.ref (b0 + (k + 1)), .ref (b0 + (k + 6)), .null, .null, .int 0]))) (k + 2) (.inl (G.2 0, 6, .inl (fun _ => 0)))) (k + 3) (.inl (G.2 0, 6, .inl (fun _ => 0)))) (k + 4) (.inl (G.2 0, 6, .inl (fun _ => 0)))) (k + 5) (.inl (G.2 0, 6, .inl (fun _ => 0)))) F hE hP hz hS wx_arrI (by decide) (N := 6) (by decide) (by decide) (Nat.le_of_ble_eq_true rfl) (Nat.le_of_ble_eq_true rfl) dd_Bank_ctor_29 (cells' := 10) (slots' := 55) rfl rfl (fun H (hP : va_P G.1 zw_cl (zw_l b0 (k + 11) (va_up (va_up (va_up (va_up (va_up (va_up (f) (k) (.inr (4, [.ref (b0 + (k + 1)), .ref (b0 + (k + 6)), .null, .null, .int 0]))) (k + 2) (.inl (G.2 0, 6, .inl (fun _ => 0)))) (k + 3) (.inl (G.2 0, 6, .inl (fun _ => 0)))) (k + 4) (.inl (G.2 0, 6, .inl (fun _ => 0)))) (k + 5) (.inl (G.2 0, 6, .inl (fun _ => 0)))) (k + 10) (.inl (G.2 0, 6, .inl (fun _ => 0))))) H) (hz : H.size = b0 + (k + 11)) hS => ?_)
  rw [zx_id (α := va_E) (f := va_up (va_up (va_up (va_up (va_up (f) (k) (.inr (4, [.ref (b0 + (k + 1)), .ref (b0 + (k + 6)), .null, .null, .int 0]))) (k + 2) (.inl (G.2 0, 6, .inl (fun _ => 0)))) (k + 3) (.inl (G.2 0, 6, .inl (fun _ => 0)))) (k + 4) (.inl (G.2 0, 6, .inl (fun _ => 0)))) (k + 5) (.inl (G.2 0, 6, .inl (fun _ => 0)))) (a := k + 10) (e := .inl (G.2 0, 6, .inl (fun _ => 0))) ((va_up_ne _ _ (zx_ne (a := 10) (b := 5) (by decide))).trans ((va_up_ne _ _ (zx_ne (a := 10) (b := 4) (by decide))).trans ((va_up_ne _ _ (zx_ne (a := 10) (b := 3) (by decide))).trans ((va_up_ne _ _ (zx_ne (a := 10) (b := 2) (by decide))).trans ((va_up_ne _ _ (zx_neR (b := 10) (by decide))).trans (h10))))))] at hP
  refine zx_pF (ty := .array .int) (k := k + 11) (f := va_up (va_up (va_up (va_up (va_up (f) (k) (.inr (4, [.ref (b0 + (k + 1)), .ref (b0 + (k + 6)), .null, .null, .int 0]))) (k + 2) (.inl (G.2 0, 6, .inl (fun _ => 0)))) (k + 3) (.inl (G.2 0, 6, .inl (fun _ => 0)))) (k + 4) (.inl (G.2 0, 6, .inl (fun _ => 0)))) (k + 5) (.inl (G.2 0, 6, .inl (fun _ => 0)))) (x := k) F hE hP hz hS (fun q _ h => Or.elim h (fun z => Nat.le_trans zsz z) id) (zx_lt0 (b := 11) (by decide)) (Nat.le_refl _) ((va_up_ne _ _ (zx_neL (b := 5) (by decide))).trans ((va_up_ne _ _ (zx_neL (b := 4) (by decide))).trans ((va_up_ne _ _ (zx_neL (b := 3) (by decide))).trans ((va_up_ne _ _ (zx_neL (b := 2) (by decide))).trans (va_up_self _ _ _))))) rfl zi_Bank zy_Bank zj_Bank zl_Bank 2 (by decide) rfl rfl hin2 rfl wf_Bank_19 (by decide +kernel) rfl rfl (Nat.le_of_ble_eq_true rfl) dd_Bank_ctor_31 (fun H locs hP (hz : H.size = b0 + (k + 11)) hS => ?_)
  have hP : va_P G.1 zw_cl (zw_l b0 (k + 11) (va_up (va_up (va_up (va_up (va_up (va_up (f) (k) (.inr (4, [.ref (b0 + (k + 1)), .ref (b0 + (k + 6)), .null, .null, .int 0]))) (k + 2) (.inl (G.2 0, 6, .inl (fun _ => 0)))) (k + 3) (.inl (G.2 0, 6, .inl (fun _ => 0)))) (k + 4) (.inl (G.2 0, 6, .inl (fun _ => 0)))) (k + 5) (.inl (G.2 0, 6, .inl (fun _ => 0)))) (k) (.inr (4, [.ref (b0 + (k + 1)), .ref (b0 + (k + 6)), .ref (b0 + (k + 10)), .null, .int 0])))) H := hP
  rw [zx_uc (α := va_E) (a := k) (b := k + 5) (zx_neL (b := 5) (by decide))] at hP
  rw [zx_uc (α := va_E) (a := k) (b := k + 4) (zx_neL (b := 4) (by decide))] at hP
  rw [zx_uc (α := va_E) (a := k) (b := k + 3) (zx_neL (b := 3) (by decide))] at hP
  rw [zx_uc (α := va_E) (a := k) (b := k + 2) (zx_neL (b := 2) (by decide))] at hP
  rw [zx_uu (α := va_E) (a := k)] at hP
  refine W.eq (g2 := F0 m 34 ls []) rfl ?_
  refine lv_aload_n F.1 F.2.1 dd_Bank_ctor_34 rfl (lv_at hl 0 rfl) ?_
  refine lv_bipush (v := nI 6) F.1 F.2.1 dd_Bank_ctor_35 (by decide) ?_
  refine zx_newi (k := k + 11) (f := va_up (va_up (va_up (va_up (va_up (f) (k) (.inr (4, [.ref (b0 + (k + 1)), .ref (b0 + (k + 6)), .ref (b0 + (k + 10)), .null, .int 0]))) (k + 2) (.inl (G.2 0, 6, .inl (fun _ => 0)))) (k + 3) (.inl (G.2 0, 6, .inl (fun _ => 0)))) (k + 4) (.inl (G.2 0, 6, .inl (fun _ => 0)))) (k + 5) (.inl (G.2 0, 6, .inl (fun _ => 0)))) F hE hP hz hS wx_arrI (by decide) (N := 6) (by decide) (by decide) (Nat.le_of_ble_eq_true rfl) (Nat.le_of_ble_eq_true rfl) dd_Bank_ctor_37 (cells' := 11) (slots' := 61) rfl rfl (fun H (hP : va_P G.1 zw_cl (zw_l b0 (k + 12) (va_up (va_up (va_up (va_up (va_up (va_up (f) (k) (.inr (4, [.ref (b0 + (k + 1)), .ref (b0 + (k + 6)), .ref (b0 + (k + 10)), .null, .int 0]))) (k + 2) (.inl (G.2 0, 6, .inl (fun _ => 0)))) (k + 3) (.inl (G.2 0, 6, .inl (fun _ => 0)))) (k + 4) (.inl (G.2 0, 6, .inl (fun _ => 0)))) (k + 5) (.inl (G.2 0, 6, .inl (fun _ => 0)))) (k + 11) (.inl (G.2 0, 6, .inl (fun _ => 0))))) H) (hz : H.size = b0 + (k + 12)) hS => ?_)
  rw [zx_id (α := va_E) (f := va_up (va_up (va_up (va_up (va_up (f) (k) (.inr (4, [.ref (b0 + (k + 1)), .ref (b0 + (k + 6)), .ref (b0 + (k + 10)), .null, .int 0]))) (k + 2) (.inl (G.2 0, 6, .inl (fun _ => 0)))) (k + 3) (.inl (G.2 0, 6, .inl (fun _ => 0)))) (k + 4) (.inl (G.2 0, 6, .inl (fun _ => 0)))) (k + 5) (.inl (G.2 0, 6, .inl (fun _ => 0)))) (a := k + 11) (e := .inl (G.2 0, 6, .inl (fun _ => 0))) ((va_up_ne _ _ (zx_ne (a := 11) (b := 5) (by decide))).trans ((va_up_ne _ _ (zx_ne (a := 11) (b := 4) (by decide))).trans ((va_up_ne _ _ (zx_ne (a := 11) (b := 3) (by decide))).trans ((va_up_ne _ _ (zx_ne (a := 11) (b := 2) (by decide))).trans ((va_up_ne _ _ (zx_neR (b := 11) (by decide))).trans (h11))))))] at hP
  refine zx_pF (ty := .array .int) (k := k + 12) (f := va_up (va_up (va_up (va_up (va_up (f) (k) (.inr (4, [.ref (b0 + (k + 1)), .ref (b0 + (k + 6)), .ref (b0 + (k + 10)), .null, .int 0]))) (k + 2) (.inl (G.2 0, 6, .inl (fun _ => 0)))) (k + 3) (.inl (G.2 0, 6, .inl (fun _ => 0)))) (k + 4) (.inl (G.2 0, 6, .inl (fun _ => 0)))) (k + 5) (.inl (G.2 0, 6, .inl (fun _ => 0)))) (x := k) F hE hP hz hS (fun q _ h => Or.elim h (fun z => Nat.le_trans zsz z) id) (zx_lt0 (b := 12) (by decide)) (Nat.le_refl _) ((va_up_ne _ _ (zx_neL (b := 5) (by decide))).trans ((va_up_ne _ _ (zx_neL (b := 4) (by decide))).trans ((va_up_ne _ _ (zx_neL (b := 3) (by decide))).trans ((va_up_ne _ _ (zx_neL (b := 2) (by decide))).trans (va_up_self _ _ _))))) rfl zi_Bank zy_Bank zj_Bank zl_Bank 3 (by decide) rfl rfl hin2 rfl wf_Bank_23 (by decide +kernel) rfl rfl (Nat.le_of_ble_eq_true rfl) dd_Bank_ctor_39 (fun H locs hP (hz : H.size = b0 + (k + 12)) hS => ?_)
  have hP : va_P G.1 zw_cl (zw_l b0 (k + 12) (va_up (va_up (va_up (va_up (va_up (va_up (f) (k) (.inr (4, [.ref (b0 + (k + 1)), .ref (b0 + (k + 6)), .ref (b0 + (k + 10)), .null, .int 0]))) (k + 2) (.inl (G.2 0, 6, .inl (fun _ => 0)))) (k + 3) (.inl (G.2 0, 6, .inl (fun _ => 0)))) (k + 4) (.inl (G.2 0, 6, .inl (fun _ => 0)))) (k + 5) (.inl (G.2 0, 6, .inl (fun _ => 0)))) (k) (.inr (4, [.ref (b0 + (k + 1)), .ref (b0 + (k + 6)), .ref (b0 + (k + 10)), .ref (b0 + (k + 11)), .int 0])))) H := hP
  rw [zx_uc (α := va_E) (a := k) (b := k + 5) (zx_neL (b := 5) (by decide))] at hP
  rw [zx_uc (α := va_E) (a := k) (b := k + 4) (zx_neL (b := 4) (by decide))] at hP
  rw [zx_uc (α := va_E) (a := k) (b := k + 3) (zx_neL (b := 3) (by decide))] at hP
  rw [zx_uc (α := va_E) (a := k) (b := k + 2) (zx_neL (b := 2) (by decide))] at hP
  rw [zx_uu (α := va_E) (a := k)] at hP
  refine W.eq (g2 := F0 m 42 ls []) rfl ?_
  rw [zx_id (α := va_E) (f := f) (a := k) (e := .inr (4, [.ref (b0 + (k + 1)), .ref (b0 + (k + 6)), .ref (b0 + (k + 10)), .ref (b0 + (k + 11)), .int 0])) (h0)] at hP
  refine lv_iconst (v := nI 0) F.1 F.2.1 dd_Bank_ctor_42 (by decide) ?_
  refine lv_istore_n F.1 F.2.1 dd_Bank_ctor_43 rfl hl (by decide) (lv' := [(1, .int (nI 0)), (0, .ref (b0 + k))]) rfl (fun ls hl => ?_)
  refine lv_iload_n F.1 F.2.1 dd_Bank_ctor_44 rfl (lv_at hl 0 rfl) ?_
  refine lv_iconst (v := nI 4) F.1 F.2.1 dd_Bank_ctor_45 (by decide) ?_
  refine zn_cge F dd_Bank_ctor_46 (tgt := 66) rfl (by decide) (by decide) (fun h => absurd h (by decide)) (fun h => ?_)
  refine lv_aload_n F.1 F.2.1 dd_Bank_ctor_49 rfl (lv_at hl 1 rfl) ?_
  refine zw_gF (n := k + 12) (f := va_up (va_up (va_up (va_up (f) (k + 2) (.inl (G.2 0, 6, .inl (fun _ => 0)))) (k + 3) (.inl (G.2 0, 6, .inl (fun _ => 0)))) (k + 4) (.inl (G.2 0, 6, .inl (fun _ => 0)))) (k + 5) (.inl (G.2 0, 6, .inl (fun _ => 0)))) (x := k) F hE hP (zx_lt0 (b := 12) (by decide)) ((va_up_ne _ _ (zx_neL (b := 5) (by decide))).trans ((va_up_ne _ _ (zx_neL (b := 4) (by decide))).trans ((va_up_ne _ _ (zx_neL (b := 3) (by decide))).trans ((va_up_ne _ _ (zx_neL (b := 2) (by decide))).trans (h0))))) rfl zi_Bank 0 (by decide) rfl wf_Bank_11 rfl dd_Bank_ctor_50 ?_
  refine W.eq (g2 := F0 m 53 ls [.ref (b0 + (k + 1))]) rfl ?_
  refine lv_iload_n F.1 F.2.1 dd_Bank_ctor_53 rfl (lv_at hl 0 rfl) ?_
  refine zw_aald (n := k + 12) (f := va_up (va_up (va_up (va_up (f) (k + 2) (.inl (G.2 0, 6, .inl (fun _ => 0)))) (k + 3) (.inl (G.2 0, 6, .inl (fun _ => 0)))) (k + 4) (.inl (G.2 0, 6, .inl (fun _ => 0)))) (k + 5) (.inl (G.2 0, 6, .inl (fun _ => 0)))) (x := k + 1) (k := 0) (t := 6) (a := (b0 + (k + 2))) F hE hP (zx_lt (a := 1) (b := 12) (by decide)) ((va_up_ne _ _ (zx_ne (a := 1) (b := 5) (by decide))).trans ((va_up_ne _ _ (zx_ne (a := 1) (b := 4) (by decide))).trans ((va_up_ne _ _ (zx_ne (a := 1) (b := 3) (by decide))).trans ((va_up_ne _ _ (zx_ne (a := 1) (b := 2) (by decide))).trans (h1))))) rfl rfl (by decide) (by decide) (hg 0 (by decide)) dd_Bank_ctor_54 ?_
  refine lv_iconst (v := nI 0) F.1 F.2.1 dd_Bank_ctor_55 (by decide) ?_
  refine lv_sipush (v := nI 1000) F.1 F.2.1 dd_Bank_ctor_56 (by decide) ?_
  refine zx_iast (k := k + 12) (f := va_up (va_up (va_up (va_up (f) (k + 2) (.inl (G.2 0, 6, .inl (fun _ => 0)))) (k + 3) (.inl (G.2 0, 6, .inl (fun _ => 0)))) (k + 4) (.inl (G.2 0, 6, .inl (fun _ => 0)))) (k + 5) (.inl (G.2 0, 6, .inl (fun _ => 0)))) (x := k + 2) (j := 0) F hE hP hz hS (zx_lt (a := 2) (b := 12) (by decide)) (zx_leK (k := k) (a := 2)) ((va_up_ne _ _ (zx_ne (a := 2) (b := 5) (by decide))).trans ((va_up_ne _ _ (zx_ne (a := 2) (b := 4) (by decide))).trans ((va_up_ne _ _ (zx_ne (a := 2) (b := 3) (by decide))).trans (va_up_self _ _ _)))) (by decide) (by decide) dd_Bank_ctor_59 (fun H locs hP (hz : H.size = b0 + (k + 12)) hS => ?_)
  rw [zx_uc (α := va_E) (a := k + 2) (b := k + 5) (zx_ne (a := 2) (b := 5) (by decide))] at hP
  rw [zx_uc (α := va_E) (a := k + 2) (b := k + 4) (zx_ne (a := 2) (b := 4) (by decide))] at hP
  rw [zx_uc (α := va_E) (a := k + 2) (b := k + 3) (zx_ne (a := 2) (b := 3) (by decide))] at hP
  rw [zx_uu (α := va_E) (a := k + 2)] at hP
  rw [zx_id (α := va_E) (f := f) (a := k + 2) (e := .inl (G.2 0, 6, .inl (upd (fun _ => 0) 0 (nI 1000)))) ((h2 0 (by decide)))] at hP
  refine lv_iinc F.1 F.2.1 dd_Bank_ctor_60 hl (k := 0) rfl (v := nI 1) (by decide) (by decide) (lv' := [(1, .int (nI 1)), (0, .ref (b0 + k))]) rfl (fun ls hl => ?_)
  refine lv_goto F.1 F.2.1 dd_Bank_ctor_63 (tgt := 44) rfl ?_
  refine lv_iload_n F.1 F.2.1 dd_Bank_ctor_44 rfl (lv_at hl 0 rfl) ?_
  refine lv_iconst (v := nI 4) F.1 F.2.1 dd_Bank_ctor_45 (by decide) ?_
  refine zn_cge F dd_Bank_ctor_46 (tgt := 66) rfl (by decide) (by decide) (fun h => absurd h (by decide)) (fun h => ?_)
  refine lv_aload_n F.1 F.2.1 dd_Bank_ctor_49 rfl (lv_at hl 1 rfl) ?_
  refine zw_gF (n := k + 12) (f := va_up (va_up (va_up (f) (k + 3) (.inl (G.2 0, 6, .inl (fun _ => 0)))) (k + 4) (.inl (G.2 0, 6, .inl (fun _ => 0)))) (k + 5) (.inl (G.2 0, 6, .inl (fun _ => 0)))) (x := k) F hE hP (zx_lt0 (b := 12) (by decide)) ((va_up_ne _ _ (zx_neL (b := 5) (by decide))).trans ((va_up_ne _ _ (zx_neL (b := 4) (by decide))).trans ((va_up_ne _ _ (zx_neL (b := 3) (by decide))).trans (h0)))) rfl zi_Bank 0 (by decide) rfl wf_Bank_11 rfl dd_Bank_ctor_50 ?_
  refine W.eq (g2 := F0 m 53 ls [.ref (b0 + (k + 1))]) rfl ?_
  refine lv_iload_n F.1 F.2.1 dd_Bank_ctor_53 rfl (lv_at hl 0 rfl) ?_
  refine zw_aald (n := k + 12) (f := va_up (va_up (va_up (f) (k + 3) (.inl (G.2 0, 6, .inl (fun _ => 0)))) (k + 4) (.inl (G.2 0, 6, .inl (fun _ => 0)))) (k + 5) (.inl (G.2 0, 6, .inl (fun _ => 0)))) (x := k + 1) (k := 1) (t := 6) (a := (b0 + (k + 3))) F hE hP (zx_lt (a := 1) (b := 12) (by decide)) ((va_up_ne _ _ (zx_ne (a := 1) (b := 5) (by decide))).trans ((va_up_ne _ _ (zx_ne (a := 1) (b := 4) (by decide))).trans ((va_up_ne _ _ (zx_ne (a := 1) (b := 3) (by decide))).trans (h1)))) rfl rfl (by decide) (by decide) (hg 1 (by decide)) dd_Bank_ctor_54 ?_
  refine lv_iconst (v := nI 0) F.1 F.2.1 dd_Bank_ctor_55 (by decide) ?_
  refine lv_sipush (v := nI 1000) F.1 F.2.1 dd_Bank_ctor_56 (by decide) ?_
  refine zx_iast (k := k + 12) (f := va_up (va_up (va_up (f) (k + 3) (.inl (G.2 0, 6, .inl (fun _ => 0)))) (k + 4) (.inl (G.2 0, 6, .inl (fun _ => 0)))) (k + 5) (.inl (G.2 0, 6, .inl (fun _ => 0)))) (x := k + 3) (j := 0) F hE hP hz hS (zx_lt (a := 3) (b := 12) (by decide)) (zx_leK (k := k) (a := 3)) ((va_up_ne _ _ (zx_ne (a := 3) (b := 5) (by decide))).trans ((va_up_ne _ _ (zx_ne (a := 3) (b := 4) (by decide))).trans (va_up_self _ _ _))) (by decide) (by decide) dd_Bank_ctor_59 (fun H locs hP (hz : H.size = b0 + (k + 12)) hS => ?_)
  rw [zx_uc (α := va_E) (a := k + 3) (b := k + 5) (zx_ne (a := 3) (b := 5) (by decide))] at hP
  rw [zx_uc (α := va_E) (a := k + 3) (b := k + 4) (zx_ne (a := 3) (b := 4) (by decide))] at hP
  rw [zx_uu (α := va_E) (a := k + 3)] at hP
  rw [zx_id (α := va_E) (f := f) (a := k + 3) (e := .inl (G.2 0, 6, .inl (upd (fun _ => 0) 0 (nI 1000)))) ((h2 1 (by decide)))] at hP
  refine lv_iinc F.1 F.2.1 dd_Bank_ctor_60 hl (k := 0) rfl (v := nI 2) (by decide) (by decide) (lv' := [(1, .int (nI 2)), (0, .ref (b0 + k))]) rfl (fun ls hl => ?_)
  refine lv_goto F.1 F.2.1 dd_Bank_ctor_63 (tgt := 44) rfl ?_
  refine lv_iload_n F.1 F.2.1 dd_Bank_ctor_44 rfl (lv_at hl 0 rfl) ?_
  refine lv_iconst (v := nI 4) F.1 F.2.1 dd_Bank_ctor_45 (by decide) ?_
  refine zn_cge F dd_Bank_ctor_46 (tgt := 66) rfl (by decide) (by decide) (fun h => absurd h (by decide)) (fun h => ?_)
  refine lv_aload_n F.1 F.2.1 dd_Bank_ctor_49 rfl (lv_at hl 1 rfl) ?_
  refine zw_gF (n := k + 12) (f := va_up (va_up (f) (k + 4) (.inl (G.2 0, 6, .inl (fun _ => 0)))) (k + 5) (.inl (G.2 0, 6, .inl (fun _ => 0)))) (x := k) F hE hP (zx_lt0 (b := 12) (by decide)) ((va_up_ne _ _ (zx_neL (b := 5) (by decide))).trans ((va_up_ne _ _ (zx_neL (b := 4) (by decide))).trans (h0))) rfl zi_Bank 0 (by decide) rfl wf_Bank_11 rfl dd_Bank_ctor_50 ?_
  refine W.eq (g2 := F0 m 53 ls [.ref (b0 + (k + 1))]) rfl ?_
  refine lv_iload_n F.1 F.2.1 dd_Bank_ctor_53 rfl (lv_at hl 0 rfl) ?_
  refine zw_aald (n := k + 12) (f := va_up (va_up (f) (k + 4) (.inl (G.2 0, 6, .inl (fun _ => 0)))) (k + 5) (.inl (G.2 0, 6, .inl (fun _ => 0)))) (x := k + 1) (k := 2) (t := 6) (a := (b0 + (k + 4))) F hE hP (zx_lt (a := 1) (b := 12) (by decide)) ((va_up_ne _ _ (zx_ne (a := 1) (b := 5) (by decide))).trans ((va_up_ne _ _ (zx_ne (a := 1) (b := 4) (by decide))).trans (h1))) rfl rfl (by decide) (by decide) (hg 2 (by decide)) dd_Bank_ctor_54 ?_
  refine lv_iconst (v := nI 0) F.1 F.2.1 dd_Bank_ctor_55 (by decide) ?_
  refine lv_sipush (v := nI 1000) F.1 F.2.1 dd_Bank_ctor_56 (by decide) ?_
  refine zx_iast (k := k + 12) (f := va_up (va_up (f) (k + 4) (.inl (G.2 0, 6, .inl (fun _ => 0)))) (k + 5) (.inl (G.2 0, 6, .inl (fun _ => 0)))) (x := k + 4) (j := 0) F hE hP hz hS (zx_lt (a := 4) (b := 12) (by decide)) (zx_leK (k := k) (a := 4)) ((va_up_ne _ _ (zx_ne (a := 4) (b := 5) (by decide))).trans (va_up_self _ _ _)) (by decide) (by decide) dd_Bank_ctor_59 (fun H locs hP (hz : H.size = b0 + (k + 12)) hS => ?_)
  rw [zx_uc (α := va_E) (a := k + 4) (b := k + 5) (zx_ne (a := 4) (b := 5) (by decide))] at hP
  rw [zx_uu (α := va_E) (a := k + 4)] at hP
  rw [zx_id (α := va_E) (f := f) (a := k + 4) (e := .inl (G.2 0, 6, .inl (upd (fun _ => 0) 0 (nI 1000)))) ((h2 2 (by decide)))] at hP
  refine lv_iinc F.1 F.2.1 dd_Bank_ctor_60 hl (k := 0) rfl (v := nI 3) (by decide) (by decide) (lv' := [(1, .int (nI 3)), (0, .ref (b0 + k))]) rfl (fun ls hl => ?_)
  refine lv_goto F.1 F.2.1 dd_Bank_ctor_63 (tgt := 44) rfl ?_
  refine lv_iload_n F.1 F.2.1 dd_Bank_ctor_44 rfl (lv_at hl 0 rfl) ?_
  refine lv_iconst (v := nI 4) F.1 F.2.1 dd_Bank_ctor_45 (by decide) ?_
  refine zn_cge F dd_Bank_ctor_46 (tgt := 66) rfl (by decide) (by decide) (fun h => absurd h (by decide)) (fun h => ?_)
  refine lv_aload_n F.1 F.2.1 dd_Bank_ctor_49 rfl (lv_at hl 1 rfl) ?_
  refine zw_gF (n := k + 12) (f := va_up (f) (k + 5) (.inl (G.2 0, 6, .inl (fun _ => 0)))) (x := k) F hE hP (zx_lt0 (b := 12) (by decide)) ((va_up_ne _ _ (zx_neL (b := 5) (by decide))).trans (h0)) rfl zi_Bank 0 (by decide) rfl wf_Bank_11 rfl dd_Bank_ctor_50 ?_
  refine W.eq (g2 := F0 m 53 ls [.ref (b0 + (k + 1))]) rfl ?_
  refine lv_iload_n F.1 F.2.1 dd_Bank_ctor_53 rfl (lv_at hl 0 rfl) ?_
  refine zw_aald (n := k + 12) (f := va_up (f) (k + 5) (.inl (G.2 0, 6, .inl (fun _ => 0)))) (x := k + 1) (k := 3) (t := 6) (a := (b0 + (k + 5))) F hE hP (zx_lt (a := 1) (b := 12) (by decide)) ((va_up_ne _ _ (zx_ne (a := 1) (b := 5) (by decide))).trans (h1)) rfl rfl (by decide) (by decide) (hg 3 (by decide)) dd_Bank_ctor_54 ?_
  refine lv_iconst (v := nI 0) F.1 F.2.1 dd_Bank_ctor_55 (by decide) ?_
  refine lv_sipush (v := nI 1000) F.1 F.2.1 dd_Bank_ctor_56 (by decide) ?_
  refine zx_iast (k := k + 12) (f := va_up (f) (k + 5) (.inl (G.2 0, 6, .inl (fun _ => 0)))) (x := k + 5) (j := 0) F hE hP hz hS (zx_lt (a := 5) (b := 12) (by decide)) (zx_leK (k := k) (a := 5)) (va_up_self _ _ _) (by decide) (by decide) dd_Bank_ctor_59 (fun H locs hP (hz : H.size = b0 + (k + 12)) hS => ?_)
  rw [zx_uu (α := va_E) (a := k + 5)] at hP
  rw [zx_id (α := va_E) (f := f) (a := k + 5) (e := .inl (G.2 0, 6, .inl (upd (fun _ => 0) 0 (nI 1000)))) ((h2 3 (by decide)))] at hP
  refine lv_iinc F.1 F.2.1 dd_Bank_ctor_60 hl (k := 0) rfl (v := nI 4) (by decide) (by decide) (lv' := [(1, .int (nI 4)), (0, .ref (b0 + k))]) rfl (fun ls hl => ?_)
  refine lv_goto F.1 F.2.1 dd_Bank_ctor_63 (tgt := 44) rfl ?_
  refine lv_iload_n F.1 F.2.1 dd_Bank_ctor_44 rfl (lv_at hl 0 rfl) ?_
  refine lv_iconst (v := nI 4) F.1 F.2.1 dd_Bank_ctor_45 (by decide) ?_
  refine zn_cge F dd_Bank_ctor_46 (tgt := 66) rfl (by decide) (by decide) (fun h => ?_) (fun h => absurd h (by decide))
  exact zx_vret (k := k) (n := 12) F hr hlk hP hz hS rfl (fun _ _ => rfl) dd_Bank_ctor_66
