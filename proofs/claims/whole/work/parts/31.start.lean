set_option maxHeartbeats 4000000 in
set_option maxRecDepth 100000 in
theorem zh_start {p : Program} {e : Env} {s : State} {m : MethodId} {below : List Frame} {meth : Method} {c : Code} {args : Array Value} {R : Room} {Q : State → Prop} {ls : Array Slot} (l : Launch) {b L : Nat} {xs : Nat → Int32} (hL : L ≤ 3073) (F : CallFix p m c code 4 s args zw_WS "TwinLedgersLaw") {G : zw_G} (hE : zw_E G s) (hO : zx_O s) (hX : va_X b L xs s s.heap) (hbl : b < s.heap.size) (hR : 8 ≤ R.frames ∧ 207 ≤ R.locals) (hcs : 202 ≤ R.cells ∧ 13224 ≤ R.slots) (hl : lv_has ls 4 [(0, .ref b)]) (kk : ∀ (ls : Array Slot) (H : Heap) (locs : List Loc), va_S (fun q => s.heap.size ≤ q) s.heap H locs → W p l e R s m args below meth c H locs 202 13224 Q (F0 m 1072 ls [])) : W p l e R s m args below meth c s.heap [] 0 0 Q (F0 m 0 ls []) := by
  have hbA : ¬ s.heap.size ≤ b := by omega
  have hS : va_S (fun q => s.heap.size ≤ q) s.heap s.heap [] := va_S.rf
  have hP0 : va_P G.1 zw_cl (zw_l s.heap.size 0 (zp_p G s.heap.size (zs_0 (zs_pt (zg_0 L xs))))) s.heap := fun k q hk => absurd hk (by simp [zw_l])
  refine zx_new (ci := 0) (C := "TwinLedgers") (Tb := zf_TL) (N := 2) (fs := [.int 0, .null]) (cells' := 1) (slots' := 2) zy_TL F hE hP0 rfl hS rfl zi_TL zj_TL wq_Law_7 wi_TL wj_TL (fun j hj => by rcases (show j = 0 ∨ j = 1 by omega) with rfl | rfl <;> rfl) (by omega) (by omega) dd_Law_law_0 rfl rfl (fun H hP hz hS => ?_)
  refine lv_dup F.1 F.2.1 dd_Law_law_3 rfl ?_
  refine lv_aload_n F.1 F.2.1 dd_Law_law_4 rfl (lv_at hl 0 rfl) ?_
  refine lv_iconst (v := nI 0) F.1 F.2.1 dd_Law_law_5 (by decide) ?_
  refine zg_callcell F hX hbl hbA (by omega) hS hl.1 hR (by omega) (Nat.le_of_ble_eq_true rfl) wl_Law_9 dd_Law_law_6 (fun H1 locs hz1 hq hS => ?_)
  have hP1 := hP.kept (H1 := H1) (fun k q hk => hq q.1 (hP k q hk).lt)
  refine zx_go (cells' := 176) (slots' := 6164) (zx_run F hE hO hP1 (hz1.trans hz) (zc_TL_ctor l G s.heap.size (zg_0 L xs) _ (fun q _ => rfl)) zk_TL_ctor za_TL_ctor rfl wl_Law_15 ⟨rfl, rfl, by show 4 + 1 ≤ R.frames; omega, by show 8 + (3 + 11) + 86 ≤ R.locals; omega⟩ hl.1 rfl (Nat.le_of_ble_eq_true rfl) (by omega) dd_Law_law_9) hS (fun q h => by omega) rfl rfl (fun H locs hP hz _ hS => ?_)
  refine lv_astore_n F.1 F.2.1 dd_Law_law_12 rfl hl (by decide) (lv' := [(1, .ref (s.heap.size + 0)), (0, .ref b)]) rfl (fun ls hl => ?_)
  have hP : va_P G.1 zw_cl (zw_l s.heap.size 176 (zp_p G s.heap.size (zs_0 (zs_pt (zg_0 L xs))))) H := by rw [Nat.zero_add] at hP; exact hP
  have hz : H.size = s.heap.size + 176 := by rw [hz]
  have hP0 : va_P G.1 zw_cl (zw_l (s.heap.size + 176) 0 (zq_p G (s.heap.size + 176) (zt_0 (zs_pt (zg_0 L xs))))) H := fun k q hk => absurd hk (by simp [zw_l])
  refine zg_new (ci := 7) (C := "TwinLedgersModel") (Tb := zf_Mo) (N := 26) (fs := [.int 0, .null, .null, .null, .null, .null, .null, .null, .null, .null, .null, .null, .null, .null, .null, .null, .null, .null, .null, .null, .null, .null, .null, .null, .null, .null]) (cells' := 177) (slots' := 6190) zy_Mo F hE hP0 hz hS rfl zi_Mo zj_Mo wq_Law_18 wi_Mo wj_Mo (fun j hj => ?_) (by omega) (by omega) dd_Law_law_13 rfl rfl (fun H1 hP2 hz2 hS o1 => ?_)
  · revert j
    decide +kernel
  have hP : va_P G.1 zw_cl (zw_l s.heap.size 176 (zp_p G s.heap.size (zs_0 (zs_pt (zg_0 L xs))))) H1 := hP.kept (fun k q hk => by
    have hlt := (hP k q hk).lt
    exact o1 _ (by rw [hz] at hlt; exact hlt))
  refine lv_dup F.1 F.2.1 dd_Law_law_16 rfl ?_
  refine lv_aload_n F.1 F.2.1 dd_Law_law_17 rfl (lv_at hl 1 rfl) ?_
  refine lv_iconst (v := nI 0) F.1 F.2.1 dd_Law_law_18 (by decide) ?_
  refine zg_callcell F hX hbl hbA (by omega) hS hl.1 hR (by omega) (Nat.le_of_ble_eq_true rfl) wl_Law_9 dd_Law_law_19 (fun H2 locs hz3 hq hS => ?_)
  have hP := hP.kept (H1 := H2) (fun k q hk => hq q.1 (hP k q hk).lt)
  have hP3 := hP2.kept (H1 := H2) (fun k q hk => hq q.1 (hP2 k q hk).lt)
  refine zx_go (cells' := 202) (slots' := 13224) (zx_run F hE hO hP3 (hz3.trans hz2) (zc_Mo_ctor l G (s.heap.size + 176) (zg_0 L xs) _ (fun q _ => rfl)) zk_Mo_ctor za_Mo_ctor rfl wl_Law_20 ⟨rfl, rfl, by show 1 + 1 ≤ R.frames; omega, by show 8 + (4 + 11) + 24 ≤ R.locals; omega⟩ hl.1 rfl (Nat.le_of_ble_eq_true rfl) (by omega) dd_Law_law_22) hS (fun q h => by omega) rfl rfl (fun H3 locs hP4 hz4 hq hS => ?_)
  have hP : va_P G.1 zw_cl (zw_l s.heap.size 176 (zp_p G s.heap.size (zs_0 (zs_pt (zg_0 L xs))))) H3 := hP.kept (fun k q hk => by
    have hlt := (hP k q hk).lt
    obtain ⟨hk2, rfl⟩ := zw_some hk
    exact hq _ (by show s.heap.size + k < s.heap.size + 176 + 0; omega) hlt)
  have hP4 : va_P G.1 zw_cl (zw_l (s.heap.size + 176) 26 (zq_p G (s.heap.size + 176) (zt_0 (zs_pt (zg_0 L xs))))) H3 := by rw [Nat.zero_add] at hP4; exact hP4
  refine lv_astore_n F.1 F.2.1 dd_Law_law_25 rfl hl (by decide) (lv' := [(2, .ref (s.heap.size + 176 + 0)), (1, .ref (s.heap.size + 0)), (0, .ref b)]) rfl (fun ls hl => ?_)
  refine lv_iconst (v := nI 1) F.1 F.2.1 dd_Law_law_26 (by decide) ?_
  refine lv_istore_n F.1 F.2.1 dd_Law_law_27 rfl hl (by decide) (lv' := zg_lv (1 + 6 * 0) (s.heap.size + 176) s.heap.size b) rfl (fun ls hl => ?_)
  exact zh_loop F hE hX hbl hbA hL hR hcs rfl (fun q h => h) kk 512 0 _ _ H3 locs ls (by omega) zl_start hP hP4 hS hl
