def zs_mPS (i c : Nat) (h : Int32) (T : zs_T) (j : Nat) : Nat → zs_T
  | 0 => T
  | r + 1 => zs_mPS i c h (zu_Mo_receive T i c j h (nI 0)) (j + 1) r
def zs_mPM (i c : Nat) (h : Int32) (T : zs_T) (j v : Nat) : Nat → Nat
  | 0 => v
  | r + 1 => zs_mPM i c h (zu_Mo_receive T i c j h (nI 0)) (j + 1) (if zr_Mo_receive T i c j h (nI 0) < 0 then v else v + 1) r
theorem zs_mPSs {i c j r : Nat} {h : Int32} {T : zs_T} : zs_mPS i c h T j (r + 1) = zs_mPS i c h (zu_Mo_receive T i c j h (nI 0)) (j + 1) r := rfl
theorem zs_mPMs {i c j v r : Nat} {h : Int32} {T : zs_T} : zs_mPM i c h T j v (r + 1) = zs_mPM i c h (zu_Mo_receive T i c j h (nI 0)) (j + 1) (if zr_Mo_receive T i c j h (nI 0) < 0 then v else v + 1) r := rfl
theorem zs_mPJ {i c : Nat} {h : Int32} (hi : i < 2) (hc : c < 3) : ∀ (r j : Nat) (T : zs_T), j + r ≤ 12 → zs_J T → zs_J (zs_mPS i c h T j r)
  | 0, _, _, _, h => h
  | r + 1, j, T, hj, h => zs_mPJ hi hc r (j + 1) _ (by omega) (zs_JrP hi hc (by omega) h)
theorem zs_mPMle {i c : Nat} {h : Int32} : ∀ (r : Nat) (T : zs_T) (j v : Nat), zs_mPM i c h T j v r ≤ v + r
  | 0, _, _, _ => Nat.le_refl _
  | r + 1, T, j, v => by
    rw [zs_mPMs]
    have a := zs_mPMle (i := i) (c := c) (h := h) r (zu_Mo_receive T i c j h (nI 0)) (j + 1) (if zr_Mo_receive T i c j h (nI 0) < 0 then v else v + 1)
    split at a <;> split <;> first | omega | contradiction
set_option maxHeartbeats 4000000 in
set_option maxRecDepth 100000 in
theorem zl_Mo_relay0 {p : Program} {e : Env} {R : Room} {s : State} {m : MethodId} {below : List Frame} {meth : Method} {cx : Code} {av : Array Value} {Qf : State → Prop} (lc : Launch) (G : zw_G) (b0 : Nat) (i c n : Nat) (h : Int32) (hi : i < 2) (hc : c < 3) (hn : n ≤ 12) (hR : 6 ≤ R.frames ∧ 150 ≤ R.locals) (F : CallFix p m cx bm_Mo_relay 9 s av zw_WS "TwinLedgersModel") (hE : zw_E G s) : ∀ (r j v : Nat) (T : zs_T), j + r = n → zs_J T → T 9 (3 * (1 - i) + c) = nI n → (∀ (ls : Array Slot) (H : Heap) (locs : List Loc), lv_has ls 9 [(7, .int (nI (n + 1))), (6, .int (nI n)), (5, .int (nI c)), (4, .int (nI (zs_mPM i c h T j v r))), (0, .ref (b0 + 0)), (1, .int (nI i)), (2, .int h), (3, .int (nI 0))] → va_P G.1 zw_cl (zw_l b0 26 (zq_p G b0 (zs_mPS i c h T j r))) H → va_S (zw_A b0 26) s.heap H locs → W p lc e R s m av below meth cx H locs 0 0 Qf (F0 m 116 ls [])) → ∀ (ls : Array Slot) (H : Heap) (locs : List Loc), lv_has ls 9 [(7, .int (nI (j + 1))), (6, .int (nI n)), (5, .int (nI c)), (4, .int (nI v)), (0, .ref (b0 + 0)), (1, .int (nI i)), (2, .int h), (3, .int (nI 0))] → va_P G.1 zw_cl (zw_l b0 26 (zq_p G b0 T)) H → va_S (zw_A b0 26) s.heap H locs → W p lc e R s m av below meth cx H locs 0 0 Qf (F0 m 38 ls []) := by
  intro r
  induction r with
  | zero =>
    intro j v T hj hJ hs kk ls H locs hl hP hS
    obtain rfl : j = n := by omega
    refine lv_iload F.1 F.2.1 dd_Mo_relay_38 (lv_at hl 0 rfl) ?_
    refine lv_iload F.1 F.2.1 dd_Mo_relay_40 (lv_at hl 1 rfl) ?_
    refine zn_cgt F dd_Mo_relay_42 (tgt := 116) rfl (by omega) (by omega) (fun h42 => ?_) (fun h42 => absurd (show j < j + 1 by omega) h42)
    exact kk ls H locs (lv_sub hl [0, 1, 2, 3, 4, 5, 6, 7] rfl) hP hS
  | succ r ih =>
    intro j v T hj hJ hs kk ls H locs hl hP hS
    rw [zs_mPSs, zs_mPMs] at kk
    refine lv_iload F.1 F.2.1 dd_Mo_relay_38 (lv_at hl 0 rfl) ?_
    refine lv_iload F.1 F.2.1 dd_Mo_relay_40 (lv_at hl 1 rfl) ?_
    refine zn_cgt F dd_Mo_relay_42 (tgt := 116) rfl (by omega) (by omega) (fun h42 => absurd h42 (by omega)) (fun h42 => ?_)
    refine lv_iload_n F.1 F.2.1 dd_Mo_relay_45 rfl (lv_at hl 7 rfl) ?_
    refine lv_if_ne F.1 F.2.1 dd_Mo_relay_46 (tgt := 63) rfl (fun h46 => absurd h46 (by decide)) (fun h46 => ?_)
    refine lv_aload_n F.1 F.2.1 dd_Mo_relay_49 rfl (lv_at hl 4 rfl) ?_
    refine lv_iload_n F.1 F.2.1 dd_Mo_relay_50 rfl (lv_at hl 5 rfl) ?_
    refine lv_iload F.1 F.2.1 dd_Mo_relay_51 (lv_at hl 2 rfl) ?_
    refine lv_iload F.1 F.2.1 dd_Mo_relay_53 (lv_at hl 0 rfl) ?_
    refine lv_iload_n F.1 F.2.1 dd_Mo_relay_55 rfl (lv_at hl 6 rfl) ?_
    refine lv_iconst (v := nI 0) F.1 F.2.1 dd_Mo_relay_56 (by decide) ?_
    refine zw_goi (zw_rV F hE hP (zc_Mo_receive lc G b0 T i c j h (nI 0) (by first | omega | assumption) (by first | omega | assumption) (by first | omega | assumption) (by rw [hs]; exact zn_ins (by omega) (by omega) (by omega)) (zs_JM hJ (by omega)) (zs_JV hJ hi).1 (zs_JV hJ hi).2 (zs_JZ hJ)) zk_Mo_receive za_Mo_receive zb_Mo_receive wl_Mo_147 ⟨rfl, rfl, Nat.le_trans (Nat.le_of_ble_eq_true rfl) hR.1, Nat.le_trans (Nat.le_of_ble_eq_true rfl) hR.2⟩ (zm_recv hE hP rfl rfl) hl.1 rfl (Nat.le_of_ble_eq_true rfl) ⟨Nat.zero_le _, Nat.zero_le _⟩ dd_Mo_relay_57) hS (fun _ h => h) (fun H locs hP _ _ hS => ?_)
    refine lv_goto F.1 F.2.1 dd_Mo_relay_60 (tgt := 92) rfl ?_
    refine lv_istore F.1 F.2.1 dd_Mo_relay_92 hl (by decide) (lv' := [(8, .int (zr_Mo_receive T i c j h (nI 0))), (7, .int (nI (j + 1))), (6, .int (nI n)), (5, .int (nI c)), (4, .int (nI v)), (0, .ref (b0 + 0)), (1, .int (nI i)), (2, .int h), (3, .int (nI 0))]) rfl (fun ls hl => ?_)
    refine lv_iload F.1 F.2.1 dd_Mo_relay_94 (lv_at hl 0 rfl) ?_
    refine lv_if_lt F.1 F.2.1 dd_Mo_relay_96 (tgt := 106) rfl (fun h96 => ?_) (fun h96 => ?_)
    · refine lv_iload F.1 F.2.1 dd_Mo_relay_106 (lv_at hl 4 rfl) ?_
      refine lv_istore F.1 F.2.1 dd_Mo_relay_108 hl (by decide) (lv' := [(4, .int (nI v)), (8, .int (zr_Mo_receive T i c j h (nI 0))), (7, .int (nI (j + 1))), (6, .int (nI n)), (5, .int (nI c)), (0, .ref (b0 + 0)), (1, .int (nI i)), (2, .int h), (3, .int (nI 0))]) rfl (fun ls hl => ?_)
      refine lv_iinc F.1 F.2.1 dd_Mo_relay_110 hl (k := 2) rfl (v := nI (j + 1 + 1)) (nI_1 _) (by decide) (lv' := [(7, .int (nI (j + 1 + 1))), (4, .int (nI v)), (8, .int (zr_Mo_receive T i c j h (nI 0))), (6, .int (nI n)), (5, .int (nI c)), (0, .ref (b0 + 0)), (1, .int (nI i)), (2, .int h), (3, .int (nI 0))]) rfl (fun ls hl => ?_)
      refine lv_goto F.1 F.2.1 dd_Mo_relay_113 (tgt := 38) rfl ?_
      rw [if_pos h96] at kk
      exact ih (j + 1) v _ (by omega) (zs_JrP hi hc (by omega) hJ) (by rw [zs_9P]; exact hs) kk ls H locs (lv_sub hl [0, 3, 4, 1, 5, 6, 7, 8] rfl) hP hS
    · refine lv_iload F.1 F.2.1 dd_Mo_relay_99 (lv_at hl 4 rfl) ?_
      refine lv_iconst (v := nI 1) F.1 F.2.1 dd_Mo_relay_101 (by decide) ?_
      refine zn_iadd F dd_Mo_relay_102 ?_
      refine lv_goto F.1 F.2.1 dd_Mo_relay_103 (tgt := 108) rfl ?_
      refine lv_istore F.1 F.2.1 dd_Mo_relay_108 hl (by decide) (lv' := [(4, .int (nI (v + 1))), (8, .int (zr_Mo_receive T i c j h (nI 0))), (7, .int (nI (j + 1))), (6, .int (nI n)), (5, .int (nI c)), (0, .ref (b0 + 0)), (1, .int (nI i)), (2, .int h), (3, .int (nI 0))]) rfl (fun ls hl => ?_)
      refine lv_iinc F.1 F.2.1 dd_Mo_relay_110 hl (k := 2) rfl (v := nI (j + 1 + 1)) (nI_1 _) (by decide) (lv' := [(7, .int (nI (j + 1 + 1))), (4, .int (nI (v + 1))), (8, .int (zr_Mo_receive T i c j h (nI 0))), (6, .int (nI n)), (5, .int (nI c)), (0, .ref (b0 + 0)), (1, .int (nI i)), (2, .int h), (3, .int (nI 0))]) rfl (fun ls hl => ?_)
      refine lv_goto F.1 F.2.1 dd_Mo_relay_113 (tgt := 38) rfl ?_
      rw [if_neg h96] at kk
      exact ih (j + 1) (v + 1) _ (by omega) (zs_JrP hi hc (by omega) hJ) (by rw [zs_9P]; exact hs) kk ls H locs (lv_sub hl [0, 3, 4, 1, 5, 6, 7, 8] rfl) hP hS
def zs_MPS (i : Nat) (h : Int32) (T : zs_T) : zs_T := zs_mPS i 2 h (zs_mPS i 1 h (zs_mPS i 0 h T 0 (zs_n (T 9 (3 * (1 - i) + 0)))) 0 (zs_n ((zs_mPS i 0 h T 0 (zs_n (T 9 (3 * (1 - i) + 0)))) 9 (3 * (1 - i) + 1)))) 0 (zs_n ((zs_mPS i 1 h (zs_mPS i 0 h T 0 (zs_n (T 9 (3 * (1 - i) + 0)))) 0 (zs_n ((zs_mPS i 0 h T 0 (zs_n (T 9 (3 * (1 - i) + 0)))) 9 (3 * (1 - i) + 1)))) 9 (3 * (1 - i) + 2)))
def zs_MPM (i : Nat) (h : Int32) (T : zs_T) : Nat := zs_mPM i 2 h (zs_mPS i 1 h (zs_mPS i 0 h T 0 (zs_n (T 9 (3 * (1 - i) + 0)))) 0 (zs_n ((zs_mPS i 0 h T 0 (zs_n (T 9 (3 * (1 - i) + 0)))) 9 (3 * (1 - i) + 1)))) 0 (zs_mPM i 1 h (zs_mPS i 0 h T 0 (zs_n (T 9 (3 * (1 - i) + 0)))) 0 (zs_mPM i 0 h T 0 0 (zs_n (T 9 (3 * (1 - i) + 0)))) (zs_n ((zs_mPS i 0 h T 0 (zs_n (T 9 (3 * (1 - i) + 0)))) 9 (3 * (1 - i) + 1)))) (zs_n ((zs_mPS i 1 h (zs_mPS i 0 h T 0 (zs_n (T 9 (3 * (1 - i) + 0)))) 0 (zs_n ((zs_mPS i 0 h T 0 (zs_n (T 9 (3 * (1 - i) + 0)))) 9 (3 * (1 - i) + 1)))) 9 (3 * (1 - i) + 2)))
set_option maxHeartbeats 4000000 in
set_option maxRecDepth 100000 in
theorem zc_Mo_relay_w0 (lc : Launch) (G : zw_G) (b0 : Nat) (T : zs_T) (i : Nat) (h : Int32) (hi : i < 2) (hJ : zs_J T) : zw_M lc ym_Mo_relay bm_Mo_relay 9 (some .int) { frames := 6, cells := 0, slots := 0, locals := 150 } G b0 26 (zq_p G b0 T) [.ref (b0 + 0), .int (nI i), .int h, .int (nI 0)] (zw_Qi G b0 26 (zq_p G b0 (zs_MPS i h T)) (nI (zs_MPM i h T))) := by
  refine zw_of (by decide) (Nat.le_of_ble_eq_true rfl) ?_
  intro p e s m below meth cx ls F hr hlk hE hP hS hl
  have hl : lv_has ls 9 [(0, .ref (b0 + 0)), (1, .int (nI i)), (2, .int h), (3, .int (nI 0))] := hl
  have hJ0 := hJ
  refine lv_iconst (v := nI 0) F.1 F.2.1 dd_Mo_relay_0 (by decide) ?_
  refine lv_istore F.1 F.2.1 dd_Mo_relay_1 hl (by decide) (lv' := [(4, .int (nI 0)), (0, .ref (b0 + 0)), (1, .int (nI i)), (2, .int h), (3, .int (nI 0))]) rfl (fun ls hl => ?_)
  refine lv_iconst (v := nI 0) F.1 F.2.1 dd_Mo_relay_3 (by decide) ?_
  refine lv_istore F.1 F.2.1 dd_Mo_relay_4 hl (by decide) (lv' := [(5, .int (nI 0)), (4, .int (nI 0)), (0, .ref (b0 + 0)), (1, .int (nI i)), (2, .int h), (3, .int (nI 0))]) rfl (fun ls hl => ?_)
  refine lv_iload F.1 F.2.1 dd_Mo_relay_6 (lv_at hl 0 rfl) ?_
  refine lv_iconst (v := nI 3) F.1 F.2.1 dd_Mo_relay_8 (by decide) ?_
  refine zn_cge F dd_Mo_relay_9 (tgt := 122) rfl (by omega) (by omega) (fun h9 => absurd h9 (by decide)) (fun h9 => ?_)
  refine lv_aload_n F.1 F.2.1 dd_Mo_relay_12 rfl (lv_at hl 2 rfl) ?_
  refine zm_gF F hE hP rfl rfl zi_Mo 9 (by decide) rfl wf_Mo_35 rfl dd_Mo_relay_13 ?_
  refine lv_iconst (v := nI 3) F.1 F.2.1 dd_Mo_relay_16 (by decide) ?_
  refine lv_iload_n F.1 F.2.1 dd_Mo_relay_17 rfl (lv_at hl 5 rfl) ?_
  refine lv_if_ne F.1 F.2.1 dd_Mo_relay_18 (tgt := 27) rfl (fun h18 => absurd h18 (by decide)) (fun h18 => ?_)
  refine lv_iconst (v := nI 1) F.1 F.2.1 dd_Mo_relay_21 (by decide) ?_
  refine lv_iload_n F.1 F.2.1 dd_Mo_relay_22 rfl (lv_at hl 3 rfl) ?_
  refine zn_isub F dd_Mo_relay_23 (by omega) ?_
  refine lv_goto F.1 F.2.1 dd_Mo_relay_24 (tgt := 28) rfl ?_
  refine zn_imul F dd_Mo_relay_28 ?_
  refine lv_iload F.1 F.2.1 dd_Mo_relay_29 (lv_at hl 0 rfl) ?_
  refine zn_iadd F dd_Mo_relay_31 ?_
  refine zm_iald (x := 9) (k := (3 * (1 - i)) + 0) (N := 6) F hE hP (by decide) (fun _ => rfl) (by omega) (by decide) dd_Mo_relay_32 ?_
  refine zn_top (y := nI (zs_n (T 9 ((3 * (1 - i)) + 0)))) ((zs_JS hJ0 (by omega)).1) ?_
  refine lv_istore F.1 F.2.1 dd_Mo_relay_33 hl (by decide) (lv' := [(6, .int (nI (zs_n (T 9 ((3 * (1 - i)) + 0))))), (5, .int (nI 0)), (4, .int (nI 0)), (0, .ref (b0 + 0)), (1, .int (nI i)), (2, .int h), (3, .int (nI 0))]) rfl (fun ls hl => ?_)
  refine lv_iconst (v := nI 1) F.1 F.2.1 dd_Mo_relay_35 (by decide) ?_
  refine lv_istore F.1 F.2.1 dd_Mo_relay_36 hl (by decide) (lv' := [(7, .int (nI 1)), (6, .int (nI (zs_n (T 9 ((3 * (1 - i)) + 0))))), (5, .int (nI 0)), (4, .int (nI 0)), (0, .ref (b0 + 0)), (1, .int (nI i)), (2, .int h), (3, .int (nI 0))]) rfl (fun ls hl => ?_)
  refine zl_Mo_relay0 lc G b0 i 0 (zs_n (T 9 ((3 * (1 - i)) + 0))) h hi (by decide) (zs_JS hJ0 (by omega)).2 ⟨Nat.le_of_ble_eq_true rfl, Nat.le_of_ble_eq_true rfl⟩ F hE (zs_n (T 9 ((3 * (1 - i)) + 0))) 0 0 T (Nat.zero_add _) hJ0 (zs_JS hJ0 (by omega)).1 (fun ls H locs hl hP hS => ?_) ls _ _ (lv_sub hl [0, 1, 2, 3, 4, 5, 6, 7] rfl) hP hS
  have hJ1 := zs_mPJ (c := 0) (h := h) hi (by decide) (zs_n (T 9 ((3 * (1 - i)) + 0))) 0 T (Nat.le_trans (Nat.le_of_eq (Nat.zero_add _)) (zs_JS hJ0 (by omega)).2) hJ0
  refine lv_iinc F.1 F.2.1 dd_Mo_relay_116 hl (k := 2) rfl (v := nI 1) (by decide) (by decide) (lv' := [(5, .int (nI 1)), (7, .int (nI (zs_n (T 9 ((3 * (1 - i)) + 0)) + 1))), (6, .int (nI (zs_n (T 9 ((3 * (1 - i)) + 0))))), (4, .int (nI (zs_mPM i 0 h T 0 0 (zs_n (T 9 ((3 * (1 - i)) + 0)))))), (0, .ref (b0 + 0)), (1, .int (nI i)), (2, .int h), (3, .int (nI 0))]) rfl (fun ls hl => ?_)
  refine lv_goto F.1 F.2.1 dd_Mo_relay_119 (tgt := 6) rfl ?_
  refine lv_iload F.1 F.2.1 dd_Mo_relay_6 (lv_at hl 0 rfl) ?_
  refine lv_iconst (v := nI 3) F.1 F.2.1 dd_Mo_relay_8 (by decide) ?_
  refine zn_cge F dd_Mo_relay_9 (tgt := 122) rfl (by omega) (by omega) (fun h9 => absurd h9 (by decide)) (fun h9 => ?_)
  refine lv_aload_n F.1 F.2.1 dd_Mo_relay_12 rfl (lv_at hl 4 rfl) ?_
  refine zm_gF F hE hP rfl rfl zi_Mo 9 (by decide) rfl wf_Mo_35 rfl dd_Mo_relay_13 ?_
  refine lv_iconst (v := nI 3) F.1 F.2.1 dd_Mo_relay_16 (by decide) ?_
  refine lv_iload_n F.1 F.2.1 dd_Mo_relay_17 rfl (lv_at hl 7 rfl) ?_
  refine lv_if_ne F.1 F.2.1 dd_Mo_relay_18 (tgt := 27) rfl (fun h18 => absurd h18 (by decide)) (fun h18 => ?_)
  refine lv_iconst (v := nI 1) F.1 F.2.1 dd_Mo_relay_21 (by decide) ?_
  refine lv_iload_n F.1 F.2.1 dd_Mo_relay_22 rfl (lv_at hl 5 rfl) ?_
  refine zn_isub F dd_Mo_relay_23 (by omega) ?_
  refine lv_goto F.1 F.2.1 dd_Mo_relay_24 (tgt := 28) rfl ?_
  refine zn_imul F dd_Mo_relay_28 ?_
  refine lv_iload F.1 F.2.1 dd_Mo_relay_29 (lv_at hl 0 rfl) ?_
  refine zn_iadd F dd_Mo_relay_31 ?_
  refine zm_iald (x := 9) (k := (3 * (1 - i)) + 1) (N := 6) F hE hP (by decide) (fun _ => rfl) (by omega) (by decide) dd_Mo_relay_32 ?_
  refine zn_top (y := nI (zs_n ((zs_mPS i 0 h T 0 (zs_n (T 9 ((3 * (1 - i)) + 0)))) 9 ((3 * (1 - i)) + 1)))) ((zs_JS hJ1 (by omega)).1) ?_
  refine lv_istore F.1 F.2.1 dd_Mo_relay_33 hl (by decide) (lv' := [(6, .int (nI (zs_n ((zs_mPS i 0 h T 0 (zs_n (T 9 ((3 * (1 - i)) + 0)))) 9 ((3 * (1 - i)) + 1))))), (5, .int (nI 1)), (7, .int (nI (zs_n (T 9 ((3 * (1 - i)) + 0)) + 1))), (4, .int (nI (zs_mPM i 0 h T 0 0 (zs_n (T 9 ((3 * (1 - i)) + 0)))))), (0, .ref (b0 + 0)), (1, .int (nI i)), (2, .int h), (3, .int (nI 0))]) rfl (fun ls hl => ?_)
  refine lv_iconst (v := nI 1) F.1 F.2.1 dd_Mo_relay_35 (by decide) ?_
  refine lv_istore F.1 F.2.1 dd_Mo_relay_36 hl (by decide) (lv' := [(7, .int (nI 1)), (6, .int (nI (zs_n ((zs_mPS i 0 h T 0 (zs_n (T 9 ((3 * (1 - i)) + 0)))) 9 ((3 * (1 - i)) + 1))))), (5, .int (nI 1)), (4, .int (nI (zs_mPM i 0 h T 0 0 (zs_n (T 9 ((3 * (1 - i)) + 0)))))), (0, .ref (b0 + 0)), (1, .int (nI i)), (2, .int h), (3, .int (nI 0))]) rfl (fun ls hl => ?_)
  refine zl_Mo_relay0 lc G b0 i 1 (zs_n ((zs_mPS i 0 h T 0 (zs_n (T 9 ((3 * (1 - i)) + 0)))) 9 ((3 * (1 - i)) + 1))) h hi (by decide) (zs_JS hJ1 (by omega)).2 ⟨Nat.le_of_ble_eq_true rfl, Nat.le_of_ble_eq_true rfl⟩ F hE (zs_n ((zs_mPS i 0 h T 0 (zs_n (T 9 ((3 * (1 - i)) + 0)))) 9 ((3 * (1 - i)) + 1))) 0 (zs_mPM i 0 h T 0 0 (zs_n (T 9 ((3 * (1 - i)) + 0)))) (zs_mPS i 0 h T 0 (zs_n (T 9 ((3 * (1 - i)) + 0)))) (Nat.zero_add _) hJ1 (zs_JS hJ1 (by omega)).1 (fun ls H locs hl hP hS => ?_) ls _ _ (lv_sub hl [0, 1, 2, 3, 4, 5, 6, 7] rfl) hP hS
  have hJ2 := zs_mPJ (c := 1) (h := h) hi (by decide) (zs_n ((zs_mPS i 0 h T 0 (zs_n (T 9 ((3 * (1 - i)) + 0)))) 9 ((3 * (1 - i)) + 1))) 0 (zs_mPS i 0 h T 0 (zs_n (T 9 ((3 * (1 - i)) + 0)))) (Nat.le_trans (Nat.le_of_eq (Nat.zero_add _)) (zs_JS hJ1 (by omega)).2) hJ1
  refine lv_iinc F.1 F.2.1 dd_Mo_relay_116 hl (k := 2) rfl (v := nI 2) (by decide) (by decide) (lv' := [(5, .int (nI 2)), (7, .int (nI (zs_n ((zs_mPS i 0 h T 0 (zs_n (T 9 ((3 * (1 - i)) + 0)))) 9 ((3 * (1 - i)) + 1)) + 1))), (6, .int (nI (zs_n ((zs_mPS i 0 h T 0 (zs_n (T 9 ((3 * (1 - i)) + 0)))) 9 ((3 * (1 - i)) + 1))))), (4, .int (nI (zs_mPM i 1 h (zs_mPS i 0 h T 0 (zs_n (T 9 ((3 * (1 - i)) + 0)))) 0 (zs_mPM i 0 h T 0 0 (zs_n (T 9 ((3 * (1 - i)) + 0)))) (zs_n ((zs_mPS i 0 h T 0 (zs_n (T 9 ((3 * (1 - i)) + 0)))) 9 ((3 * (1 - i)) + 1)))))), (0, .ref (b0 + 0)), (1, .int (nI i)), (2, .int h), (3, .int (nI 0))]) rfl (fun ls hl => ?_)
  refine lv_goto F.1 F.2.1 dd_Mo_relay_119 (tgt := 6) rfl ?_
  refine lv_iload F.1 F.2.1 dd_Mo_relay_6 (lv_at hl 0 rfl) ?_
  refine lv_iconst (v := nI 3) F.1 F.2.1 dd_Mo_relay_8 (by decide) ?_
  refine zn_cge F dd_Mo_relay_9 (tgt := 122) rfl (by omega) (by omega) (fun h9 => absurd h9 (by decide)) (fun h9 => ?_)
  refine lv_aload_n F.1 F.2.1 dd_Mo_relay_12 rfl (lv_at hl 4 rfl) ?_
  refine zm_gF F hE hP rfl rfl zi_Mo 9 (by decide) rfl wf_Mo_35 rfl dd_Mo_relay_13 ?_
  refine lv_iconst (v := nI 3) F.1 F.2.1 dd_Mo_relay_16 (by decide) ?_
  refine lv_iload_n F.1 F.2.1 dd_Mo_relay_17 rfl (lv_at hl 7 rfl) ?_
  refine lv_if_ne F.1 F.2.1 dd_Mo_relay_18 (tgt := 27) rfl (fun h18 => absurd h18 (by decide)) (fun h18 => ?_)
  refine lv_iconst (v := nI 1) F.1 F.2.1 dd_Mo_relay_21 (by decide) ?_
  refine lv_iload_n F.1 F.2.1 dd_Mo_relay_22 rfl (lv_at hl 5 rfl) ?_
  refine zn_isub F dd_Mo_relay_23 (by omega) ?_
  refine lv_goto F.1 F.2.1 dd_Mo_relay_24 (tgt := 28) rfl ?_
  refine zn_imul F dd_Mo_relay_28 ?_
  refine lv_iload F.1 F.2.1 dd_Mo_relay_29 (lv_at hl 0 rfl) ?_
  refine zn_iadd F dd_Mo_relay_31 ?_
  refine zm_iald (x := 9) (k := (3 * (1 - i)) + 2) (N := 6) F hE hP (by decide) (fun _ => rfl) (by omega) (by decide) dd_Mo_relay_32 ?_
  refine zn_top (y := nI (zs_n ((zs_mPS i 1 h (zs_mPS i 0 h T 0 (zs_n (T 9 ((3 * (1 - i)) + 0)))) 0 (zs_n ((zs_mPS i 0 h T 0 (zs_n (T 9 ((3 * (1 - i)) + 0)))) 9 ((3 * (1 - i)) + 1)))) 9 ((3 * (1 - i)) + 2)))) ((zs_JS hJ2 (by omega)).1) ?_
  refine lv_istore F.1 F.2.1 dd_Mo_relay_33 hl (by decide) (lv' := [(6, .int (nI (zs_n ((zs_mPS i 1 h (zs_mPS i 0 h T 0 (zs_n (T 9 ((3 * (1 - i)) + 0)))) 0 (zs_n ((zs_mPS i 0 h T 0 (zs_n (T 9 ((3 * (1 - i)) + 0)))) 9 ((3 * (1 - i)) + 1)))) 9 ((3 * (1 - i)) + 2))))), (5, .int (nI 2)), (7, .int (nI (zs_n ((zs_mPS i 0 h T 0 (zs_n (T 9 ((3 * (1 - i)) + 0)))) 9 ((3 * (1 - i)) + 1)) + 1))), (4, .int (nI (zs_mPM i 1 h (zs_mPS i 0 h T 0 (zs_n (T 9 ((3 * (1 - i)) + 0)))) 0 (zs_mPM i 0 h T 0 0 (zs_n (T 9 ((3 * (1 - i)) + 0)))) (zs_n ((zs_mPS i 0 h T 0 (zs_n (T 9 ((3 * (1 - i)) + 0)))) 9 ((3 * (1 - i)) + 1)))))), (0, .ref (b0 + 0)), (1, .int (nI i)), (2, .int h), (3, .int (nI 0))]) rfl (fun ls hl => ?_)
  refine lv_iconst (v := nI 1) F.1 F.2.1 dd_Mo_relay_35 (by decide) ?_
  refine lv_istore F.1 F.2.1 dd_Mo_relay_36 hl (by decide) (lv' := [(7, .int (nI 1)), (6, .int (nI (zs_n ((zs_mPS i 1 h (zs_mPS i 0 h T 0 (zs_n (T 9 ((3 * (1 - i)) + 0)))) 0 (zs_n ((zs_mPS i 0 h T 0 (zs_n (T 9 ((3 * (1 - i)) + 0)))) 9 ((3 * (1 - i)) + 1)))) 9 ((3 * (1 - i)) + 2))))), (5, .int (nI 2)), (4, .int (nI (zs_mPM i 1 h (zs_mPS i 0 h T 0 (zs_n (T 9 ((3 * (1 - i)) + 0)))) 0 (zs_mPM i 0 h T 0 0 (zs_n (T 9 ((3 * (1 - i)) + 0)))) (zs_n ((zs_mPS i 0 h T 0 (zs_n (T 9 ((3 * (1 - i)) + 0)))) 9 ((3 * (1 - i)) + 1)))))), (0, .ref (b0 + 0)), (1, .int (nI i)), (2, .int h), (3, .int (nI 0))]) rfl (fun ls hl => ?_)
  refine zl_Mo_relay0 lc G b0 i 2 (zs_n ((zs_mPS i 1 h (zs_mPS i 0 h T 0 (zs_n (T 9 ((3 * (1 - i)) + 0)))) 0 (zs_n ((zs_mPS i 0 h T 0 (zs_n (T 9 ((3 * (1 - i)) + 0)))) 9 ((3 * (1 - i)) + 1)))) 9 ((3 * (1 - i)) + 2))) h hi (by decide) (zs_JS hJ2 (by omega)).2 ⟨Nat.le_of_ble_eq_true rfl, Nat.le_of_ble_eq_true rfl⟩ F hE (zs_n ((zs_mPS i 1 h (zs_mPS i 0 h T 0 (zs_n (T 9 ((3 * (1 - i)) + 0)))) 0 (zs_n ((zs_mPS i 0 h T 0 (zs_n (T 9 ((3 * (1 - i)) + 0)))) 9 ((3 * (1 - i)) + 1)))) 9 ((3 * (1 - i)) + 2))) 0 (zs_mPM i 1 h (zs_mPS i 0 h T 0 (zs_n (T 9 ((3 * (1 - i)) + 0)))) 0 (zs_mPM i 0 h T 0 0 (zs_n (T 9 ((3 * (1 - i)) + 0)))) (zs_n ((zs_mPS i 0 h T 0 (zs_n (T 9 ((3 * (1 - i)) + 0)))) 9 ((3 * (1 - i)) + 1)))) (zs_mPS i 1 h (zs_mPS i 0 h T 0 (zs_n (T 9 ((3 * (1 - i)) + 0)))) 0 (zs_n ((zs_mPS i 0 h T 0 (zs_n (T 9 ((3 * (1 - i)) + 0)))) 9 ((3 * (1 - i)) + 1)))) (Nat.zero_add _) hJ2 (zs_JS hJ2 (by omega)).1 (fun ls H locs hl hP hS => ?_) ls _ _ (lv_sub hl [0, 1, 2, 3, 4, 5, 6, 7] rfl) hP hS
  have hJ3 := zs_mPJ (c := 2) (h := h) hi (by decide) (zs_n ((zs_mPS i 1 h (zs_mPS i 0 h T 0 (zs_n (T 9 ((3 * (1 - i)) + 0)))) 0 (zs_n ((zs_mPS i 0 h T 0 (zs_n (T 9 ((3 * (1 - i)) + 0)))) 9 ((3 * (1 - i)) + 1)))) 9 ((3 * (1 - i)) + 2))) 0 (zs_mPS i 1 h (zs_mPS i 0 h T 0 (zs_n (T 9 ((3 * (1 - i)) + 0)))) 0 (zs_n ((zs_mPS i 0 h T 0 (zs_n (T 9 ((3 * (1 - i)) + 0)))) 9 ((3 * (1 - i)) + 1)))) (Nat.le_trans (Nat.le_of_eq (Nat.zero_add _)) (zs_JS hJ2 (by omega)).2) hJ2
  refine lv_iinc F.1 F.2.1 dd_Mo_relay_116 hl (k := 2) rfl (v := nI 3) (by decide) (by decide) (lv' := [(5, .int (nI 3)), (7, .int (nI (zs_n ((zs_mPS i 1 h (zs_mPS i 0 h T 0 (zs_n (T 9 ((3 * (1 - i)) + 0)))) 0 (zs_n ((zs_mPS i 0 h T 0 (zs_n (T 9 ((3 * (1 - i)) + 0)))) 9 ((3 * (1 - i)) + 1)))) 9 ((3 * (1 - i)) + 2)) + 1))), (6, .int (nI (zs_n ((zs_mPS i 1 h (zs_mPS i 0 h T 0 (zs_n (T 9 ((3 * (1 - i)) + 0)))) 0 (zs_n ((zs_mPS i 0 h T 0 (zs_n (T 9 ((3 * (1 - i)) + 0)))) 9 ((3 * (1 - i)) + 1)))) 9 ((3 * (1 - i)) + 2))))), (4, .int (nI (zs_mPM i 2 h (zs_mPS i 1 h (zs_mPS i 0 h T 0 (zs_n (T 9 ((3 * (1 - i)) + 0)))) 0 (zs_n ((zs_mPS i 0 h T 0 (zs_n (T 9 ((3 * (1 - i)) + 0)))) 9 ((3 * (1 - i)) + 1)))) 0 (zs_mPM i 1 h (zs_mPS i 0 h T 0 (zs_n (T 9 ((3 * (1 - i)) + 0)))) 0 (zs_mPM i 0 h T 0 0 (zs_n (T 9 ((3 * (1 - i)) + 0)))) (zs_n ((zs_mPS i 0 h T 0 (zs_n (T 9 ((3 * (1 - i)) + 0)))) 9 ((3 * (1 - i)) + 1)))) (zs_n ((zs_mPS i 1 h (zs_mPS i 0 h T 0 (zs_n (T 9 ((3 * (1 - i)) + 0)))) 0 (zs_n ((zs_mPS i 0 h T 0 (zs_n (T 9 ((3 * (1 - i)) + 0)))) 9 ((3 * (1 - i)) + 1)))) 9 ((3 * (1 - i)) + 2)))))), (0, .ref (b0 + 0)), (1, .int (nI i)), (2, .int h), (3, .int (nI 0))]) rfl (fun ls hl => ?_)
  refine lv_goto F.1 F.2.1 dd_Mo_relay_119 (tgt := 6) rfl ?_
  refine lv_iload F.1 F.2.1 dd_Mo_relay_6 (lv_at hl 0 rfl) ?_
  refine lv_iconst (v := nI 3) F.1 F.2.1 dd_Mo_relay_8 (by decide) ?_
  refine zn_cge F dd_Mo_relay_9 (tgt := 122) rfl (by omega) (by omega) (fun h9 => ?_) (fun h9 => absurd h9 (by decide))
  refine lv_iload F.1 F.2.1 dd_Mo_relay_122 (lv_at hl 3 rfl) ?_
  exact zw_iret F hr hlk hP hS rfl rfl dd_Mo_relay_124
