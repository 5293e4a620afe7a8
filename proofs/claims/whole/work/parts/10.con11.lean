set_option maxHeartbeats 4000000 in
set_option maxRecDepth 100000 in
theorem zc_Mo_tick_bad (lc : Launch) (G : zw_G) (b0 : Nat) (T : zs_T) (l : Int32) (hb : ¬ zs_v l 2) : zw_M lc ym_Mo_tick bm_Mo_tick 5 (some .int) { frames := 1, cells := 0, slots := 0, locals := 22 } G b0 26 (zq_p G b0 T) [.ref (b0 + 0), .int l] (zw_Qi G b0 26 (zq_p G b0 T) (-1)) := by
  refine zw_of (by decide) (Nat.le_of_ble_eq_true rfl) ?_
  intro p e s m below meth cx ls F hr hlk hE hP hS hl
  have hl : lv_has ls 5 [(0, .ref (b0 + 0)), (1, .int l)] := hl
  refine lv_iload_n F.1 F.2.1 dd_Mo_tick_0 rfl (lv_at hl 1 rfl) ?_
  refine lv_iconst (v := nI 0) F.1 F.2.1 dd_Mo_tick_1 (by decide) ?_
  refine lv_iconst (v := nI 1) F.1 F.2.1 dd_Mo_tick_2 (by decide) ?_
  refine zw_goi (zw_rS F hE hP (zc_Mo_outside lc G b0 T l (nI 0) (nI 1)) zk_Mo_outside za_Mo_outside wl_Mo_91 ⟨rfl, rfl, Nat.le_of_ble_eq_true rfl, Nat.le_of_ble_eq_true rfl⟩ hl.1 rfl (Nat.le_of_ble_eq_true rfl) ⟨Nat.zero_le _, Nat.zero_le _⟩ dd_Mo_tick_3) hS (fun _ h => h) (fun H locs hP _ _ hS => ?_)
  refine zn_beq F dd_Mo_tick_6 (tgt := 11) rfl (fun h6 => absurd (zs_vo (n := 1) (by decide) h6) hb) (fun h6 => ?_)
  refine lv_iconst (v := (-1)) F.1 F.2.1 dd_Mo_tick_9 (by decide) ?_
  exact zw_iret F hr hlk hP hS rfl rfl dd_Mo_tick_10
set_option maxHeartbeats 4000000 in
set_option maxRecDepth 100000 in
theorem zl_Mo_root2 {p : Program} {e : Env} {R : Room} {s : State} {m : MethodId} {below : List Frame} {meth : Method} {cx : Code} {av : Array Value} {Qf : State → Prop} (lc : Launch) (G : zw_G) (b0 : Nat) (hR : 2 ≤ R.frames ∧ 50 ≤ R.locals) (F : CallFix p m cx bm_Mo_root 6 s av zw_WS "TwinLedgersModel") (hE : zw_E G s) (a i q k : Nat) : ∀ (n : Nat) (T : zs_T), n ≤ 16 → (∀ (ls : Array Slot) (H : Heap) (locs : List Loc), lv_has ls 6 [(4, .int (nI ((zs_jw n T).2))), (5, .int (nI k)), (3, .int (nI a)), (0, .ref (b0 + 0)), (1, .int (nI i)), (2, .int (nI q))] → va_P G.1 zw_cl (zw_l b0 26 (zq_p G b0 ((zs_jw n T).1))) H → va_S (zw_A b0 26) s.heap H locs → W p lc e R s m av below meth cx H locs 0 0 Qf (F0 m 134 ls [])) → ∀ (ls : Array Slot) (H : Heap) (locs : List Loc), lv_has ls 6 [(4, .int (nI n)), (5, .int (nI k)), (3, .int (nI a)), (0, .ref (b0 + 0)), (1, .int (nI i)), (2, .int (nI q))] → va_P G.1 zw_cl (zw_l b0 26 (zq_p G b0 T)) H → va_S (zw_A b0 26) s.heap H locs → W p lc e R s m av below meth cx H locs 0 0 Qf (F0 m 96 ls [])
  | 0, T, hn, kk, ls, H, locs, hl, hP, hS => by
    refine lv_iload F.1 F.2.1 dd_Mo_root_96 (lv_at hl 0 rfl) ?_
    refine lv_iconst (v := nI 1) F.1 F.2.1 dd_Mo_root_98 (by decide) ?_
    refine zn_cle F dd_Mo_root_99 (tgt := 134) rfl (by omega) (by omega) (fun h99 => ?_) (fun h99 => absurd h99 (by decide))
    exact kk ls H locs (lv_sub hl [0, 1, 2, 3, 4, 5] rfl) hP hS
  | 1, T, hn, kk, ls, H, locs, hl, hP, hS => by
    refine lv_iload F.1 F.2.1 dd_Mo_root_96 (lv_at hl 0 rfl) ?_
    refine lv_iconst (v := nI 1) F.1 F.2.1 dd_Mo_root_98 (by decide) ?_
    refine zn_cle F dd_Mo_root_99 (tgt := 134) rfl (by omega) (by omega) (fun h99 => ?_) (fun h99 => absurd h99 (by decide))
    exact kk ls H locs (lv_sub hl [0, 1, 2, 3, 4, 5] rfl) hP hS
  | n + 2, T, hn, kk, ls, H, locs, hl, hP, hS => by
    rw [zs_jw2] at kk
    refine lv_iload F.1 F.2.1 dd_Mo_root_96 (lv_at hl 0 rfl) ?_
    refine lv_iconst (v := nI 1) F.1 F.2.1 dd_Mo_root_98 (by decide) ?_
    refine zn_cle F dd_Mo_root_99 (tgt := 134) rfl (by omega) (by omega) (fun h99 => absurd h99 (by omega)) (fun h99 => ?_)
    refine lv_aload_n F.1 F.2.1 dd_Mo_root_102 rfl (lv_at hl 3 rfl) ?_
    refine zm_gF F hE hP rfl rfl zi_Mo 25 (by decide) rfl wf_Mo_83 rfl dd_Mo_root_103 ?_
    refine lv_iload F.1 F.2.1 dd_Mo_root_106 (lv_at hl 0 rfl) ?_
    refine lv_iconst (v := nI 2) F.1 F.2.1 dd_Mo_root_108 (by decide) ?_
    refine zn_isub F dd_Mo_root_109 (by omega) ?_
    refine zn_top (y := nI n) (congrArg nI (by omega)) ?_
    refine zm_iald (x := 25) (k := n) (N := 16) F hE hP (by decide) (fun _ => rfl) (by omega) (by decide) dd_Mo_root_110 ?_
    refine lv_aload_n F.1 F.2.1 dd_Mo_root_111 rfl (lv_at hl 3 rfl) ?_
    refine zm_gF F hE hP rfl rfl zi_Mo 25 (by decide) rfl wf_Mo_83 rfl dd_Mo_root_112 ?_
    refine lv_iload F.1 F.2.1 dd_Mo_root_115 (lv_at hl 0 rfl) ?_
    refine lv_iconst (v := nI 1) F.1 F.2.1 dd_Mo_root_117 (by decide) ?_
    refine zn_isub F dd_Mo_root_118 (by omega) ?_
    refine zn_top (y := nI (n + 1)) (congrArg nI (by omega)) ?_
    refine zm_iald (x := 25) (k := n + 1) (N := 16) F hE hP (by decide) (fun _ => rfl) (by omega) (by decide) dd_Mo_root_119 ?_
    refine lv_icmp_ne F.1 F.2.1 dd_Mo_root_120 (tgt := 134) rfl (fun h120 => ?_) (fun h120 => ?_)
    · rw [if_neg h120] at kk
      exact kk ls H locs (lv_sub hl [0, 1, 2, 3, 4, 5] rfl) hP hS
    · refine lv_aload_n F.1 F.2.1 dd_Mo_root_123 rfl (lv_at hl 3 rfl) ?_
      refine lv_iload F.1 F.2.1 dd_Mo_root_124 (lv_at hl 0 rfl) ?_
      refine zw_goi (zw_rV F hE hP (zc_Mo_join lc G b0 T (n + 2) (by first | omega | assumption) (by first | omega | assumption)) zk_Mo_join za_Mo_join zb_Mo_join wl_Mo_117 ⟨rfl, rfl, Nat.le_trans (Nat.le_of_ble_eq_true rfl) hR.1, Nat.le_trans (Nat.le_of_ble_eq_true rfl) hR.2⟩ (zm_recv hE hP rfl rfl) hl.1 rfl (Nat.le_of_ble_eq_true rfl) ⟨Nat.zero_le _, Nat.zero_le _⟩ dd_Mo_root_126) hS (fun _ h => h) (fun H locs hP _ _ hS => ?_)
      refine zn_top (y := nI (n + 1)) (congrArg nI (by omega)) ?_
      refine lv_istore F.1 F.2.1 dd_Mo_root_129 hl (by decide) (lv' := [(4, .int (nI (n + 1))), (5, .int (nI k)), (3, .int (nI a)), (0, .ref (b0 + 0)), (1, .int (nI i)), (2, .int (nI q))]) rfl (fun ls hl => ?_)
      refine lv_goto F.1 F.2.1 dd_Mo_root_131 (tgt := 96) rfl ?_
      rw [if_pos h120] at kk
      exact zl_Mo_root2 lc G b0 hR F hE a i q k (n + 1) _ (by omega) kk ls H locs (lv_sub hl [0, 1, 2, 3, 4, 5] rfl) hP hS
set_option maxHeartbeats 4000000 in
set_option maxRecDepth 100000 in
theorem zl_Mo_root3 {p : Program} {e : Env} {R : Room} {s : State} {m : MethodId} {below : List Frame} {meth : Method} {cx : Code} {av : Array Value} {Qf : State → Prop} (lc : Launch) (G : zw_G) (b0 : Nat) (hR : 2 ≤ R.frames ∧ 50 ≤ R.locals) (F : CallFix p m cx bm_Mo_root 6 s av zw_WS "TwinLedgersModel") (hE : zw_E G s) (a i q k : Nat) : ∀ (n : Nat) (T : zs_T), n ≤ 16 → (∀ (ls : Array Slot) (H : Heap) (locs : List Loc), lv_has ls 6 [(4, .int (nI (zs_jn n))), (5, .int (nI k)), (3, .int (nI a)), (0, .ref (b0 + 0)), (1, .int (nI i)), (2, .int (nI q))] → va_P G.1 zw_cl (zw_l b0 26 (zq_p G b0 (zs_jf n T))) H → va_S (zw_A b0 26) s.heap H locs → W p lc e R s m av below meth cx H locs 0 0 Qf (F0 m 157 ls [])) → ∀ (ls : Array Slot) (H : Heap) (locs : List Loc), lv_has ls 6 [(4, .int (nI n)), (5, .int (nI k)), (3, .int (nI a)), (0, .ref (b0 + 0)), (1, .int (nI i)), (2, .int (nI q))] → va_P G.1 zw_cl (zw_l b0 26 (zq_p G b0 T)) H → va_S (zw_A b0 26) s.heap H locs → W p lc e R s m av below meth cx H locs 0 0 Qf (F0 m 140 ls [])
  | 0, T, hn, kk, ls, H, locs, hl, hP, hS => by
    refine lv_iload F.1 F.2.1 dd_Mo_root_140 (lv_at hl 0 rfl) ?_
    refine lv_iconst (v := nI 1) F.1 F.2.1 dd_Mo_root_142 (by decide) ?_
    refine zn_cle F dd_Mo_root_143 (tgt := 157) rfl (by omega) (by omega) (fun h143 => ?_) (fun h143 => absurd h143 (by decide))
    exact kk ls H locs (lv_sub hl [0, 1, 2, 3, 4, 5] rfl) hP hS
  | 1, T, hn, kk, ls, H, locs, hl, hP, hS => by
    refine lv_iload F.1 F.2.1 dd_Mo_root_140 (lv_at hl 0 rfl) ?_
    refine lv_iconst (v := nI 1) F.1 F.2.1 dd_Mo_root_142 (by decide) ?_
    refine zn_cle F dd_Mo_root_143 (tgt := 157) rfl (by omega) (by omega) (fun h143 => ?_) (fun h143 => absurd h143 (by decide))
    exact kk ls H locs (lv_sub hl [0, 1, 2, 3, 4, 5] rfl) hP hS
  | n + 2, T, hn, kk, ls, H, locs, hl, hP, hS => by
    rw [zs_jf2, show zs_jn (n + 2) = zs_jn (n + 1) from rfl] at kk
    refine lv_iload F.1 F.2.1 dd_Mo_root_140 (lv_at hl 0 rfl) ?_
    refine lv_iconst (v := nI 1) F.1 F.2.1 dd_Mo_root_142 (by decide) ?_
    refine zn_cle F dd_Mo_root_143 (tgt := 157) rfl (by omega) (by omega) (fun h143 => absurd h143 (by omega)) (fun h143 => ?_)
    refine lv_aload_n F.1 F.2.1 dd_Mo_root_146 rfl (lv_at hl 3 rfl) ?_
    refine lv_iload F.1 F.2.1 dd_Mo_root_147 (lv_at hl 0 rfl) ?_
    refine zw_goi (zw_rV F hE hP (zc_Mo_join lc G b0 T (n + 2) (by first | omega | assumption) (by first | omega | assumption)) zk_Mo_join za_Mo_join zb_Mo_join wl_Mo_117 ⟨rfl, rfl, Nat.le_trans (Nat.le_of_ble_eq_true rfl) hR.1, Nat.le_trans (Nat.le_of_ble_eq_true rfl) hR.2⟩ (zm_recv hE hP rfl rfl) hl.1 rfl (Nat.le_of_ble_eq_true rfl) ⟨Nat.zero_le _, Nat.zero_le _⟩ dd_Mo_root_149) hS (fun _ h => h) (fun H locs hP _ _ hS => ?_)
    refine zn_top (y := nI (n + 1)) (congrArg nI (by omega)) ?_
    refine lv_istore F.1 F.2.1 dd_Mo_root_152 hl (by decide) (lv' := [(4, .int (nI (n + 1))), (5, .int (nI k)), (3, .int (nI a)), (0, .ref (b0 + 0)), (1, .int (nI i)), (2, .int (nI q))]) rfl (fun ls hl => ?_)
    refine lv_goto F.1 F.2.1 dd_Mo_root_154 (tgt := 140) rfl ?_
    exact zl_Mo_root3 lc G b0 hR F hE a i q k (n + 1) _ (by omega) kk ls H locs (lv_sub hl [0, 1, 2, 3, 4, 5] rfl) hP hS
set_option maxHeartbeats 4000000 in
set_option maxRecDepth 100000 in
theorem zl_Mo_root1 {p : Program} {e : Env} {R : Room} {s : State} {m : MethodId} {below : List Frame} {meth : Method} {cx : Code} {av : Array Value} {Qf : State → Prop} (lc : Launch) (G : zw_G) (b0 : Nat) (hR : 2 ≤ R.frames ∧ 50 ≤ R.locals) (F : CallFix p m cx bm_Mo_root 6 s av zw_WS "TwinLedgersModel") (hE : zw_E G s) (a i q z : Nat) (ha : a < 16) (hz2 : z ≤ 128) : ∀ (r k n : Nat) (T : zs_T), T 4 a = nI z → k + r = 128 * a + z → (∀ r2, r2 < r → (zs_qa T n k r2).2 < 16) → (∀ (ls : Array Slot) (H : Heap) (locs : List Loc), lv_has ls 6 [(4, .int (nI ((zs_qa T n k r).2))), (5, .int (nI (128 * a + z))), (3, .int (nI a)), (0, .ref (b0 + 0)), (1, .int (nI i)), (2, .int (nI q))] → va_P G.1 zw_cl (zw_l b0 26 (zq_p G b0 ((zs_qa T n k r).1))) H → va_S (zw_A b0 26) s.heap H locs → W p lc e R s m av below meth cx H locs 0 0 Qf (F0 m 140 ls [])) → ∀ (ls : Array Slot) (H : Heap) (locs : List Loc), lv_has ls 6 [(4, .int (nI n)), (5, .int (nI k)), (3, .int (nI a)), (0, .ref (b0 + 0)), (1, .int (nI i)), (2, .int (nI q))] → va_P G.1 zw_cl (zw_l b0 26 (zq_p G b0 T)) H → va_S (zw_A b0 26) s.heap H locs → W p lc e R s m av below meth cx H locs 0 0 Qf (F0 m 40 ls []) := by
  intro r
  induction r with
  | zero =>
    intro k n T hz hk hq kk ls H locs hl hP hS
    obtain rfl : k = 128 * a + z := by omega
    refine lv_iload F.1 F.2.1 dd_Mo_root_40 (lv_at hl 1 rfl) ?_
    refine lv_sipush (v := nI 128) F.1 F.2.1 dd_Mo_root_42 (by decide) ?_
    refine lv_iload_n F.1 F.2.1 dd_Mo_root_45 rfl (lv_at hl 2 rfl) ?_
    refine zn_imul F dd_Mo_root_46 ?_
    refine lv_aload_n F.1 F.2.1 dd_Mo_root_47 rfl (lv_at hl 3 rfl) ?_
    refine zm_gF F hE hP rfl rfl zi_Mo 4 (by decide) rfl wf_Mo_20 rfl dd_Mo_root_48 ?_
    refine lv_iload_n F.1 F.2.1 dd_Mo_root_51 rfl (lv_at hl 2 rfl) ?_
    refine zm_iald (x := 4) (k := a) (N := 16) F hE hP (by decide) (fun _ => rfl) (by omega) (by decide) dd_Mo_root_52 ?_
    refine zn_top (y := nI z) (hz) ?_
    refine zn_iadd F dd_Mo_root_53 ?_
    refine zn_cge F dd_Mo_root_54 (tgt := 140) rfl (by omega) (by omega) (fun h54 => ?_) (fun h54 => absurd (Nat.le_refl _) h54)
    exact kk ls H locs (lv_sub hl [0, 1, 2, 3, 4, 5] rfl) hP hS
  | succ r ih =>
    intro k n T hz hk hq kk ls H locs hl hP hS
    have hn : n < 16 := hq 0 (by omega)
    rw [zs_qas] at kk
    refine lv_iload F.1 F.2.1 dd_Mo_root_40 (lv_at hl 1 rfl) ?_
    refine lv_sipush (v := nI 128) F.1 F.2.1 dd_Mo_root_42 (by decide) ?_
    refine lv_iload_n F.1 F.2.1 dd_Mo_root_45 rfl (lv_at hl 2 rfl) ?_
    refine zn_imul F dd_Mo_root_46 ?_
    refine lv_aload_n F.1 F.2.1 dd_Mo_root_47 rfl (lv_at hl 3 rfl) ?_
    refine zm_gF F hE hP rfl rfl zi_Mo 4 (by decide) rfl wf_Mo_20 rfl dd_Mo_root_48 ?_
    refine lv_iload_n F.1 F.2.1 dd_Mo_root_51 rfl (lv_at hl 2 rfl) ?_
    refine zm_iald (x := 4) (k := a) (N := 16) F hE hP (by decide) (fun _ => rfl) (by omega) (by decide) dd_Mo_root_52 ?_
    refine zn_top (y := nI z) (hz) ?_
    refine zn_iadd F dd_Mo_root_53 ?_
    refine zn_cge F dd_Mo_root_54 (tgt := 140) rfl (by omega) (by omega) (fun h54 => absurd h54 (by omega)) (fun h54 => ?_)
    refine lv_aload_n F.1 F.2.1 dd_Mo_root_57 rfl (lv_at hl 3 rfl) ?_
    refine zm_gF F hE hP rfl rfl zi_Mo 24 (by decide) rfl wf_Mo_80 rfl dd_Mo_root_58 ?_
    refine lv_iload F.1 F.2.1 dd_Mo_root_61 (lv_at hl 0 rfl) ?_
    refine lv_iconst (v := nI 1) F.1 F.2.1 dd_Mo_root_63 (by decide) ?_
    refine lv_aload_n F.1 F.2.1 dd_Mo_root_64 rfl (lv_at hl 3 rfl) ?_
    refine zm_gF F hE hP rfl rfl zi_Mo 5 (by decide) rfl wf_Mo_23 rfl dd_Mo_root_65 ?_
    refine lv_iload F.1 F.2.1 dd_Mo_root_68 (lv_at hl 1 rfl) ?_
    refine zm_iald (x := 5) (k := k) (N := 2048) F hE hP (by decide) (fun _ => rfl) (by omega) (by decide) dd_Mo_root_70 ?_
    refine zw_goi (zw_rS F hE hP (zc_Mo_mix lc G b0 T (nI 1) (T 5 k)) zk_Mo_mix za_Mo_mix wl_Mo_107 ⟨rfl, rfl, Nat.le_trans (Nat.le_of_ble_eq_true rfl) hR.1, Nat.le_trans (Nat.le_of_ble_eq_true rfl) hR.2⟩ hl.1 rfl (Nat.le_of_ble_eq_true rfl) ⟨Nat.zero_le _, Nat.zero_le _⟩ dd_Mo_root_71) hS (fun _ h => h) (fun H locs hP _ _ hS => ?_)
    refine lv_aload_n F.1 F.2.1 dd_Mo_root_74 rfl (lv_at hl 3 rfl) ?_
    refine zm_gF F hE hP rfl rfl zi_Mo 6 (by decide) rfl wf_Mo_26 rfl dd_Mo_root_75 ?_
    refine lv_iload F.1 F.2.1 dd_Mo_root_78 (lv_at hl 1 rfl) ?_
    refine zm_iald (x := 6) (k := k) (N := 2048) F hE hP (by decide) (fun _ => rfl) (by omega) (by decide) dd_Mo_root_80 ?_
    refine zw_goi (zw_rS F hE hP (zc_Mo_mix lc G b0 T (zs_mix (nI 1) (T 5 k)) (T 6 k)) zk_Mo_mix za_Mo_mix wl_Mo_107 ⟨rfl, rfl, Nat.le_trans (Nat.le_of_ble_eq_true rfl) hR.1, Nat.le_trans (Nat.le_of_ble_eq_true rfl) hR.2⟩ hl.1 rfl (Nat.le_of_ble_eq_true rfl) ⟨Nat.zero_le _, Nat.zero_le _⟩ dd_Mo_root_81) hS (fun _ h => h) (fun H locs hP _ _ hS => ?_)
    refine zm_iast (x := 24) (k := n) (N := 16) F hE hP hS (fun _ h => h) (by decide) (fun _ => rfl) (by omega) (by decide)  dd_Mo_root_84 (fun H locs hP hS => ?_)
    refine lv_aload_n F.1 F.2.1 dd_Mo_root_85 rfl (lv_at hl 3 rfl) ?_
    refine zm_gF F hE hP rfl rfl zi_Mo 25 (by decide) rfl wf_Mo_83 rfl dd_Mo_root_86 ?_
    refine lv_iload F.1 F.2.1 dd_Mo_root_89 (lv_at hl 0 rfl) ?_
    refine lv_iconst (v := nI 1) F.1 F.2.1 dd_Mo_root_91 (by decide) ?_
    refine zm_iast (x := 25) (k := n) (N := 16) F hE hP hS (fun _ h => h) (by decide) (fun _ => rfl) (by omega) (by decide)  dd_Mo_root_92 (fun H locs hP hS => ?_)
    refine lv_iinc F.1 F.2.1 dd_Mo_root_93 hl (k := 0) rfl (v := nI (n + 1)) (nI_1 _) (by decide) (lv' := [(4, .int (nI (n + 1))), (5, .int (nI k)), (3, .int (nI a)), (0, .ref (b0 + 0)), (1, .int (nI i)), (2, .int (nI q))]) rfl (fun ls hl => ?_)
    refine zl_Mo_root2 lc G b0 hR F hE a i q k (n + 1) (zs_q1 T n k) (by omega) (fun ls H locs hl hP hS => ?_) ls H locs (lv_sub hl [0, 1, 2, 3, 4, 5] rfl) hP hS
    refine lv_iinc F.1 F.2.1 dd_Mo_root_134 hl (k := 1) rfl (v := nI (k + 1)) (nI_1 _) (by decide) (lv' := [(5, .int (nI (k + 1))), (4, .int (nI ((zs_jw (n + 1) (zs_q1 T n k)).2))), (3, .int (nI a)), (0, .ref (b0 + 0)), (1, .int (nI i)), (2, .int (nI q))]) rfl (fun ls hl => ?_)
    refine lv_goto F.1 F.2.1 dd_Mo_root_137 (tgt := 40) rfl ?_
    exact ih (k + 1) _ _ (by rw [zs_jwk _ _ _ _ (by decide) (by decide), zs_q1, zs_wx (by decide), zs_wx (by decide)]; exact hz) (by omega) (fun r2 h2 => by have := hq (r2 + 1) (by omega); rw [zs_qas] at this; exact this) kk ls H locs (lv_sub hl [1, 0, 2, 3, 4, 5] rfl) hP hS
theorem zs_qle {T : zs_T} : ∀ (r n k : Nat), (∀ r2, r2 < r → (zs_qa T n k r2).2 < 16) → n ≤ 16 → (zs_qa T n k r).2 ≤ 16
  | 0, _, _, _, h => h
  | r + 1, n, k, hq, _ => by
    have hn : n < 16 := hq 0 (by omega)
    rw [zs_qas]
    exact zs_qle (T := (zs_jw (n + 1) (zs_q1 T n k)).1) r _ _ (fun r2 h2 => by have := hq (r2 + 1) (by omega); rw [zs_qas] at this; exact this) (Nat.le_trans (zs_jwle _ _) (by omega))
theorem zs_mrple {T : zs_T} {a : Nat} (hq : ∀ r, r < zs_n (T 4 a) → (zs_qa T 0 (128 * a) r).2 < 16) : (zs_mrp T a).2 ≤ 16 := zs_qle _ _ _ hq (by omega)
set_option maxHeartbeats 4000000 in
set_option maxRecDepth 100000 in
theorem zc_Mo_root (lc : Launch) (G : zw_G) (b0 : Nat) (T : zs_T) (i : Nat) (h : Int32) (hi : i < 2) (hz : ∀ q, T 4 q = nI (zs_n (T 4 q)) ∧ zs_n (T 4 q) ≤ 128) (hq : ∀ a r, a < 16 → r < zs_n (T 4 a) → (zs_qa T 0 (128 * a) r).2 < 16) : zw_M lc ym_Mo_root bm_Mo_root 6 (some .int) { frames := 2, cells := 0, slots := 0, locals := 50 } G b0 26 (zq_p G b0 T) [.ref (b0 + 0), .int (nI i), .int h] (zw_Qi G b0 26 (zq_p G b0 (zs_ms T i h)) (zs_mr T i h)) := by
  refine zw_of (by decide) (Nat.le_of_ble_eq_true rfl) ?_
  intro p e s m below meth cx ls F hr hlk hE hP hS hl
  have hl : lv_has ls 6 [(0, .ref (b0 + 0)), (1, .int (nI i)), (2, .int h)] := hl
  refine lv_iload_n F.1 F.2.1 dd_Mo_root_0 rfl (lv_at hl 1 rfl) ?_
  refine lv_iconst (v := nI 0) F.1 F.2.1 dd_Mo_root_1 (by decide) ?_
  refine lv_iconst (v := nI 1) F.1 F.2.1 dd_Mo_root_2 (by decide) ?_
  refine zw_goi (zw_rS F hE hP (zc_Mo_outside lc G b0 T (nI i) (nI 0) (nI 1)) zk_Mo_outside za_Mo_outside wl_Mo_91 ⟨rfl, rfl, Nat.le_of_ble_eq_true rfl, Nat.le_of_ble_eq_true rfl⟩ hl.1 rfl (Nat.le_of_ble_eq_true rfl) ⟨Nat.zero_le _, Nat.zero_le _⟩ dd_Mo_root_3) hS (fun _ h => h) (fun H locs hP _ _ hS => ?_)
  refine zn_bne F dd_Mo_root_6 (tgt := 18) rfl (fun h6 => absurd h6 (zn_ins (by omega) (by omega) (by decide))) (fun h6 => ?_)
  refine lv_aload_n F.1 F.2.1 dd_Mo_root_9 rfl (lv_at hl 0 rfl) ?_
  refine lv_iload_n F.1 F.2.1 dd_Mo_root_10 rfl (lv_at hl 1 rfl) ?_
  refine lv_iload_n F.1 F.2.1 dd_Mo_root_11 rfl (lv_at hl 2 rfl) ?_
  refine zw_goi (zw_rV F hE hP (zc_Mo_keeps lc G b0 T i h (by first | omega | assumption)) zk_Mo_keeps za_Mo_keeps zb_Mo_keeps wl_Mo_114 ⟨rfl, rfl, Nat.le_of_ble_eq_true rfl, Nat.le_of_ble_eq_true rfl⟩ (zm_recv hE hP rfl rfl) hl.1 rfl (Nat.le_of_ble_eq_true rfl) ⟨Nat.zero_le _, Nat.zero_le _⟩ dd_Mo_root_12) hS (fun _ h => h) (fun H locs hP _ _ hS => ?_)
  refine zn_bne F dd_Mo_root_15 (tgt := 20) rfl (fun h15 => ?_) (fun h15 => ?_)
  · obtain ⟨q, hqq, rfl⟩ := zs_mkq h15
    refine lv_bipush (v := nI 8) F.1 F.2.1 dd_Mo_root_20 (by decide) ?_
    refine lv_iload_n F.1 F.2.1 dd_Mo_root_22 rfl (lv_at hl 1 rfl) ?_
    refine zn_imul F dd_Mo_root_23 ?_
    refine lv_iload_n F.1 F.2.1 dd_Mo_root_24 rfl (lv_at hl 2 rfl) ?_
    refine lv_bipush (v := nI 8) F.1 F.2.1 dd_Mo_root_25 (by decide) ?_
    refine zn_irem F dd_Mo_root_27 (by omega) (by decide) (by decide) ?_
    refine zn_iadd F dd_Mo_root_28 ?_
    refine lv_istore_n F.1 F.2.1 dd_Mo_root_29 rfl hl (by decide) (lv' := [(3, .int (nI ((8 * i) + (q % 8)))), (0, .ref (b0 + 0)), (1, .int (nI i)), (2, .int (nI q))]) rfl (fun ls hl => ?_)
    refine lv_iconst (v := nI 0) F.1 F.2.1 dd_Mo_root_30 (by decide) ?_
    refine lv_istore F.1 F.2.1 dd_Mo_root_31 hl (by decide) (lv' := [(4, .int (nI 0)), (3, .int (nI ((8 * i) + (q % 8)))), (0, .ref (b0 + 0)), (1, .int (nI i)), (2, .int (nI q))]) rfl (fun ls hl => ?_)
    refine lv_sipush (v := nI 128) F.1 F.2.1 dd_Mo_root_33 (by decide) ?_
    refine lv_iload_n F.1 F.2.1 dd_Mo_root_36 rfl (lv_at hl 1 rfl) ?_
    refine zn_imul F dd_Mo_root_37 ?_
    refine lv_istore F.1 F.2.1 dd_Mo_root_38 hl (by decide) (lv' := [(5, .int (nI (128 * ((8 * i) + (q % 8))))), (4, .int (nI 0)), (3, .int (nI ((8 * i) + (q % 8)))), (0, .ref (b0 + 0)), (1, .int (nI i)), (2, .int (nI q))]) rfl (fun ls hl => ?_)
    refine zl_Mo_root1 lc G b0 ⟨Nat.le_of_ble_eq_true rfl, Nat.le_of_ble_eq_true rfl⟩ F hE (8 * i + q % 8) i q (zs_n (T 4 (8 * i + q % 8))) (by omega) (hz _).2 (zs_n (T 4 (8 * i + q % 8))) (128 * (8 * i + q % 8)) 0 T (hz _).1 rfl (fun r2 h2 => hq _ r2 (by omega) h2) (fun ls H locs hl hP hS => ?_) ls _ _ (lv_sub hl [1, 0, 2, 3, 4, 5] rfl) hP hS
    have hpl : (zs_mrp T (8 * i + q % 8)).2 ≤ 16 := zs_mrple (hq _ · (by omega))
    refine zl_Mo_root3 lc G b0 ⟨Nat.le_of_ble_eq_true rfl, Nat.le_of_ble_eq_true rfl⟩ F hE (8 * i + q % 8) i q _ (zs_mrp T (8 * i + q % 8)).2 (zs_mrp T (8 * i + q % 8)).1 hpl (fun ls H locs hl hP hS => ?_) ls H locs hl hP hS
    refine lv_iload F.1 F.2.1 dd_Mo_root_157 (lv_at hl 0 rfl) ?_
    refine lv_if_ne F.1 F.2.1 dd_Mo_root_159 (tgt := 166) rfl (fun h159 => ?_) (fun h159 => ?_)
    · refine lv_aload_n F.1 F.2.1 dd_Mo_root_166 rfl (lv_at hl 3 rfl) ?_
      refine zm_gF F hE hP rfl rfl zi_Mo 24 (by decide) rfl wf_Mo_80 rfl dd_Mo_root_167 ?_
      refine lv_iconst (v := nI 0) F.1 F.2.1 dd_Mo_root_170 (by decide) ?_
      refine zm_iald (x := 24) (k := 0) (N := 16) F hE hP (by decide) (fun _ => rfl) (by omega) (by decide) dd_Mo_root_171 ?_
      exact zw_iret F hr hlk hP hS (congrArg (zq_p G b0) (by rw [zs_ms, if_pos h15, nI_clamp hqq])) (by rw [zs_mr, if_pos h15, nI_clamp hqq, if_neg (fun z => h159 (zn_jn.mpr z))]) dd_Mo_root_172
    · refine lv_iconst (v := nI 0) F.1 F.2.1 dd_Mo_root_162 (by decide) ?_
      refine lv_goto F.1 F.2.1 dd_Mo_root_163 (tgt := 172) rfl ?_
      exact zw_iret F hr hlk hP hS (congrArg (zq_p G b0) (by rw [zs_ms, if_pos h15, nI_clamp hqq])) (by rw [zs_mr, if_pos h15, nI_clamp hqq, if_pos (zn_jn.mp h159)]) dd_Mo_root_172
  · refine lv_iconst (v := nI 0) F.1 F.2.1 dd_Mo_root_18 (by decide) ?_
    exact zw_iret F hr hlk hP hS (congrArg (zq_p G b0) (by rw [zs_ms, if_neg h15])) (by rw [zs_mr, if_neg h15]) dd_Mo_root_19
set_option maxHeartbeats 4000000 in
set_option maxRecDepth 100000 in
theorem zc_Mo_root_bad (lc : Launch) (G : zw_G) (b0 : Nat) (T : zs_T) (l : Int32) (h : Int32) (hb : ¬ zs_v l 2) : zw_M lc ym_Mo_root bm_Mo_root 6 (some .int) { frames := 1, cells := 0, slots := 0, locals := 22 } G b0 26 (zq_p G b0 T) [.ref (b0 + 0), .int l, .int h] (zw_Qi G b0 26 (zq_p G b0 T) (nI 0)) := by
  refine zw_of (by decide) (Nat.le_of_ble_eq_true rfl) ?_
  intro p e s m below meth cx ls F hr hlk hE hP hS hl
  have hl : lv_has ls 6 [(0, .ref (b0 + 0)), (1, .int l), (2, .int h)] := hl
  refine lv_iload_n F.1 F.2.1 dd_Mo_root_0 rfl (lv_at hl 1 rfl) ?_
  refine lv_iconst (v := nI 0) F.1 F.2.1 dd_Mo_root_1 (by decide) ?_
  refine lv_iconst (v := nI 1) F.1 F.2.1 dd_Mo_root_2 (by decide) ?_
  refine zw_goi (zw_rS F hE hP (zc_Mo_outside lc G b0 T l (nI 0) (nI 1)) zk_Mo_outside za_Mo_outside wl_Mo_91 ⟨rfl, rfl, Nat.le_of_ble_eq_true rfl, Nat.le_of_ble_eq_true rfl⟩ hl.1 rfl (Nat.le_of_ble_eq_true rfl) ⟨Nat.zero_le _, Nat.zero_le _⟩ dd_Mo_root_3) hS (fun _ h => h) (fun H locs hP _ _ hS => ?_)
  refine zn_bne F dd_Mo_root_6 (tgt := 18) rfl (fun h6 => ?_) (fun h6 => absurd (zs_vo (n := 1) (by decide) h6) hb)
  refine lv_iconst (v := nI 0) F.1 F.2.1 dd_Mo_root_18 (by decide) ?_
  exact zw_iret F hr hlk hP hS rfl rfl dd_Mo_root_19
