set_option maxHeartbeats 4000000 in
set_option maxRecDepth 100000 in
theorem zc_Mo_knows (lc : Launch) (G : zw_G) (b0 : Nat) (T : zs_T) (i : Nat) (h : Int32) (hi : i < 2) : zw_M lc ym_Mo_knows bm_Mo_knows 3 (some .boolean) { frames := 1, cells := 0, slots := 0, locals := 22 } G b0 26 (zq_p G b0 T) [.ref (b0 + 0), .int (nI i), .int h] (zw_Qi G b0 26 (zq_p G b0 T) (zn_b (zs_mn T i h))) := by
  refine zw_of (by decide) (Nat.le_of_ble_eq_true rfl) ?_
  intro p e s m below meth cx ls F hr hlk hE hP hS hl
  have hl : lv_has ls 3 [(0, .ref (b0 + 0)), (1, .int (nI i)), (2, .int h)] := hl
  refine lv_iload_n F.1 F.2.1 dd_Mo_knows_0 rfl (lv_at hl 1 rfl) ?_
  refine lv_iconst (v := nI 0) F.1 F.2.1 dd_Mo_knows_1 (by decide) ?_
  refine lv_iconst (v := nI 1) F.1 F.2.1 dd_Mo_knows_2 (by decide) ?_
  refine zw_goi (zw_rS F hE hP (zc_Mo_outside lc G b0 T (nI i) (nI 0) (nI 1)) zk_Mo_outside za_Mo_outside wl_Mo_91 ⟨rfl, rfl, Nat.le_of_ble_eq_true rfl, Nat.le_of_ble_eq_true rfl⟩ hl.1 rfl (Nat.le_of_ble_eq_true rfl) ⟨Nat.zero_le _, Nat.zero_le _⟩ dd_Mo_knows_3) hS (fun _ h => h) (fun H locs hP _ _ hS => ?_)
  refine zn_bne F dd_Mo_knows_6 (tgt := 39) rfl (fun h6 => absurd h6 (zn_ins (by omega) (by omega) (by decide))) (fun h6 => ?_)
  refine lv_iload_n F.1 F.2.1 dd_Mo_knows_9 rfl (lv_at hl 2 rfl) ?_
  refine lv_iconst (v := nI 1) F.1 F.2.1 dd_Mo_knows_10 (by decide) ?_
  refine lv_sipush (v := nI 1099) F.1 F.2.1 dd_Mo_knows_11 (by decide) ?_
  refine zw_goi (zw_rS F hE hP (zc_Mo_outside lc G b0 T h (nI 1) (nI 1099)) zk_Mo_outside za_Mo_outside wl_Mo_91 ⟨rfl, rfl, Nat.le_of_ble_eq_true rfl, Nat.le_of_ble_eq_true rfl⟩ hl.1 rfl (Nat.le_of_ble_eq_true rfl) ⟨Nat.zero_le _, Nat.zero_le _⟩ dd_Mo_knows_14) hS (fun _ h => h) (fun H locs hP _ _ hS => ?_)
  refine zn_bne F dd_Mo_knows_17 (tgt := 39) rfl (fun h17 => ?_) (fun h17 => ?_)
  · refine lv_iconst (v := nI 0) F.1 F.2.1 dd_Mo_knows_39 (by decide) ?_
    exact zw_zret F hr hlk hP hS rfl (by decide) ((zn_b0 (fun z => z.1 h17)).symm) dd_Mo_knows_40
  · obtain ⟨q, hq, hq1, rfl⟩ := zs_oq (by decide) h17
    refine lv_aload_n F.1 F.2.1 dd_Mo_knows_20 rfl (lv_at hl 0 rfl) ?_
    refine zm_gF F hE hP rfl rfl zi_Mo 2 (by decide) rfl wf_Mo_13 rfl dd_Mo_knows_21 ?_
    refine lv_sipush (v := nI 1100) F.1 F.2.1 dd_Mo_knows_24 (by decide) ?_
    refine lv_iload_n F.1 F.2.1 dd_Mo_knows_27 rfl (lv_at hl 1 rfl) ?_
    refine zn_imul F dd_Mo_knows_28 ?_
    refine lv_iload_n F.1 F.2.1 dd_Mo_knows_29 rfl (lv_at hl 2 rfl) ?_
    refine zn_iadd F dd_Mo_knows_30 ?_
    refine zm_zald (x := 2) (k := (1100 * i) + q) (N := 2200) F hE hP (by decide) (fun _ => rfl) (by omega) (by decide) dd_Mo_knows_31 ?_
    refine lv_if_eq F.1 F.2.1 dd_Mo_knows_32 (tgt := 39) rfl (fun h32 => ?_) (fun h32 => ?_)
    · refine lv_iconst (v := nI 0) F.1 F.2.1 dd_Mo_knows_39 (by decide) ?_
      exact zw_zret F hr hlk hP hS rfl (by decide) ((zn_b0 (fun z => z.2 (by rw [nI_clamp (by omega)]; exact h32))).symm) dd_Mo_knows_40
    · refine lv_iconst (v := nI 1) F.1 F.2.1 dd_Mo_knows_35 (by decide) ?_
      refine lv_goto F.1 F.2.1 dd_Mo_knows_36 (tgt := 40) rfl ?_
      exact zw_zret F hr hlk hP hS rfl (by decide) ((zn_b1 ⟨h17, by rw [nI_clamp (by omega)]; exact h32⟩).symm) dd_Mo_knows_40
set_option maxHeartbeats 4000000 in
set_option maxRecDepth 100000 in
theorem zc_Mo_knows_bad (lc : Launch) (G : zw_G) (b0 : Nat) (T : zs_T) (l : Int32) (h : Int32) (hb : ¬ zs_v l 2) : zw_M lc ym_Mo_knows bm_Mo_knows 3 (some .boolean) { frames := 1, cells := 0, slots := 0, locals := 22 } G b0 26 (zq_p G b0 T) [.ref (b0 + 0), .int l, .int h] (zw_Qi G b0 26 (zq_p G b0 T) (nI 0)) := by
  refine zw_of (by decide) (Nat.le_of_ble_eq_true rfl) ?_
  intro p e s m below meth cx ls F hr hlk hE hP hS hl
  have hl : lv_has ls 3 [(0, .ref (b0 + 0)), (1, .int l), (2, .int h)] := hl
  refine lv_iload_n F.1 F.2.1 dd_Mo_knows_0 rfl (lv_at hl 1 rfl) ?_
  refine lv_iconst (v := nI 0) F.1 F.2.1 dd_Mo_knows_1 (by decide) ?_
  refine lv_iconst (v := nI 1) F.1 F.2.1 dd_Mo_knows_2 (by decide) ?_
  refine zw_goi (zw_rS F hE hP (zc_Mo_outside lc G b0 T l (nI 0) (nI 1)) zk_Mo_outside za_Mo_outside wl_Mo_91 ⟨rfl, rfl, Nat.le_of_ble_eq_true rfl, Nat.le_of_ble_eq_true rfl⟩ hl.1 rfl (Nat.le_of_ble_eq_true rfl) ⟨Nat.zero_le _, Nat.zero_le _⟩ dd_Mo_knows_3) hS (fun _ h => h) (fun H locs hP _ _ hS => ?_)
  refine zn_bne F dd_Mo_knows_6 (tgt := 39) rfl (fun h6 => ?_) (fun h6 => absurd (zs_vo (n := 1) (by decide) h6) hb)
  refine lv_iconst (v := nI 0) F.1 F.2.1 dd_Mo_knows_39 (by decide) ?_
  exact zw_zret F hr hlk hP hS rfl (by decide) rfl dd_Mo_knows_40
set_option maxHeartbeats 4000000 in
set_option maxRecDepth 100000 in
theorem zl_Mo_proof {p : Program} {e : Env} {R : Room} {s : State} {m : MethodId} {below : List Frame} {meth : Method} {cx : Code} {av : Array Value} (lc : Launch) (G : zw_G) (b0 : Nat) (T : zs_T) (i q : Nat) (y f v : Int32) (hi : i < 2) (hz : T 4 (8 * (1 - i) + q % 8) = nI (zs_n (T 4 (8 * (1 - i) + q % 8)))) (hz2 : zs_n (T 4 (8 * (1 - i) + q % 8)) ≤ 128) (r0 : Int32) (F : CallFix p m cx bm_Mo_proof 9 s av zw_WS "TwinLedgersModel") (hr : meth.sig.returnType = some .int) (hlk : meth.locks = false) (hE : zw_E G s) : ∀ (r k : Nat), k + r = 128 * (8 * (1 - i) + q % 8) + zs_n (T 4 (8 * (1 - i) + q % 8)) → zs_sc (T 5) (T 6) y f v k r = r0 → ∀ (ls : Array Slot) (H : Heap) (locs : List Loc), lv_has ls 9 [(8, .int (nI k)), (7, .int (nI (8 * (1 - i) + q % 8))), (6, .int (nI (1 - i))), (0, .ref (b0 + 0)), (1, .int (nI i)), (2, .int (nI q)), (3, .int y), (4, .int f), (5, .int v)] → va_P G.1 zw_cl (zw_l b0 26 (zq_p G b0 T)) H → va_S (zw_A b0 26) s.heap H locs → W p lc e R s m av below meth cx H locs 0 0 (MQ below (zw_Qi G b0 26 (zq_p G b0 T) r0) av s 0 0 (zw_A b0 26)) (F0 m 50 ls []) := by
  intro r
  induction r with
  | zero =>
    intro k hk hres ls H locs hl hP hS
    refine lv_iload F.1 F.2.1 dd_Mo_proof_50 (lv_at hl 0 rfl) ?_
    refine lv_sipush (v := nI 128) F.1 F.2.1 dd_Mo_proof_52 (by decide) ?_
    refine lv_iload F.1 F.2.1 dd_Mo_proof_55 (lv_at hl 1 rfl) ?_
    refine zn_imul F dd_Mo_proof_57 ?_
    refine lv_aload_n F.1 F.2.1 dd_Mo_proof_58 rfl (lv_at hl 3 rfl) ?_
    refine zm_gF F hE hP rfl rfl zi_Mo 4 (by decide) rfl wf_Mo_20 rfl dd_Mo_proof_59 ?_
    refine lv_iload F.1 F.2.1 dd_Mo_proof_62 (lv_at hl 1 rfl) ?_
    refine zm_iald (x := 4) (k := 8 * (1 - i) + q % 8) (N := 16) F hE hP (by decide) (fun _ => rfl) (by omega) (by decide) dd_Mo_proof_64 ?_
    refine zn_top (y := nI (zs_n (T 4 (8 * (1 - i) + q % 8)))) (hz) ?_
    refine zn_iadd F dd_Mo_proof_65 ?_
    refine zn_cge F dd_Mo_proof_66 (tgt := 110) rfl (by omega) (by omega) (fun h66 => ?_) (fun h66 => absurd (show 128 * (8 * (1 - i) + q % 8) + zs_n (T 4 (8 * (1 - i) + q % 8)) ≤ k by omega) h66)
    refine lv_iload F.1 F.2.1 dd_Mo_proof_110 (lv_at hl 7 rfl) ?_
    refine lv_if_eq F.1 F.2.1 dd_Mo_proof_112 (tgt := 119) rfl (fun h112 => ?_) (fun h112 => ?_)
    · refine lv_bipush (v := (-5)) F.1 F.2.1 dd_Mo_proof_119 (by decide) ?_
      exact zw_iret F hr hlk hP hS rfl (by rw [← hres, zs_sc0, if_pos h112]) dd_Mo_proof_121
    · refine lv_iconst (v := nI 0) F.1 F.2.1 dd_Mo_proof_115 (by decide) ?_
      refine lv_goto F.1 F.2.1 dd_Mo_proof_116 (tgt := 121) rfl ?_
      exact zw_iret F hr hlk hP hS rfl (by rw [← hres, zs_sc0, if_neg h112]) dd_Mo_proof_121
  | succ r ih =>
    intro k hk hres ls H locs hl hP hS
    refine lv_iload F.1 F.2.1 dd_Mo_proof_50 (lv_at hl 0 rfl) ?_
    refine lv_sipush (v := nI 128) F.1 F.2.1 dd_Mo_proof_52 (by decide) ?_
    refine lv_iload F.1 F.2.1 dd_Mo_proof_55 (lv_at hl 1 rfl) ?_
    refine zn_imul F dd_Mo_proof_57 ?_
    refine lv_aload_n F.1 F.2.1 dd_Mo_proof_58 rfl (lv_at hl 3 rfl) ?_
    refine zm_gF F hE hP rfl rfl zi_Mo 4 (by decide) rfl wf_Mo_20 rfl dd_Mo_proof_59 ?_
    refine lv_iload F.1 F.2.1 dd_Mo_proof_62 (lv_at hl 1 rfl) ?_
    refine zm_iald (x := 4) (k := 8 * (1 - i) + q % 8) (N := 16) F hE hP (by decide) (fun _ => rfl) (by omega) (by decide) dd_Mo_proof_64 ?_
    refine zn_top (y := nI (zs_n (T 4 (8 * (1 - i) + q % 8)))) (hz) ?_
    refine zn_iadd F dd_Mo_proof_65 ?_
    refine zn_cge F dd_Mo_proof_66 (tgt := 110) rfl (by omega) (by omega) (fun h66 => absurd h66 (by omega)) (fun h66 => ?_)
    refine lv_aload_n F.1 F.2.1 dd_Mo_proof_69 rfl (lv_at hl 3 rfl) ?_
    refine zm_gF F hE hP rfl rfl zi_Mo 5 (by decide) rfl wf_Mo_23 rfl dd_Mo_proof_70 ?_
    refine lv_iload F.1 F.2.1 dd_Mo_proof_73 (lv_at hl 0 rfl) ?_
    refine zm_iald (x := 5) (k := k) (N := 2048) F hE hP (by decide) (fun _ => rfl) (by omega) (by decide) dd_Mo_proof_75 ?_
    refine lv_iload_n F.1 F.2.1 dd_Mo_proof_76 rfl (lv_at hl 6 rfl) ?_
    refine lv_icmp_ne F.1 F.2.1 dd_Mo_proof_77 (tgt := 104) rfl (fun h77 => ?_) (fun h77 => ?_)
    · refine lv_iinc F.1 F.2.1 dd_Mo_proof_104 hl (k := 0) rfl (v := nI (k + 1)) (nI_1 _) (by decide) (lv' := [(8, .int (nI (k + 1))), (7, .int (nI (8 * (1 - i) + q % 8))), (6, .int (nI (1 - i))), (0, .ref (b0 + 0)), (1, .int (nI i)), (2, .int (nI q)), (3, .int y), (4, .int f), (5, .int v)]) rfl (fun ls hl => ?_)
      refine lv_goto F.1 F.2.1 dd_Mo_proof_107 (tgt := 50) rfl ?_
      exact ih (k + 1) (by omega) (by rw [← hres, zs_scs, if_neg h77]) ls H locs (lv_sub hl [0, 1, 2, 3, 4, 5, 6, 7, 8] rfl) hP hS
    · refine lv_iload F.1 F.2.1 dd_Mo_proof_80 (lv_at hl 7 rfl) ?_
      refine lv_if_ne F.1 F.2.1 dd_Mo_proof_82 (tgt := 101) rfl (fun h82 => ?_) (fun h82 => ?_)
      · refine lv_bipush (v := (-5)) F.1 F.2.1 dd_Mo_proof_101 (by decide) ?_
        exact zw_iret F hr hlk hP hS rfl (by rw [← hres, zs_scs, if_pos h77, if_neg h82]) dd_Mo_proof_103
      · refine lv_aload_n F.1 F.2.1 dd_Mo_proof_85 rfl (lv_at hl 3 rfl) ?_
        refine zm_gF F hE hP rfl rfl zi_Mo 6 (by decide) rfl wf_Mo_26 rfl dd_Mo_proof_86 ?_
        refine lv_iload F.1 F.2.1 dd_Mo_proof_89 (lv_at hl 0 rfl) ?_
        refine zm_iald (x := 6) (k := k) (N := 2048) F hE hP (by decide) (fun _ => rfl) (by omega) (by decide) dd_Mo_proof_91 ?_
        refine lv_iload F.1 F.2.1 dd_Mo_proof_92 (lv_at hl 8 rfl) ?_
        refine lv_icmp_ne F.1 F.2.1 dd_Mo_proof_94 (tgt := 101) rfl (fun h94 => ?_) (fun h94 => ?_)
        · refine lv_bipush (v := (-5)) F.1 F.2.1 dd_Mo_proof_101 (by decide) ?_
          exact zw_iret F hr hlk hP hS rfl (by rw [← hres, zs_scs, if_pos h77, if_pos h82, if_neg h94]) dd_Mo_proof_103
        · refine lv_iconst (v := nI 0) F.1 F.2.1 dd_Mo_proof_97 (by decide) ?_
          refine lv_goto F.1 F.2.1 dd_Mo_proof_98 (tgt := 103) rfl ?_
          exact zw_iret F hr hlk hP hS rfl (by rw [← hres, zs_scs, if_pos h77, if_pos h82, if_pos h94]) dd_Mo_proof_103
set_option maxHeartbeats 4000000 in
set_option maxRecDepth 100000 in
theorem zc_Mo_proof (lc : Launch) (G : zw_G) (b0 : Nat) (T : zs_T) (i : Nat) (h : Int32) (y : Int32) (f : Int32) (v : Int32) (hi : i < 2) (hz : ∀ q, T 4 q = nI (zs_n (T 4 q)) ∧ zs_n (T 4 q) ≤ 128) : zw_M lc ym_Mo_proof bm_Mo_proof 9 (some .int) { frames := 2, cells := 0, slots := 0, locals := 48 } G b0 26 (zq_p G b0 T) [.ref (b0 + 0), .int (nI i), .int h, .int y, .int f, .int v] (zw_Qi G b0 26 (zq_p G b0 T) (zs_pf T i h y f v)) := by
  refine zw_of (by decide) (Nat.le_of_ble_eq_true rfl) ?_
  intro p e s m below meth cx ls F hr hlk hE hP hS hl
  have hl : lv_has ls 9 [(0, .ref (b0 + 0)), (1, .int (nI i)), (2, .int h), (3, .int y), (4, .int f), (5, .int v)] := hl
  refine lv_iconst (v := nI 1) F.1 F.2.1 dd_Mo_proof_0 (by decide) ?_
  refine lv_iload_n F.1 F.2.1 dd_Mo_proof_1 rfl (lv_at hl 1 rfl) ?_
  refine zn_isub F dd_Mo_proof_2 (by omega) ?_
  refine lv_istore F.1 F.2.1 dd_Mo_proof_3 hl (by decide) (lv' := [(6, .int (nI (1 - i))), (0, .ref (b0 + 0)), (1, .int (nI i)), (2, .int h), (3, .int y), (4, .int f), (5, .int v)]) rfl (fun ls hl => ?_)
  refine lv_aload_n F.1 F.2.1 dd_Mo_proof_5 rfl (lv_at hl 1 rfl) ?_
  refine lv_iload_n F.1 F.2.1 dd_Mo_proof_6 rfl (lv_at hl 2 rfl) ?_
  refine lv_iload_n F.1 F.2.1 dd_Mo_proof_7 rfl (lv_at hl 3 rfl) ?_
  refine zw_goi (zw_rV F hE hP (zc_Mo_knows lc G b0 T i h (by first | omega | assumption)) zk_Mo_knows za_Mo_knows zb_Mo_knows wl_Mo_110 ⟨rfl, rfl, Nat.le_of_ble_eq_true rfl, Nat.le_of_ble_eq_true rfl⟩ (zm_recv hE hP rfl rfl) hl.1 rfl (Nat.le_of_ble_eq_true rfl) ⟨Nat.zero_le _, Nat.zero_le _⟩ dd_Mo_proof_8) hS (fun _ h => h) (fun H locs hP _ _ hS => ?_)
  refine zn_bne F dd_Mo_proof_11 (tgt := 17) rfl (fun h11 => ?_) (fun h11 => ?_)
  · refine lv_aload_n F.1 F.2.1 dd_Mo_proof_17 rfl (lv_at hl 1 rfl) ?_
    refine lv_iload F.1 F.2.1 dd_Mo_proof_18 (lv_at hl 0 rfl) ?_
    refine lv_iload_n F.1 F.2.1 dd_Mo_proof_20 rfl (lv_at hl 3 rfl) ?_
    refine zw_goi (zw_rV F hE hP (zc_Mo_keeps lc G b0 T (1 - i) h (by first | omega | assumption)) zk_Mo_keeps za_Mo_keeps zb_Mo_keeps wl_Mo_114 ⟨rfl, rfl, Nat.le_of_ble_eq_true rfl, Nat.le_of_ble_eq_true rfl⟩ (zm_recv hE hP rfl rfl) hl.1 rfl (Nat.le_of_ble_eq_true rfl) ⟨Nat.zero_le _, Nat.zero_le _⟩ dd_Mo_proof_21) hS (fun _ h => h) (fun H locs hP _ _ hS => ?_)
    refine zn_bne F dd_Mo_proof_24 (tgt := 30) rfl (fun h24 => ?_) (fun h24 => ?_)
    · obtain ⟨q, hq, rfl⟩ := zs_mkq h24
      refine lv_bipush (v := nI 8) F.1 F.2.1 dd_Mo_proof_30 (by decide) ?_
      refine lv_iload F.1 F.2.1 dd_Mo_proof_32 (lv_at hl 0 rfl) ?_
      refine zn_imul F dd_Mo_proof_34 ?_
      refine lv_iload_n F.1 F.2.1 dd_Mo_proof_35 rfl (lv_at hl 3 rfl) ?_
      refine lv_bipush (v := nI 8) F.1 F.2.1 dd_Mo_proof_36 (by decide) ?_
      refine zn_irem F dd_Mo_proof_38 (by omega) (by decide) (by decide) ?_
      refine zn_iadd F dd_Mo_proof_39 ?_
      refine lv_istore F.1 F.2.1 dd_Mo_proof_40 hl (by decide) (lv' := [(7, .int (nI ((8 * (1 - i)) + (q % 8)))), (6, .int (nI (1 - i))), (0, .ref (b0 + 0)), (1, .int (nI i)), (2, .int (nI q)), (3, .int y), (4, .int f), (5, .int v)]) rfl (fun ls hl => ?_)
      refine lv_sipush (v := nI 128) F.1 F.2.1 dd_Mo_proof_42 (by decide) ?_
      refine lv_iload F.1 F.2.1 dd_Mo_proof_45 (lv_at hl 0 rfl) ?_
      refine zn_imul F dd_Mo_proof_47 ?_
      refine lv_istore F.1 F.2.1 dd_Mo_proof_48 hl (by decide) (lv' := [(8, .int (nI (128 * ((8 * (1 - i)) + (q % 8))))), (7, .int (nI ((8 * (1 - i)) + (q % 8)))), (6, .int (nI (1 - i))), (0, .ref (b0 + 0)), (1, .int (nI i)), (2, .int (nI q)), (3, .int y), (4, .int f), (5, .int v)]) rfl (fun ls hl => ?_)
      exact zl_Mo_proof lc G b0 T i q y f v hi (hz _).1 (hz _).2 _ F hr hlk hE _ _ rfl (by rw [zs_pf, if_pos h11, if_pos h24, nI_clamp hq]) ls _ _ (lv_sub hl [0, 1, 2, 3, 4, 5, 6, 7, 8] rfl) hP hS
    · refine lv_bipush (v := (-4)) F.1 F.2.1 dd_Mo_proof_27 (by decide) ?_
      exact zw_iret F hr hlk hP hS rfl (by rw [zs_pf, if_pos h11, if_neg h24]) dd_Mo_proof_29
  · refine lv_bipush (v := (-3)) F.1 F.2.1 dd_Mo_proof_14 (by decide) ?_
    exact zw_iret F hr hlk hP hS rfl (by rw [zs_pf, if_neg h11]) dd_Mo_proof_16
set_option maxHeartbeats 4000000 in
set_option maxRecDepth 100000 in
theorem zc_Mo_join (lc : Launch) (G : zw_G) (b0 : Nat) (T : zs_T) (n : Nat) (hn : 2 ≤ n) (hn2 : n ≤ 16) : zw_M lc ym_Mo_join bm_Mo_join 2 (some .int) { frames := 1, cells := 0, slots := 0, locals := 22 } G b0 26 (zq_p G b0 T) [.ref (b0 + 0), .int (nI n)] (zw_Qi G b0 26 (zq_p G b0 (zs_jo T n)) (nI (n - 1))) := by
  refine zw_of (by decide) (Nat.le_of_ble_eq_true rfl) ?_
  intro p e s m below meth cx ls F hr hlk hE hP hS hl
  have hl : lv_has ls 2 [(0, .ref (b0 + 0)), (1, .int (nI n))] := hl
  refine lv_aload_n F.1 F.2.1 dd_Mo_join_0 rfl (lv_at hl 0 rfl) ?_
  refine zm_gF F hE hP rfl rfl zi_Mo 24 (by decide) rfl wf_Mo_80 rfl dd_Mo_join_1 ?_
  refine lv_iload_n F.1 F.2.1 dd_Mo_join_4 rfl (lv_at hl 1 rfl) ?_
  refine lv_iconst (v := nI 2) F.1 F.2.1 dd_Mo_join_5 (by decide) ?_
  refine zn_isub F dd_Mo_join_6 (by omega) ?_
  refine lv_iconst (v := nI 2) F.1 F.2.1 dd_Mo_join_7 (by decide) ?_
  refine lv_aload_n F.1 F.2.1 dd_Mo_join_8 rfl (lv_at hl 0 rfl) ?_
  refine zm_gF F hE hP rfl rfl zi_Mo 24 (by decide) rfl wf_Mo_80 rfl dd_Mo_join_9 ?_
  refine lv_iload_n F.1 F.2.1 dd_Mo_join_12 rfl (lv_at hl 1 rfl) ?_
  refine lv_iconst (v := nI 2) F.1 F.2.1 dd_Mo_join_13 (by decide) ?_
  refine zn_isub F dd_Mo_join_14 (by omega) ?_
  refine zm_iald (x := 24) (k := n - 2) (N := 16) F hE hP (by decide) (fun _ => rfl) (by omega) (by decide) dd_Mo_join_15 ?_
  refine zw_goi (zw_rS F hE hP (zc_Mo_mix lc G b0 T (nI 2) (T 24 (n - 2))) zk_Mo_mix za_Mo_mix wl_Mo_107 ⟨rfl, rfl, Nat.le_of_ble_eq_true rfl, Nat.le_of_ble_eq_true rfl⟩ hl.1 rfl (Nat.le_of_ble_eq_true rfl) ⟨Nat.zero_le _, Nat.zero_le _⟩ dd_Mo_join_16) hS (fun _ h => h) (fun H locs hP _ _ hS => ?_)
  refine lv_aload_n F.1 F.2.1 dd_Mo_join_19 rfl (lv_at hl 0 rfl) ?_
  refine zm_gF F hE hP rfl rfl zi_Mo 24 (by decide) rfl wf_Mo_80 rfl dd_Mo_join_20 ?_
  refine lv_iload_n F.1 F.2.1 dd_Mo_join_23 rfl (lv_at hl 1 rfl) ?_
  refine lv_iconst (v := nI 1) F.1 F.2.1 dd_Mo_join_24 (by decide) ?_
  refine zn_isub F dd_Mo_join_25 (by omega) ?_
  refine zm_iald (x := 24) (k := n - 1) (N := 16) F hE hP (by decide) (fun _ => rfl) (by omega) (by decide) dd_Mo_join_26 ?_
  refine zw_goi (zw_rS F hE hP (zc_Mo_mix lc G b0 T (zs_mix (nI 2) (T 24 (n - 2))) (T 24 (n - 1))) zk_Mo_mix za_Mo_mix wl_Mo_107 ⟨rfl, rfl, Nat.le_of_ble_eq_true rfl, Nat.le_of_ble_eq_true rfl⟩ hl.1 rfl (Nat.le_of_ble_eq_true rfl) ⟨Nat.zero_le _, Nat.zero_le _⟩ dd_Mo_join_27) hS (fun _ h => h) (fun H locs hP _ _ hS => ?_)
  refine zm_iast (x := 24) (k := n - 2) (N := 16) F hE hP hS (fun _ h => h) (by decide) (fun _ => rfl) (by omega) (by decide)  dd_Mo_join_30 (fun H locs hP hS => ?_)
  refine lv_aload_n F.1 F.2.1 dd_Mo_join_31 rfl (lv_at hl 0 rfl) ?_
  refine zm_gF F hE hP rfl rfl zi_Mo 25 (by decide) rfl wf_Mo_83 rfl dd_Mo_join_32 ?_
  refine lv_iload_n F.1 F.2.1 dd_Mo_join_35 rfl (lv_at hl 1 rfl) ?_
  refine lv_iconst (v := nI 2) F.1 F.2.1 dd_Mo_join_36 (by decide) ?_
  refine zn_isub F dd_Mo_join_37 (by omega) ?_
  refine lv_aload_n F.1 F.2.1 dd_Mo_join_38 rfl (lv_at hl 0 rfl) ?_
  refine zm_gF F hE hP rfl rfl zi_Mo 25 (by decide) rfl wf_Mo_83 rfl dd_Mo_join_39 ?_
  refine lv_iload_n F.1 F.2.1 dd_Mo_join_42 rfl (lv_at hl 1 rfl) ?_
  refine lv_iconst (v := nI 2) F.1 F.2.1 dd_Mo_join_43 (by decide) ?_
  refine zn_isub F dd_Mo_join_44 (by omega) ?_
  refine zm_iald (x := 25) (k := n - 2) (N := 16) F hE hP (by decide) (fun _ => rfl) (by omega) (by decide) dd_Mo_join_45 ?_
  refine zn_top (y := T 25 (n - 2)) (by rw [zs_wx (by decide)]) ?_
  refine lv_aload_n F.1 F.2.1 dd_Mo_join_46 rfl (lv_at hl 0 rfl) ?_
  refine zm_gF F hE hP rfl rfl zi_Mo 25 (by decide) rfl wf_Mo_83 rfl dd_Mo_join_47 ?_
  refine lv_iload_n F.1 F.2.1 dd_Mo_join_50 rfl (lv_at hl 1 rfl) ?_
  refine lv_iconst (v := nI 1) F.1 F.2.1 dd_Mo_join_51 (by decide) ?_
  refine zn_isub F dd_Mo_join_52 (by omega) ?_
  refine zm_iald (x := 25) (k := n - 1) (N := 16) F hE hP (by decide) (fun _ => rfl) (by omega) (by decide) dd_Mo_join_53 ?_
  refine zn_top (y := T 25 (n - 1)) (by rw [zs_wx (by decide)]) ?_
  refine lv_iadd F.1 F.2.1 dd_Mo_join_54 ?_
  refine zm_iast (x := 25) (k := n - 2) (N := 16) F hE hP hS (fun _ h => h) (by decide) (fun _ => rfl) (by omega) (by decide)  dd_Mo_join_55 (fun H locs hP hS => ?_)
  refine lv_iload_n F.1 F.2.1 dd_Mo_join_56 rfl (lv_at hl 1 rfl) ?_
  refine lv_iconst (v := nI 1) F.1 F.2.1 dd_Mo_join_57 (by decide) ?_
  refine zn_isub F dd_Mo_join_58 (by omega) ?_
  exact zw_iret F hr hlk hP hS rfl rfl dd_Mo_join_59
def zr_Mo_init (T : zs_T) (i : Nat) (c : Nat) (w : Int32) : Int32 := if T 7 ((3 * i) + c) = 0 then (nI 0) else ((-2))
def zu_Mo_init (T : zs_T) (i : Nat) (c : Nat) (w : Int32) : zs_T := if T 7 ((3 * i) + c) = 0 then (zs_w (zs_w T 7 ((3 * i) + c) (nI 1)) 8 ((3 * i) + c) w) else (T)
set_option maxHeartbeats 4000000 in
set_option maxRecDepth 100000 in
theorem zc_Mo_init (lc : Launch) (G : zw_G) (b0 : Nat) (T : zs_T) (i : Nat) (c : Nat) (w : Int32) (hi : i < 2) (hc : c < 3) (hw : w = 0 ∨ w = 1) : zw_M lc ym_Mo_init bm_Mo_init 5 (some .int) { frames := 2, cells := 0, slots := 0, locals := 43 } G b0 26 (zq_p G b0 T) [.ref (b0 + 0), .int (nI i), .int (nI c), .int w] (zw_Qi G b0 26 (zq_p G b0 (zu_Mo_init T i c w)) (zr_Mo_init T i c w)) := by
  refine zw_of (by decide) (Nat.le_of_ble_eq_true rfl) ?_
  intro p e s m below meth cx ls F hr hlk hE hP hS hl
  have hl : lv_has ls 5 [(0, .ref (b0 + 0)), (1, .int (nI i)), (2, .int (nI c)), (3, .int w)] := hl
  refine lv_iload_n F.1 F.2.1 dd_Mo_init_0 rfl (lv_at hl 1 rfl) ?_
  refine lv_iload_n F.1 F.2.1 dd_Mo_init_1 rfl (lv_at hl 2 rfl) ?_
  refine zw_goi (zw_rS F hE hP (zc_Mo_isEnd lc G b0 T i c (by first | omega | assumption) (by first | omega | assumption)) zk_Mo_isEnd za_Mo_isEnd wl_Mo_121 ⟨rfl, rfl, Nat.le_of_ble_eq_true rfl, Nat.le_of_ble_eq_true rfl⟩ hl.1 rfl (Nat.le_of_ble_eq_true rfl) ⟨Nat.zero_le _, Nat.zero_le _⟩ dd_Mo_init_2) hS (fun _ h => h) (fun H locs hP _ _ hS => ?_)
  refine lv_if_ne F.1 F.2.1 dd_Mo_init_5 (tgt := 10) rfl (fun h5 => ?_) (fun h5 => absurd h5 (by decide))
  refine lv_iconst (v := nI 3) F.1 F.2.1 dd_Mo_init_10 (by decide) ?_
  refine lv_iload_n F.1 F.2.1 dd_Mo_init_11 rfl (lv_at hl 1 rfl) ?_
  refine zn_imul F dd_Mo_init_12 ?_
  refine lv_iload_n F.1 F.2.1 dd_Mo_init_13 rfl (lv_at hl 2 rfl) ?_
  refine zn_iadd F dd_Mo_init_14 ?_
  refine lv_istore F.1 F.2.1 dd_Mo_init_15 hl (by decide) (lv' := [(4, .int (nI ((3 * i) + c))), (0, .ref (b0 + 0)), (1, .int (nI i)), (2, .int (nI c)), (3, .int w)]) rfl (fun ls hl => ?_)
  refine lv_aload_n F.1 F.2.1 dd_Mo_init_17 rfl (lv_at hl 1 rfl) ?_
  refine zm_gF F hE hP rfl rfl zi_Mo 7 (by decide) rfl wf_Mo_29 rfl dd_Mo_init_18 ?_
  refine lv_iload F.1 F.2.1 dd_Mo_init_21 (lv_at hl 0 rfl) ?_
  refine zm_iald (x := 7) (k := (3 * i) + c) (N := 6) F hE hP (by decide) (fun _ => rfl) (by omega) (by decide) dd_Mo_init_23 ?_
  refine lv_if_eq F.1 F.2.1 dd_Mo_init_24 (tgt := 30) rfl (fun h24 => ?_) (fun h24 => ?_)
  · refine lv_aload_n F.1 F.2.1 dd_Mo_init_30 rfl (lv_at hl 1 rfl) ?_
    refine zm_gF F hE hP rfl rfl zi_Mo 7 (by decide) rfl wf_Mo_29 rfl dd_Mo_init_31 ?_
    refine lv_iload F.1 F.2.1 dd_Mo_init_34 (lv_at hl 0 rfl) ?_
    refine lv_iconst (v := nI 1) F.1 F.2.1 dd_Mo_init_36 (by decide) ?_
    refine zm_iast (x := 7) (k := (3 * i) + c) (N := 6) F hE hP hS (fun _ h => h) (by decide) (fun _ => rfl) (by omega) (by decide)  dd_Mo_init_37 (fun H locs hP hS => ?_)
    refine lv_aload_n F.1 F.2.1 dd_Mo_init_38 rfl (lv_at hl 1 rfl) ?_
    refine zm_gF F hE hP rfl rfl zi_Mo 8 (by decide) rfl wf_Mo_32 rfl dd_Mo_init_39 ?_
    refine lv_iload F.1 F.2.1 dd_Mo_init_42 (lv_at hl 0 rfl) ?_
    refine lv_iload_n F.1 F.2.1 dd_Mo_init_44 rfl (lv_at hl 4 rfl) ?_
    refine zm_zast (x := 8) (k := (3 * i) + c) (N := 6) F hE hP hS (fun _ h => h) (by decide) (fun _ => rfl) (by omega) (by decide) hw dd_Mo_init_45 (fun H locs hP hS => ?_)
    refine lv_iconst (v := nI 0) F.1 F.2.1 dd_Mo_init_46 (by decide) ?_
    exact zw_iret F hr hlk hP hS (congrArg (zq_p G b0) (by rw [zu_Mo_init, if_pos h24])) (by rw [zr_Mo_init, if_pos h24]) dd_Mo_init_47
  · refine lv_bipush (v := (-2)) F.1 F.2.1 dd_Mo_init_27 (by decide) ?_
    exact zw_iret F hr hlk hP hS (congrArg (zq_p G b0) (by rw [zu_Mo_init, if_neg h24])) (by rw [zr_Mo_init, if_neg h24]) dd_Mo_init_29
set_option maxHeartbeats 4000000 in
set_option maxRecDepth 100000 in
theorem zc_Mo_init_bad (lc : Launch) (G : zw_G) (b0 : Nat) (T : zs_T) (l : Int32) (d : Int32) (w : Int32) (hb : ¬ (zs_v l 2 ∧ zs_v d 3)) : zw_M lc ym_Mo_init bm_Mo_init 5 (some .int) { frames := 2, cells := 0, slots := 0, locals := 43 } G b0 26 (zq_p G b0 T) [.ref (b0 + 0), .int l, .int d, .int w] (zw_Qi G b0 26 (zq_p G b0 T) (-1)) := by
  refine zw_of (by decide) (Nat.le_of_ble_eq_true rfl) ?_
  intro p e s m below meth cx ls F hr hlk hE hP hS hl
  have hl : lv_has ls 5 [(0, .ref (b0 + 0)), (1, .int l), (2, .int d), (3, .int w)] := hl
  refine lv_iload_n F.1 F.2.1 dd_Mo_init_0 rfl (lv_at hl 1 rfl) ?_
  refine lv_iload_n F.1 F.2.1 dd_Mo_init_1 rfl (lv_at hl 2 rfl) ?_
  refine zw_goi (zw_rS F hE hP (zc_Mo_isEnd_bad lc G b0 T l d (by first | omega | assumption)) zk_Mo_isEnd za_Mo_isEnd wl_Mo_121 ⟨rfl, rfl, Nat.le_of_ble_eq_true rfl, Nat.le_of_ble_eq_true rfl⟩ hl.1 rfl (Nat.le_of_ble_eq_true rfl) ⟨Nat.zero_le _, Nat.zero_le _⟩ dd_Mo_init_2) hS (fun _ h => h) (fun H locs hP _ _ hS => ?_)
  refine lv_if_ne F.1 F.2.1 dd_Mo_init_5 (tgt := 10) rfl (fun h5 => absurd h5 (by decide)) (fun h5 => ?_)
  refine lv_iconst (v := (-1)) F.1 F.2.1 dd_Mo_init_8 (by decide) ?_
  exact zw_iret F hr hlk hP hS rfl rfl dd_Mo_init_9
def zr_Mo_attempt (T : zs_T) (i : Nat) (c : Nat) (w : Int32) (h : Int32) : Int32 := if nI 1 < T 7 ((3 * i) + c) then ((-2)) else (if T 7 ((3 * i) + c) = nI 1 then (if T 8 ((3 * i) + c) = w then (if zs_pf T i h (nI (4096 + c)) (nI 0) ((nI 2) + (zs_fl w)) = 0 then (nI 0) else (zs_pf T i h (nI (4096 + c)) (nI 0) ((nI 2) + (zs_fl w)))) else ((-2))) else (if zs_pf T i h (nI (4096 + c)) (nI 0) ((nI 2) + (zs_fl w)) = 0 then (nI 0) else (zs_pf T i h (nI (4096 + c)) (nI 0) ((nI 2) + (zs_fl w)))))
def zu_Mo_attempt (T : zs_T) (i : Nat) (c : Nat) (w : Int32) (h : Int32) : zs_T := if nI 1 < T 7 ((3 * i) + c) then (T) else (if T 7 ((3 * i) + c) = nI 1 then (if T 8 ((3 * i) + c) = w then (if zs_pf T i h (nI (4096 + c)) (nI 0) ((nI 2) + (zs_fl w)) = 0 then (zs_w (zs_w T 7 ((3 * i) + c) (nI 2)) 8 ((3 * i) + c) w) else (T)) else (T)) else (if zs_pf T i h (nI (4096 + c)) (nI 0) ((nI 2) + (zs_fl w)) = 0 then (zs_w (zs_w T 7 ((3 * i) + c) (nI 2)) 8 ((3 * i) + c) w) else (T)))
set_option maxHeartbeats 4000000 in
set_option maxRecDepth 100000 in
theorem zc_Mo_attempt (lc : Launch) (G : zw_G) (b0 : Nat) (T : zs_T) (i : Nat) (c : Nat) (w : Int32) (h : Int32) (hi : i < 2) (hc : c < 3) (hw : w = 0 ∨ w = 1) (hz : ∀ q, T 4 q = nI (zs_n (T 4 q)) ∧ zs_n (T 4 q) ≤ 128) : zw_M lc ym_Mo_attempt bm_Mo_attempt 7 (some .int) { frames := 3, cells := 0, slots := 0, locals := 76 } G b0 26 (zq_p G b0 T) [.ref (b0 + 0), .int (nI i), .int (nI c), .int w, .int h] (zw_Qi G b0 26 (zq_p G b0 (zu_Mo_attempt T i c w h)) (zr_Mo_attempt T i c w h)) := by
  refine zw_of (by decide) (Nat.le_of_ble_eq_true rfl) ?_
  intro p e s m below meth cx ls F hr hlk hE hP hS hl
  have hl : lv_has ls 7 [(0, .ref (b0 + 0)), (1, .int (nI i)), (2, .int (nI c)), (3, .int w), (4, .int h)] := hl
  refine lv_iload_n F.1 F.2.1 dd_Mo_attempt_0 rfl (lv_at hl 1 rfl) ?_
  refine lv_iload_n F.1 F.2.1 dd_Mo_attempt_1 rfl (lv_at hl 2 rfl) ?_
  refine zw_goi (zw_rS F hE hP (zc_Mo_isEnd lc G b0 T i c (by first | omega | assumption) (by first | omega | assumption)) zk_Mo_isEnd za_Mo_isEnd wl_Mo_121 ⟨rfl, rfl, Nat.le_of_ble_eq_true rfl, Nat.le_of_ble_eq_true rfl⟩ hl.1 rfl (Nat.le_of_ble_eq_true rfl) ⟨Nat.zero_le _, Nat.zero_le _⟩ dd_Mo_attempt_2) hS (fun _ h => h) (fun H locs hP _ _ hS => ?_)
  refine lv_if_ne F.1 F.2.1 dd_Mo_attempt_5 (tgt := 10) rfl (fun h5 => ?_) (fun h5 => absurd h5 (by decide))
  refine lv_iconst (v := nI 3) F.1 F.2.1 dd_Mo_attempt_10 (by decide) ?_
  refine lv_iload_n F.1 F.2.1 dd_Mo_attempt_11 rfl (lv_at hl 1 rfl) ?_
  refine zn_imul F dd_Mo_attempt_12 ?_
  refine lv_iload_n F.1 F.2.1 dd_Mo_attempt_13 rfl (lv_at hl 2 rfl) ?_
  refine zn_iadd F dd_Mo_attempt_14 ?_
  refine lv_istore F.1 F.2.1 dd_Mo_attempt_15 hl (by decide) (lv' := [(5, .int (nI ((3 * i) + c))), (0, .ref (b0 + 0)), (1, .int (nI i)), (2, .int (nI c)), (3, .int w), (4, .int h)]) rfl (fun ls hl => ?_)
  refine lv_aload_n F.1 F.2.1 dd_Mo_attempt_17 rfl (lv_at hl 1 rfl) ?_
  refine zm_gF F hE hP rfl rfl zi_Mo 7 (by decide) rfl wf_Mo_29 rfl dd_Mo_attempt_18 ?_
  refine lv_iload F.1 F.2.1 dd_Mo_attempt_21 (lv_at hl 0 rfl) ?_
  refine zm_iald (x := 7) (k := (3 * i) + c) (N := 6) F hE hP (by decide) (fun _ => rfl) (by omega) (by decide) dd_Mo_attempt_23 ?_
  refine lv_iconst (v := nI 1) F.1 F.2.1 dd_Mo_attempt_24 (by decide) ?_
  refine lv_icmp_gt F.1 F.2.1 dd_Mo_attempt_25 (tgt := 50) rfl (fun h25 => ?_) (fun h25 => ?_)
  · refine lv_bipush (v := (-2)) F.1 F.2.1 dd_Mo_attempt_50 (by decide) ?_
    exact zw_iret F hr hlk hP hS (congrArg (zq_p G b0) (by rw [zu_Mo_attempt, if_pos h25])) (by rw [zr_Mo_attempt, if_pos h25]) dd_Mo_attempt_52
  · refine lv_aload_n F.1 F.2.1 dd_Mo_attempt_28 rfl (lv_at hl 1 rfl) ?_
    refine zm_gF F hE hP rfl rfl zi_Mo 7 (by decide) rfl wf_Mo_29 rfl dd_Mo_attempt_29 ?_
    refine lv_iload F.1 F.2.1 dd_Mo_attempt_32 (lv_at hl 0 rfl) ?_
    refine zm_iald (x := 7) (k := (3 * i) + c) (N := 6) F hE hP (by decide) (fun _ => rfl) (by omega) (by decide) dd_Mo_attempt_34 ?_
    refine lv_iconst (v := nI 1) F.1 F.2.1 dd_Mo_attempt_35 (by decide) ?_
    refine lv_icmp_ne F.1 F.2.1 dd_Mo_attempt_36 (tgt := 53) rfl (fun h36 => ?_) (fun h36 => ?_)
    · refine lv_aload_n F.1 F.2.1 dd_Mo_attempt_53 rfl (lv_at hl 1 rfl) ?_
      refine lv_iload_n F.1 F.2.1 dd_Mo_attempt_54 rfl (lv_at hl 2 rfl) ?_
      refine lv_iload F.1 F.2.1 dd_Mo_attempt_55 (lv_at hl 5 rfl) ?_
      refine lv_sipush (v := nI 4096) F.1 F.2.1 dd_Mo_attempt_57 (by decide) ?_
      refine lv_iload_n F.1 F.2.1 dd_Mo_attempt_60 rfl (lv_at hl 3 rfl) ?_
      refine zn_iadd F dd_Mo_attempt_61 ?_
      refine lv_iconst (v := nI 0) F.1 F.2.1 dd_Mo_attempt_62 (by decide) ?_
      refine lv_iconst (v := nI 2) F.1 F.2.1 dd_Mo_attempt_63 (by decide) ?_
      refine lv_iload_n F.1 F.2.1 dd_Mo_attempt_64 rfl (lv_at hl 4 rfl) ?_
      refine zw_goi (zw_rS F hE hP (zc_Mo_flag lc G b0 T w) zk_Mo_flag za_Mo_flag wl_Mo_124 ⟨rfl, rfl, Nat.le_of_ble_eq_true rfl, Nat.le_of_ble_eq_true rfl⟩ hl.1 rfl (Nat.le_of_ble_eq_true rfl) ⟨Nat.zero_le _, Nat.zero_le _⟩ dd_Mo_attempt_65) hS (fun _ h => h) (fun H locs hP _ _ hS => ?_)
      refine lv_iadd F.1 F.2.1 dd_Mo_attempt_68 ?_
      refine zw_goi (zw_rV F hE hP (zc_Mo_proof lc G b0 T i h (nI (4096 + c)) (nI 0) ((nI 2) + (zs_fl w)) (by first | omega | assumption) (by assumption)) zk_Mo_proof za_Mo_proof zb_Mo_proof wl_Mo_128 ⟨rfl, rfl, Nat.le_of_ble_eq_true rfl, Nat.le_of_ble_eq_true rfl⟩ (zm_recv hE hP rfl rfl) hl.1 rfl (Nat.le_of_ble_eq_true rfl) ⟨Nat.zero_le _, Nat.zero_le _⟩ dd_Mo_attempt_69) hS (fun _ h => h) (fun H locs hP _ _ hS => ?_)
      refine lv_istore F.1 F.2.1 dd_Mo_attempt_72 hl (by decide) (lv' := [(6, .int (zs_pf T i h (nI (4096 + c)) (nI 0) ((nI 2) + (zs_fl w)))), (5, .int (nI ((3 * i) + c))), (0, .ref (b0 + 0)), (1, .int (nI i)), (2, .int (nI c)), (3, .int w), (4, .int h)]) rfl (fun ls hl => ?_)
      refine lv_iload F.1 F.2.1 dd_Mo_attempt_74 (lv_at hl 0 rfl) ?_
      refine lv_if_eq F.1 F.2.1 dd_Mo_attempt_76 (tgt := 82) rfl (fun h76 => ?_) (fun h76 => ?_)
      · refine lv_aload_n F.1 F.2.1 dd_Mo_attempt_82 rfl (lv_at hl 2 rfl) ?_
        refine zm_gF F hE hP rfl rfl zi_Mo 7 (by decide) rfl wf_Mo_29 rfl dd_Mo_attempt_83 ?_
        refine lv_iload F.1 F.2.1 dd_Mo_attempt_86 (lv_at hl 1 rfl) ?_
        refine lv_iconst (v := nI 2) F.1 F.2.1 dd_Mo_attempt_88 (by decide) ?_
        refine zm_iast (x := 7) (k := (3 * i) + c) (N := 6) F hE hP hS (fun _ h => h) (by decide) (fun _ => rfl) (by omega) (by decide)  dd_Mo_attempt_89 (fun H locs hP hS => ?_)
        refine lv_aload_n F.1 F.2.1 dd_Mo_attempt_90 rfl (lv_at hl 2 rfl) ?_
        refine zm_gF F hE hP rfl rfl zi_Mo 8 (by decide) rfl wf_Mo_32 rfl dd_Mo_attempt_91 ?_
        refine lv_iload F.1 F.2.1 dd_Mo_attempt_94 (lv_at hl 1 rfl) ?_
        refine lv_iload_n F.1 F.2.1 dd_Mo_attempt_96 rfl (lv_at hl 5 rfl) ?_
        refine zm_zast (x := 8) (k := (3 * i) + c) (N := 6) F hE hP hS (fun _ h => h) (by decide) (fun _ => rfl) (by omega) (by decide) hw dd_Mo_attempt_97 (fun H locs hP hS => ?_)
        refine lv_iconst (v := nI 0) F.1 F.2.1 dd_Mo_attempt_98 (by decide) ?_
        exact zw_iret F hr hlk hP hS (congrArg (zq_p G b0) (by rw [zu_Mo_attempt, if_neg h25, if_neg h36, if_pos h76])) (by rw [zr_Mo_attempt, if_neg h25, if_neg h36, if_pos h76]) dd_Mo_attempt_99
      · refine lv_iload F.1 F.2.1 dd_Mo_attempt_79 (lv_at hl 0 rfl) ?_
        exact zw_iret F hr hlk hP hS (congrArg (zq_p G b0) (by rw [zu_Mo_attempt, if_neg h25, if_neg h36, if_neg h76])) (by rw [zr_Mo_attempt, if_neg h25, if_neg h36, if_neg h76]) dd_Mo_attempt_81
    · refine lv_aload_n F.1 F.2.1 dd_Mo_attempt_39 rfl (lv_at hl 1 rfl) ?_
      refine zm_gF F hE hP rfl rfl zi_Mo 8 (by decide) rfl wf_Mo_32 rfl dd_Mo_attempt_40 ?_
      refine lv_iload F.1 F.2.1 dd_Mo_attempt_43 (lv_at hl 0 rfl) ?_
      refine zm_zald (x := 8) (k := (3 * i) + c) (N := 6) F hE hP (by decide) (fun _ => rfl) (by omega) (by decide) dd_Mo_attempt_45 ?_
      refine lv_iload_n F.1 F.2.1 dd_Mo_attempt_46 rfl (lv_at hl 4 rfl) ?_
      refine lv_icmp_eq F.1 F.2.1 dd_Mo_attempt_47 (tgt := 53) rfl (fun h47 => ?_) (fun h47 => ?_)
      · refine lv_aload_n F.1 F.2.1 dd_Mo_attempt_53 rfl (lv_at hl 1 rfl) ?_
        refine lv_iload_n F.1 F.2.1 dd_Mo_attempt_54 rfl (lv_at hl 2 rfl) ?_
        refine lv_iload F.1 F.2.1 dd_Mo_attempt_55 (lv_at hl 5 rfl) ?_
        refine lv_sipush (v := nI 4096) F.1 F.2.1 dd_Mo_attempt_57 (by decide) ?_
        refine lv_iload_n F.1 F.2.1 dd_Mo_attempt_60 rfl (lv_at hl 3 rfl) ?_
        refine zn_iadd F dd_Mo_attempt_61 ?_
        refine lv_iconst (v := nI 0) F.1 F.2.1 dd_Mo_attempt_62 (by decide) ?_
        refine lv_iconst (v := nI 2) F.1 F.2.1 dd_Mo_attempt_63 (by decide) ?_
        refine lv_iload_n F.1 F.2.1 dd_Mo_attempt_64 rfl (lv_at hl 4 rfl) ?_
        refine zw_goi (zw_rS F hE hP (zc_Mo_flag lc G b0 T w) zk_Mo_flag za_Mo_flag wl_Mo_124 ⟨rfl, rfl, Nat.le_of_ble_eq_true rfl, Nat.le_of_ble_eq_true rfl⟩ hl.1 rfl (Nat.le_of_ble_eq_true rfl) ⟨Nat.zero_le _, Nat.zero_le _⟩ dd_Mo_attempt_65) hS (fun _ h => h) (fun H locs hP _ _ hS => ?_)
        refine lv_iadd F.1 F.2.1 dd_Mo_attempt_68 ?_
        refine zw_goi (zw_rV F hE hP (zc_Mo_proof lc G b0 T i h (nI (4096 + c)) (nI 0) ((nI 2) + (zs_fl w)) (by first | omega | assumption) (by assumption)) zk_Mo_proof za_Mo_proof zb_Mo_proof wl_Mo_128 ⟨rfl, rfl, Nat.le_of_ble_eq_true rfl, Nat.le_of_ble_eq_true rfl⟩ (zm_recv hE hP rfl rfl) hl.1 rfl (Nat.le_of_ble_eq_true rfl) ⟨Nat.zero_le _, Nat.zero_le _⟩ dd_Mo_attempt_69) hS (fun _ h => h) (fun H locs hP _ _ hS => ?_)
        refine lv_istore F.1 F.2.1 dd_Mo_attempt_72 hl (by decide) (lv' := [(6, .int (zs_pf T i h (nI (4096 + c)) (nI 0) ((nI 2) + (zs_fl w)))), (5, .int (nI ((3 * i) + c))), (0, .ref (b0 + 0)), (1, .int (nI i)), (2, .int (nI c)), (3, .int w), (4, .int h)]) rfl (fun ls hl => ?_)
        refine lv_iload F.1 F.2.1 dd_Mo_attempt_74 (lv_at hl 0 rfl) ?_
        refine lv_if_eq F.1 F.2.1 dd_Mo_attempt_76 (tgt := 82) rfl (fun h76 => ?_) (fun h76 => ?_)
        · refine lv_aload_n F.1 F.2.1 dd_Mo_attempt_82 rfl (lv_at hl 2 rfl) ?_
          refine zm_gF F hE hP rfl rfl zi_Mo 7 (by decide) rfl wf_Mo_29 rfl dd_Mo_attempt_83 ?_
          refine lv_iload F.1 F.2.1 dd_Mo_attempt_86 (lv_at hl 1 rfl) ?_
          refine lv_iconst (v := nI 2) F.1 F.2.1 dd_Mo_attempt_88 (by decide) ?_
          refine zm_iast (x := 7) (k := (3 * i) + c) (N := 6) F hE hP hS (fun _ h => h) (by decide) (fun _ => rfl) (by omega) (by decide)  dd_Mo_attempt_89 (fun H locs hP hS => ?_)
          refine lv_aload_n F.1 F.2.1 dd_Mo_attempt_90 rfl (lv_at hl 2 rfl) ?_
          refine zm_gF F hE hP rfl rfl zi_Mo 8 (by decide) rfl wf_Mo_32 rfl dd_Mo_attempt_91 ?_
          refine lv_iload F.1 F.2.1 dd_Mo_attempt_94 (lv_at hl 1 rfl) ?_
          refine lv_iload_n F.1 F.2.1 dd_Mo_attempt_96 rfl (lv_at hl 5 rfl) ?_
          refine zm_zast (x := 8) (k := (3 * i) + c) (N := 6) F hE hP hS (fun _ h => h) (by decide) (fun _ => rfl) (by omega) (by decide) hw dd_Mo_attempt_97 (fun H locs hP hS => ?_)
          refine lv_iconst (v := nI 0) F.1 F.2.1 dd_Mo_attempt_98 (by decide) ?_
          exact zw_iret F hr hlk hP hS (congrArg (zq_p G b0) (by rw [zu_Mo_attempt, if_neg h25, if_pos h36, if_pos h47, if_pos h76])) (by rw [zr_Mo_attempt, if_neg h25, if_pos h36, if_pos h47, if_pos h76]) dd_Mo_attempt_99
        · refine lv_iload F.1 F.2.1 dd_Mo_attempt_79 (lv_at hl 0 rfl) ?_
          exact zw_iret F hr hlk hP hS (congrArg (zq_p G b0) (by rw [zu_Mo_attempt, if_neg h25, if_pos h36, if_pos h47, if_neg h76])) (by rw [zr_Mo_attempt, if_neg h25, if_pos h36, if_pos h47, if_neg h76]) dd_Mo_attempt_81
      · refine lv_bipush (v := (-2)) F.1 F.2.1 dd_Mo_attempt_50 (by decide) ?_
        exact zw_iret F hr hlk hP hS (congrArg (zq_p G b0) (by rw [zu_Mo_attempt, if_neg h25, if_pos h36, if_neg h47])) (by rw [zr_Mo_attempt, if_neg h25, if_pos h36, if_neg h47]) dd_Mo_attempt_52
set_option maxHeartbeats 4000000 in
set_option maxRecDepth 100000 in
theorem zc_Mo_attempt_bad (lc : Launch) (G : zw_G) (b0 : Nat) (T : zs_T) (l : Int32) (d : Int32) (w : Int32) (h : Int32) (hb : ¬ (zs_v l 2 ∧ zs_v d 3)) : zw_M lc ym_Mo_attempt bm_Mo_attempt 7 (some .int) { frames := 2, cells := 0, slots := 0, locals := 43 } G b0 26 (zq_p G b0 T) [.ref (b0 + 0), .int l, .int d, .int w, .int h] (zw_Qi G b0 26 (zq_p G b0 T) (-1)) := by
  refine zw_of (by decide) (Nat.le_of_ble_eq_true rfl) ?_
  intro p e s m below meth cx ls F hr hlk hE hP hS hl
  have hl : lv_has ls 7 [(0, .ref (b0 + 0)), (1, .int l), (2, .int d), (3, .int w), (4, .int h)] := hl
  refine lv_iload_n F.1 F.2.1 dd_Mo_attempt_0 rfl (lv_at hl 1 rfl) ?_
  refine lv_iload_n F.1 F.2.1 dd_Mo_attempt_1 rfl (lv_at hl 2 rfl) ?_
  refine zw_goi (zw_rS F hE hP (zc_Mo_isEnd_bad lc G b0 T l d (by first | omega | assumption)) zk_Mo_isEnd za_Mo_isEnd wl_Mo_121 ⟨rfl, rfl, Nat.le_of_ble_eq_true rfl, Nat.le_of_ble_eq_true rfl⟩ hl.1 rfl (Nat.le_of_ble_eq_true rfl) ⟨Nat.zero_le _, Nat.zero_le _⟩ dd_Mo_attempt_2) hS (fun _ h => h) (fun H locs hP _ _ hS => ?_)
  refine lv_if_ne F.1 F.2.1 dd_Mo_attempt_5 (tgt := 10) rfl (fun h5 => absurd h5 (by decide)) (fun h5 => ?_)
  refine lv_iconst (v := (-1)) F.1 F.2.1 dd_Mo_attempt_8 (by decide) ?_
  exact zw_iret F hr hlk hP hS rfl rfl dd_Mo_attempt_9
def zr_Mo_open (T : zs_T) (i : Nat) (c : Nat) (x : Nat) (h : Int32) : Int32 := if T 7 ((3 * i) + c) = nI (x + 1) then (if zs_pf T i h (nI (4096 + c)) (nI 0) ((nI (2 * (x + 2))) + (zs_fl (T 8 ((3 * i) + c)))) = 0 then (if x = 2 then (nI 0) else (nI 0)) else (zs_pf T i h (nI (4096 + c)) (nI 0) ((nI (2 * (x + 2))) + (zs_fl (T 8 ((3 * i) + c)))))) else ((-2))
def zu_Mo_open (T : zs_T) (i : Nat) (c : Nat) (x : Nat) (h : Int32) : zs_T := if T 7 ((3 * i) + c) = nI (x + 1) then (if zs_pf T i h (nI (4096 + c)) (nI 0) ((nI (2 * (x + 2))) + (zs_fl (T 8 ((3 * i) + c)))) = 0 then (if x = 2 then (zs_w T 7 ((3 * i) + c) (nI 4)) else (zs_w T 7 ((3 * i) + c) (nI 3))) else (T)) else (T)
set_option maxHeartbeats 4000000 in
set_option maxRecDepth 100000 in
theorem zc_Mo_open (lc : Launch) (G : zw_G) (b0 : Nat) (T : zs_T) (i : Nat) (c : Nat) (x : Nat) (h : Int32) (hi : i < 2) (hc : c < 3) (hx : x < 3) (hz : ∀ q, T 4 q = nI (zs_n (T 4 q)) ∧ zs_n (T 4 q) ≤ 128) : zw_M lc ym_Mo_open bm_Mo_open 7 (some .int) { frames := 3, cells := 0, slots := 0, locals := 76 } G b0 26 (zq_p G b0 T) [.ref (b0 + 0), .int (nI i), .int (nI c), .int (nI x), .int h] (zw_Qi G b0 26 (zq_p G b0 (zu_Mo_open T i c x h)) (zr_Mo_open T i c x h)) := by
  refine zw_of (by decide) (Nat.le_of_ble_eq_true rfl) ?_
  intro p e s m below meth cx ls F hr hlk hE hP hS hl
  have hl : lv_has ls 7 [(0, .ref (b0 + 0)), (1, .int (nI i)), (2, .int (nI c)), (3, .int (nI x)), (4, .int h)] := hl
  refine lv_iload_n F.1 F.2.1 dd_Mo_open_0 rfl (lv_at hl 1 rfl) ?_
  refine lv_iload_n F.1 F.2.1 dd_Mo_open_1 rfl (lv_at hl 2 rfl) ?_
  refine zw_goi (zw_rS F hE hP (zc_Mo_isEnd lc G b0 T i c (by first | omega | assumption) (by first | omega | assumption)) zk_Mo_isEnd za_Mo_isEnd wl_Mo_121 ⟨rfl, rfl, Nat.le_of_ble_eq_true rfl, Nat.le_of_ble_eq_true rfl⟩ hl.1 rfl (Nat.le_of_ble_eq_true rfl) ⟨Nat.zero_le _, Nat.zero_le _⟩ dd_Mo_open_2) hS (fun _ h => h) (fun H locs hP _ _ hS => ?_)
  refine lv_if_eq F.1 F.2.1 dd_Mo_open_5 (tgt := 17) rfl (fun h5 => absurd h5 (by decide)) (fun h5 => ?_)
  refine lv_iload_n F.1 F.2.1 dd_Mo_open_8 rfl (lv_at hl 3 rfl) ?_
  refine lv_iconst (v := nI 0) F.1 F.2.1 dd_Mo_open_9 (by decide) ?_
  refine lv_iconst (v := nI 2) F.1 F.2.1 dd_Mo_open_10 (by decide) ?_
  refine zw_goi (zw_rS F hE hP (zc_Mo_outside lc G b0 T (nI x) (nI 0) (nI 2)) zk_Mo_outside za_Mo_outside wl_Mo_91 ⟨rfl, rfl, Nat.le_of_ble_eq_true rfl, Nat.le_of_ble_eq_true rfl⟩ hl.1 rfl (Nat.le_of_ble_eq_true rfl) ⟨Nat.zero_le _, Nat.zero_le _⟩ dd_Mo_open_11) hS (fun _ h => h) (fun H locs hP _ _ hS => ?_)
  refine zn_beq F dd_Mo_open_14 (tgt := 19) rfl (fun h14 => ?_) (fun h14 => absurd h14 (zn_ins (by omega) (by omega) (by decide)))
  refine lv_iconst (v := nI 3) F.1 F.2.1 dd_Mo_open_19 (by decide) ?_
  refine lv_iload_n F.1 F.2.1 dd_Mo_open_20 rfl (lv_at hl 1 rfl) ?_
  refine zn_imul F dd_Mo_open_21 ?_
  refine lv_iload_n F.1 F.2.1 dd_Mo_open_22 rfl (lv_at hl 2 rfl) ?_
  refine zn_iadd F dd_Mo_open_23 ?_
  refine lv_istore F.1 F.2.1 dd_Mo_open_24 hl (by decide) (lv' := [(5, .int (nI ((3 * i) + c))), (0, .ref (b0 + 0)), (1, .int (nI i)), (2, .int (nI c)), (3, .int (nI x)), (4, .int h)]) rfl (fun ls hl => ?_)
  refine lv_aload_n F.1 F.2.1 dd_Mo_open_26 rfl (lv_at hl 1 rfl) ?_
  refine zm_gF F hE hP rfl rfl zi_Mo 7 (by decide) rfl wf_Mo_29 rfl dd_Mo_open_27 ?_
  refine lv_iload F.1 F.2.1 dd_Mo_open_30 (lv_at hl 0 rfl) ?_
  refine zm_iald (x := 7) (k := (3 * i) + c) (N := 6) F hE hP (by decide) (fun _ => rfl) (by omega) (by decide) dd_Mo_open_32 ?_
  refine lv_iload_n F.1 F.2.1 dd_Mo_open_33 rfl (lv_at hl 4 rfl) ?_
  refine lv_iconst (v := nI 1) F.1 F.2.1 dd_Mo_open_34 (by decide) ?_
  refine zn_iadd F dd_Mo_open_35 ?_
  refine lv_icmp_eq F.1 F.2.1 dd_Mo_open_36 (tgt := 42) rfl (fun h36 => ?_) (fun h36 => ?_)
  · refine lv_aload_n F.1 F.2.1 dd_Mo_open_42 rfl (lv_at hl 1 rfl) ?_
    refine lv_iload_n F.1 F.2.1 dd_Mo_open_43 rfl (lv_at hl 2 rfl) ?_
    refine lv_iload F.1 F.2.1 dd_Mo_open_44 (lv_at hl 5 rfl) ?_
    refine lv_sipush (v := nI 4096) F.1 F.2.1 dd_Mo_open_46 (by decide) ?_
    refine lv_iload_n F.1 F.2.1 dd_Mo_open_49 rfl (lv_at hl 3 rfl) ?_
    refine zn_iadd F dd_Mo_open_50 ?_
    refine lv_iconst (v := nI 0) F.1 F.2.1 dd_Mo_open_51 (by decide) ?_
    refine lv_iconst (v := nI 2) F.1 F.2.1 dd_Mo_open_52 (by decide) ?_
    refine lv_iload_n F.1 F.2.1 dd_Mo_open_53 rfl (lv_at hl 4 rfl) ?_
    refine lv_iconst (v := nI 2) F.1 F.2.1 dd_Mo_open_54 (by decide) ?_
    refine zn_iadd F dd_Mo_open_55 ?_
    refine zn_imul F dd_Mo_open_56 ?_
    refine lv_aload_n F.1 F.2.1 dd_Mo_open_57 rfl (lv_at hl 1 rfl) ?_
    refine zm_gF F hE hP rfl rfl zi_Mo 8 (by decide) rfl wf_Mo_32 rfl dd_Mo_open_58 ?_
    refine lv_iload F.1 F.2.1 dd_Mo_open_61 (lv_at hl 0 rfl) ?_
    refine zm_zald (x := 8) (k := (3 * i) + c) (N := 6) F hE hP (by decide) (fun _ => rfl) (by omega) (by decide) dd_Mo_open_63 ?_
    refine zw_goi (zw_rS F hE hP (zc_Mo_flag lc G b0 T (T 8 ((3 * i) + c))) zk_Mo_flag za_Mo_flag wl_Mo_124 ⟨rfl, rfl, Nat.le_of_ble_eq_true rfl, Nat.le_of_ble_eq_true rfl⟩ hl.1 rfl (Nat.le_of_ble_eq_true rfl) ⟨Nat.zero_le _, Nat.zero_le _⟩ dd_Mo_open_64) hS (fun _ h => h) (fun H locs hP _ _ hS => ?_)
    refine lv_iadd F.1 F.2.1 dd_Mo_open_67 ?_
    refine zw_goi (zw_rV F hE hP (zc_Mo_proof lc G b0 T i h (nI (4096 + c)) (nI 0) ((nI (2 * (x + 2))) + (zs_fl (T 8 ((3 * i) + c)))) (by first | omega | assumption) (by assumption)) zk_Mo_proof za_Mo_proof zb_Mo_proof wl_Mo_128 ⟨rfl, rfl, Nat.le_of_ble_eq_true rfl, Nat.le_of_ble_eq_true rfl⟩ (zm_recv hE hP rfl rfl) hl.1 rfl (Nat.le_of_ble_eq_true rfl) ⟨Nat.zero_le _, Nat.zero_le _⟩ dd_Mo_open_68) hS (fun _ h => h) (fun H locs hP _ _ hS => ?_)
    refine lv_istore F.1 F.2.1 dd_Mo_open_71 hl (by decide) (lv' := [(6, .int (zs_pf T i h (nI (4096 + c)) (nI 0) ((nI (2 * (x + 2))) + (zs_fl (T 8 ((3 * i) + c)))))), (5, .int (nI ((3 * i) + c))), (0, .ref (b0 + 0)), (1, .int (nI i)), (2, .int (nI c)), (3, .int (nI x)), (4, .int h)]) rfl (fun ls hl => ?_)
    refine lv_iload F.1 F.2.1 dd_Mo_open_73 (lv_at hl 0 rfl) ?_
    refine lv_if_eq F.1 F.2.1 dd_Mo_open_75 (tgt := 81) rfl (fun h75 => ?_) (fun h75 => ?_)
    · refine lv_aload_n F.1 F.2.1 dd_Mo_open_81 rfl (lv_at hl 2 rfl) ?_
      refine zm_gF F hE hP rfl rfl zi_Mo 7 (by decide) rfl wf_Mo_29 rfl dd_Mo_open_82 ?_
      refine lv_iload F.1 F.2.1 dd_Mo_open_85 (lv_at hl 1 rfl) ?_
      refine lv_iload_n F.1 F.2.1 dd_Mo_open_87 rfl (lv_at hl 5 rfl) ?_
      refine lv_iconst (v := nI 2) F.1 F.2.1 dd_Mo_open_88 (by decide) ?_
      refine zn_cne F dd_Mo_open_89 (tgt := 96) rfl (by omega) (by omega) (fun h89 => ?_) (fun h89 => ?_)
      · refine lv_iconst (v := nI 3) F.1 F.2.1 dd_Mo_open_96 (by decide) ?_
        refine zm_iast (x := 7) (k := (3 * i) + c) (N := 6) F hE hP hS (fun _ h => h) (by decide) (fun _ => rfl) (by omega) (by decide)  dd_Mo_open_97 (fun H locs hP hS => ?_)
        refine lv_iconst (v := nI 0) F.1 F.2.1 dd_Mo_open_98 (by decide) ?_
        exact zw_iret F hr hlk hP hS (congrArg (zq_p G b0) (by rw [zu_Mo_open, if_pos h36, if_pos h75, if_neg h89])) (by rw [zr_Mo_open, if_pos h36, if_pos h75, if_neg h89]) dd_Mo_open_99
      · refine lv_iconst (v := nI 4) F.1 F.2.1 dd_Mo_open_92 (by decide) ?_
        refine lv_goto F.1 F.2.1 dd_Mo_open_93 (tgt := 97) rfl ?_
        refine zm_iast (x := 7) (k := (3 * i) + c) (N := 6) F hE hP hS (fun _ h => h) (by decide) (fun _ => rfl) (by omega) (by decide)  dd_Mo_open_97 (fun H locs hP hS => ?_)
        refine lv_iconst (v := nI 0) F.1 F.2.1 dd_Mo_open_98 (by decide) ?_
        exact zw_iret F hr hlk hP hS (congrArg (zq_p G b0) (by rw [zu_Mo_open, if_pos h36, if_pos h75, if_pos h89])) (by rw [zr_Mo_open, if_pos h36, if_pos h75, if_pos h89]) dd_Mo_open_99
    · refine lv_iload F.1 F.2.1 dd_Mo_open_78 (lv_at hl 0 rfl) ?_
      exact zw_iret F hr hlk hP hS (congrArg (zq_p G b0) (by rw [zu_Mo_open, if_pos h36, if_neg h75])) (by rw [zr_Mo_open, if_pos h36, if_neg h75]) dd_Mo_open_80
  · refine lv_bipush (v := (-2)) F.1 F.2.1 dd_Mo_open_39 (by decide) ?_
    exact zw_iret F hr hlk hP hS (congrArg (zq_p G b0) (by rw [zu_Mo_open, if_neg h36])) (by rw [zr_Mo_open, if_neg h36]) dd_Mo_open_41
set_option maxHeartbeats 4000000 in
set_option maxRecDepth 100000 in
theorem zc_Mo_open_bad (lc : Launch) (G : zw_G) (b0 : Nat) (T : zs_T) (l : Int32) (d : Int32) (x : Int32) (h : Int32) (hb : ¬ (zs_v l 2 ∧ zs_v d 3)) : zw_M lc ym_Mo_open bm_Mo_open 7 (some .int) { frames := 2, cells := 0, slots := 0, locals := 43 } G b0 26 (zq_p G b0 T) [.ref (b0 + 0), .int l, .int d, .int x, .int h] (zw_Qi G b0 26 (zq_p G b0 T) (-1)) := by
  refine zw_of (by decide) (Nat.le_of_ble_eq_true rfl) ?_
  intro p e s m below meth cx ls F hr hlk hE hP hS hl
  have hl : lv_has ls 7 [(0, .ref (b0 + 0)), (1, .int l), (2, .int d), (3, .int x), (4, .int h)] := hl
  refine lv_iload_n F.1 F.2.1 dd_Mo_open_0 rfl (lv_at hl 1 rfl) ?_
  refine lv_iload_n F.1 F.2.1 dd_Mo_open_1 rfl (lv_at hl 2 rfl) ?_
  refine zw_goi (zw_rS F hE hP (zc_Mo_isEnd_bad lc G b0 T l d (by first | omega | assumption)) zk_Mo_isEnd za_Mo_isEnd wl_Mo_121 ⟨rfl, rfl, Nat.le_of_ble_eq_true rfl, Nat.le_of_ble_eq_true rfl⟩ hl.1 rfl (Nat.le_of_ble_eq_true rfl) ⟨Nat.zero_le _, Nat.zero_le _⟩ dd_Mo_open_2) hS (fun _ h => h) (fun H locs hP _ _ hS => ?_)
  refine lv_if_eq F.1 F.2.1 dd_Mo_open_5 (tgt := 17) rfl (fun h5 => ?_) (fun h5 => absurd h5 (by decide))
  refine lv_iconst (v := (-1)) F.1 F.2.1 dd_Mo_open_17 (by decide) ?_
  exact zw_iret F hr hlk hP hS rfl rfl dd_Mo_open_18
set_option maxHeartbeats 4000000 in
set_option maxRecDepth 100000 in
theorem zc_Mo_open_bad2 (lc : Launch) (G : zw_G) (b0 : Nat) (T : zs_T) (i : Nat) (c : Nat) (x : Int32) (h : Int32) (hi : i < 2) (hc : c < 3) (hb : ¬ zs_v x 3) : zw_M lc ym_Mo_open bm_Mo_open 7 (some .int) { frames := 2, cells := 0, slots := 0, locals := 43 } G b0 26 (zq_p G b0 T) [.ref (b0 + 0), .int (nI i), .int (nI c), .int x, .int h] (zw_Qi G b0 26 (zq_p G b0 T) (-1)) := by
  refine zw_of (by decide) (Nat.le_of_ble_eq_true rfl) ?_
  intro p e s m below meth cx ls F hr hlk hE hP hS hl
  have hl : lv_has ls 7 [(0, .ref (b0 + 0)), (1, .int (nI i)), (2, .int (nI c)), (3, .int x), (4, .int h)] := hl
  refine lv_iload_n F.1 F.2.1 dd_Mo_open_0 rfl (lv_at hl 1 rfl) ?_
  refine lv_iload_n F.1 F.2.1 dd_Mo_open_1 rfl (lv_at hl 2 rfl) ?_
  refine zw_goi (zw_rS F hE hP (zc_Mo_isEnd lc G b0 T i c (by first | omega | assumption) (by first | omega | assumption)) zk_Mo_isEnd za_Mo_isEnd wl_Mo_121 ⟨rfl, rfl, Nat.le_of_ble_eq_true rfl, Nat.le_of_ble_eq_true rfl⟩ hl.1 rfl (Nat.le_of_ble_eq_true rfl) ⟨Nat.zero_le _, Nat.zero_le _⟩ dd_Mo_open_2) hS (fun _ h => h) (fun H locs hP _ _ hS => ?_)
  refine lv_if_eq F.1 F.2.1 dd_Mo_open_5 (tgt := 17) rfl (fun h5 => absurd h5 (by decide)) (fun h5 => ?_)
  refine lv_iload_n F.1 F.2.1 dd_Mo_open_8 rfl (lv_at hl 3 rfl) ?_
  refine lv_iconst (v := nI 0) F.1 F.2.1 dd_Mo_open_9 (by decide) ?_
  refine lv_iconst (v := nI 2) F.1 F.2.1 dd_Mo_open_10 (by decide) ?_
  refine zw_goi (zw_rS F hE hP (zc_Mo_outside lc G b0 T x (nI 0) (nI 2)) zk_Mo_outside za_Mo_outside wl_Mo_91 ⟨rfl, rfl, Nat.le_of_ble_eq_true rfl, Nat.le_of_ble_eq_true rfl⟩ hl.1 rfl (Nat.le_of_ble_eq_true rfl) ⟨Nat.zero_le _, Nat.zero_le _⟩ dd_Mo_open_11) hS (fun _ h => h) (fun H locs hP _ _ hS => ?_)
  refine zn_beq F dd_Mo_open_14 (tgt := 19) rfl (fun h14 => absurd (zs_vo (n := 2) (by decide) h14) hb) (fun h14 => ?_)
  refine lv_iconst (v := (-1)) F.1 F.2.1 dd_Mo_open_17 (by decide) ?_
  exact zw_iret F hr hlk hP hS rfl rfl dd_Mo_open_18
def zr_Mo_close (T : zs_T) (i : Nat) (c : Nat) : Int32 := if T 7 ((3 * i) + c) = nI 3 then (nI 0) else ((-2))
def zu_Mo_close (T : zs_T) (i : Nat) (c : Nat) : zs_T := if T 7 ((3 * i) + c) = nI 3 then (zs_w T 7 ((3 * i) + c) (nI 4)) else (T)
set_option maxHeartbeats 4000000 in
set_option maxRecDepth 100000 in
theorem zc_Mo_close (lc : Launch) (G : zw_G) (b0 : Nat) (T : zs_T) (i : Nat) (c : Nat) (hi : i < 2) (hc : c < 3) : zw_M lc ym_Mo_close bm_Mo_close 3 (some .int) { frames := 2, cells := 0, slots := 0, locals := 43 } G b0 26 (zq_p G b0 T) [.ref (b0 + 0), .int (nI i), .int (nI c)] (zw_Qi G b0 26 (zq_p G b0 (zu_Mo_close T i c)) (zr_Mo_close T i c)) := by
  refine zw_of (by decide) (Nat.le_of_ble_eq_true rfl) ?_
  intro p e s m below meth cx ls F hr hlk hE hP hS hl
  have hl : lv_has ls 3 [(0, .ref (b0 + 0)), (1, .int (nI i)), (2, .int (nI c))] := hl
  refine lv_iload_n F.1 F.2.1 dd_Mo_close_0 rfl (lv_at hl 1 rfl) ?_
  refine lv_iload_n F.1 F.2.1 dd_Mo_close_1 rfl (lv_at hl 2 rfl) ?_
  refine zw_goi (zw_rS F hE hP (zc_Mo_isEnd lc G b0 T i c (by first | omega | assumption) (by first | omega | assumption)) zk_Mo_isEnd za_Mo_isEnd wl_Mo_121 ⟨rfl, rfl, Nat.le_of_ble_eq_true rfl, Nat.le_of_ble_eq_true rfl⟩ hl.1 rfl (Nat.le_of_ble_eq_true rfl) ⟨Nat.zero_le _, Nat.zero_le _⟩ dd_Mo_close_2) hS (fun _ h => h) (fun H locs hP _ _ hS => ?_)
  refine lv_if_ne F.1 F.2.1 dd_Mo_close_5 (tgt := 10) rfl (fun h5 => ?_) (fun h5 => absurd h5 (by decide))
  refine lv_aload_n F.1 F.2.1 dd_Mo_close_10 rfl (lv_at hl 0 rfl) ?_
  refine zm_gF F hE hP rfl rfl zi_Mo 7 (by decide) rfl wf_Mo_29 rfl dd_Mo_close_11 ?_
  refine lv_iconst (v := nI 3) F.1 F.2.1 dd_Mo_close_14 (by decide) ?_
  refine lv_iload_n F.1 F.2.1 dd_Mo_close_15 rfl (lv_at hl 1 rfl) ?_
  refine zn_imul F dd_Mo_close_16 ?_
  refine lv_iload_n F.1 F.2.1 dd_Mo_close_17 rfl (lv_at hl 2 rfl) ?_
  refine zn_iadd F dd_Mo_close_18 ?_
  refine zm_iald (x := 7) (k := (3 * i) + c) (N := 6) F hE hP (by decide) (fun _ => rfl) (by omega) (by decide) dd_Mo_close_19 ?_
  refine lv_iconst (v := nI 3) F.1 F.2.1 dd_Mo_close_20 (by decide) ?_
  refine lv_icmp_eq F.1 F.2.1 dd_Mo_close_21 (tgt := 27) rfl (fun h21 => ?_) (fun h21 => ?_)
  · refine lv_aload_n F.1 F.2.1 dd_Mo_close_27 rfl (lv_at hl 0 rfl) ?_
    refine zm_gF F hE hP rfl rfl zi_Mo 7 (by decide) rfl wf_Mo_29 rfl dd_Mo_close_28 ?_
    refine lv_iconst (v := nI 3) F.1 F.2.1 dd_Mo_close_31 (by decide) ?_
    refine lv_iload_n F.1 F.2.1 dd_Mo_close_32 rfl (lv_at hl 1 rfl) ?_
    refine zn_imul F dd_Mo_close_33 ?_
    refine lv_iload_n F.1 F.2.1 dd_Mo_close_34 rfl (lv_at hl 2 rfl) ?_
    refine zn_iadd F dd_Mo_close_35 ?_
    refine lv_iconst (v := nI 4) F.1 F.2.1 dd_Mo_close_36 (by decide) ?_
    refine zm_iast (x := 7) (k := (3 * i) + c) (N := 6) F hE hP hS (fun _ h => h) (by decide) (fun _ => rfl) (by omega) (by decide)  dd_Mo_close_37 (fun H locs hP hS => ?_)
    refine lv_iconst (v := nI 0) F.1 F.2.1 dd_Mo_close_38 (by decide) ?_
    exact zw_iret F hr hlk hP hS (congrArg (zq_p G b0) (by rw [zu_Mo_close, if_pos h21])) (by rw [zr_Mo_close, if_pos h21]) dd_Mo_close_39
  · refine lv_bipush (v := (-2)) F.1 F.2.1 dd_Mo_close_24 (by decide) ?_
    exact zw_iret F hr hlk hP hS (congrArg (zq_p G b0) (by rw [zu_Mo_close, if_neg h21])) (by rw [zr_Mo_close, if_neg h21]) dd_Mo_close_26
set_option maxHeartbeats 4000000 in
set_option maxRecDepth 100000 in
theorem zc_Mo_close_bad (lc : Launch) (G : zw_G) (b0 : Nat) (T : zs_T) (l : Int32) (d : Int32) (hb : ¬ (zs_v l 2 ∧ zs_v d 3)) : zw_M lc ym_Mo_close bm_Mo_close 3 (some .int) { frames := 2, cells := 0, slots := 0, locals := 43 } G b0 26 (zq_p G b0 T) [.ref (b0 + 0), .int l, .int d] (zw_Qi G b0 26 (zq_p G b0 T) (-1)) := by
  refine zw_of (by decide) (Nat.le_of_ble_eq_true rfl) ?_
  intro p e s m below meth cx ls F hr hlk hE hP hS hl
  have hl : lv_has ls 3 [(0, .ref (b0 + 0)), (1, .int l), (2, .int d)] := hl
  refine lv_iload_n F.1 F.2.1 dd_Mo_close_0 rfl (lv_at hl 1 rfl) ?_
  refine lv_iload_n F.1 F.2.1 dd_Mo_close_1 rfl (lv_at hl 2 rfl) ?_
  refine zw_goi (zw_rS F hE hP (zc_Mo_isEnd_bad lc G b0 T l d (by first | omega | assumption)) zk_Mo_isEnd za_Mo_isEnd wl_Mo_121 ⟨rfl, rfl, Nat.le_of_ble_eq_true rfl, Nat.le_of_ble_eq_true rfl⟩ hl.1 rfl (Nat.le_of_ble_eq_true rfl) ⟨Nat.zero_le _, Nat.zero_le _⟩ dd_Mo_close_2) hS (fun _ h => h) (fun H locs hP _ _ hS => ?_)
  refine lv_if_ne F.1 F.2.1 dd_Mo_close_5 (tgt := 10) rfl (fun h5 => absurd h5 (by decide)) (fun h5 => ?_)
  refine lv_iconst (v := (-1)) F.1 F.2.1 dd_Mo_close_8 (by decide) ?_
  exact zw_iret F hr hlk hP hS rfl rfl dd_Mo_close_9
def zr_Mo_send (T : zs_T) (i : Nat) (c : Nat) (w : Nat) (k : Nat) (a : Int32) : Int32 := if T 7 ((3 * i) + c) = nI 3 then (if T 19 (((24 * i) + (6 * (w / 4))) + k) < a then ((-7)) else (if zs_n (T 9 (3 * i + c)) = 12 then ((-7)) else (if nI k ≤ 0 then (nI ((zs_n (T 9 (3 * i + c))) + 1)) else (if T 23 ((6 * i) + k) = nI c then (nI ((zs_n (T 9 (3 * i + c))) + 1)) else (nI ((zs_n (T 9 (3 * i + c))) + 1)))))) else ((-2))
def zu_Mo_send (T : zs_T) (i : Nat) (c : Nat) (w : Nat) (k : Nat) (a : Int32) : zs_T := if T 7 ((3 * i) + c) = nI 3 then (if T 19 (((24 * i) + (6 * (w / 4))) + k) < a then (T) else (if zs_n (T 9 (3 * i + c)) = 12 then (T) else (if nI k ≤ 0 then (zs_w (zs_w (zs_w (zs_w (zs_w (zs_w (zs_w (zs_w T 19 (((24 * i) + (6 * (w / 4))) + k) ((T 19 (((24 * i) + (6 * (w / 4))) + k)) - a)) 20 (((18 * i) + (6 * c)) + k) ((T 20 (((18 * i) + (6 * c)) + k)) + a)) 9 ((3 * i) + c) (nI ((zs_n (T 9 (3 * i + c))) + 1))) 12 ((13 * ((3 * i) + c)) + ((zs_n (T 9 (3 * i + c))) + 1)) (nI k)) 13 ((13 * ((3 * i) + c)) + ((zs_n (T 9 (3 * i + c))) + 1)) a) 14 ((13 * ((3 * i) + c)) + ((zs_n (T 9 (3 * i + c))) + 1)) (nI w)) 15 ((13 * ((3 * i) + c)) + ((zs_n (T 9 (3 * i + c))) + 1)) ((T 3 i) + (T 0 0))) 16 ((13 * ((3 * i) + c)) + ((zs_n (T 9 (3 * i + c))) + 1)) (nI 0)) else (if T 23 ((6 * i) + k) = nI c then (zs_w (zs_w (zs_w (zs_w (zs_w (zs_w (zs_w T 19 (((24 * i) + (6 * (w / 4))) + k) ((T 19 (((24 * i) + (6 * (w / 4))) + k)) - a)) 9 ((3 * i) + c) (nI ((zs_n (T 9 (3 * i + c))) + 1))) 12 ((13 * ((3 * i) + c)) + ((zs_n (T 9 (3 * i + c))) + 1)) (nI k)) 13 ((13 * ((3 * i) + c)) + ((zs_n (T 9 (3 * i + c))) + 1)) a) 14 ((13 * ((3 * i) + c)) + ((zs_n (T 9 (3 * i + c))) + 1)) (nI w)) 15 ((13 * ((3 * i) + c)) + ((zs_n (T 9 (3 * i + c))) + 1)) ((T 3 i) + (T 0 0))) 16 ((13 * ((3 * i) + c)) + ((zs_n (T 9 (3 * i + c))) + 1)) ((nI 1) + (T 22 ((6 * i) + k)))) else (zs_w (zs_w (zs_w (zs_w (zs_w (zs_w (zs_w (zs_w T 19 (((24 * i) + (6 * (w / 4))) + k) ((T 19 (((24 * i) + (6 * (w / 4))) + k)) - a)) 20 (((18 * i) + (6 * c)) + k) ((T 20 (((18 * i) + (6 * c)) + k)) + a)) 9 ((3 * i) + c) (nI ((zs_n (T 9 (3 * i + c))) + 1))) 12 ((13 * ((3 * i) + c)) + ((zs_n (T 9 (3 * i + c))) + 1)) (nI k)) 13 ((13 * ((3 * i) + c)) + ((zs_n (T 9 (3 * i + c))) + 1)) a) 14 ((13 * ((3 * i) + c)) + ((zs_n (T 9 (3 * i + c))) + 1)) (nI w)) 15 ((13 * ((3 * i) + c)) + ((zs_n (T 9 (3 * i + c))) + 1)) ((T 3 i) + (T 0 0))) 16 ((13 * ((3 * i) + c)) + ((zs_n (T 9 (3 * i + c))) + 1)) (nI 0)))))) else (T)
set_option maxHeartbeats 4000000 in
set_option maxRecDepth 100000 in
theorem zc_Mo_send (lc : Launch) (G : zw_G) (b0 : Nat) (T : zs_T) (i : Nat) (c : Nat) (w : Nat) (k : Nat) (a : Int32) (hi : i < 2) (hc : c < 3) (hw : w < 16) (hk : k < 6) (hkv : ¬ (nI k < nI 0 ∨ T 21 i < nI k)) (ha : ¬ (a < nI 1 ∨ nI 1000 < a)) (hn : T 9 (3 * i + c) = nI (zs_n (T 9 (3 * i + c)))) (hn2 : zs_n (T 9 (3 * i + c)) ≤ 12) : zw_M lc ym_Mo_send bm_Mo_send 10 (some .int) { frames := 2, cells := 0, slots := 0, locals := 43 } G b0 26 (zq_p G b0 T) [.ref (b0 + 0), .int (nI i), .int (nI c), .int (nI w), .int (nI k), .int a] (zw_Qi G b0 26 (zq_p G b0 (zu_Mo_send T i c w k a)) (zr_Mo_send T i c w k a)) := by
  refine zw_of (by decide) (Nat.le_of_ble_eq_true rfl) ?_
  intro p e s m below meth cx ls F hr hlk hE hP hS hl
  have hl : lv_has ls 10 [(0, .ref (b0 + 0)), (1, .int (nI i)), (2, .int (nI c)), (3, .int (nI w)), (4, .int (nI k)), (5, .int a)] := hl
  refine lv_iload_n F.1 F.2.1 dd_Mo_send_0 rfl (lv_at hl 1 rfl) ?_
  refine lv_iload_n F.1 F.2.1 dd_Mo_send_1 rfl (lv_at hl 2 rfl) ?_
  refine zw_goi (zw_rS F hE hP (zc_Mo_isEnd lc G b0 T i c (by first | omega | assumption) (by first | omega | assumption)) zk_Mo_isEnd za_Mo_isEnd wl_Mo_121 ⟨rfl, rfl, Nat.le_of_ble_eq_true rfl, Nat.le_of_ble_eq_true rfl⟩ hl.1 rfl (Nat.le_of_ble_eq_true rfl) ⟨Nat.zero_le _, Nat.zero_le _⟩ dd_Mo_send_2) hS (fun _ h => h) (fun H locs hP _ _ hS => ?_)
  refine lv_if_eq F.1 F.2.1 dd_Mo_send_5 (tgt := 45) rfl (fun h5 => absurd h5 (by decide)) (fun h5 => ?_)
  refine lv_iload_n F.1 F.2.1 dd_Mo_send_8 rfl (lv_at hl 3 rfl) ?_
  refine lv_iconst (v := nI 0) F.1 F.2.1 dd_Mo_send_9 (by decide) ?_
  refine lv_bipush (v := nI 15) F.1 F.2.1 dd_Mo_send_10 (by decide) ?_
  refine zw_goi (zw_rS F hE hP (zc_Mo_outside lc G b0 T (nI w) (nI 0) (nI 15)) zk_Mo_outside za_Mo_outside wl_Mo_91 ⟨rfl, rfl, Nat.le_of_ble_eq_true rfl, Nat.le_of_ble_eq_true rfl⟩ hl.1 rfl (Nat.le_of_ble_eq_true rfl) ⟨Nat.zero_le _, Nat.zero_le _⟩ dd_Mo_send_12) hS (fun _ h => h) (fun H locs hP _ _ hS => ?_)
  refine zn_bne F dd_Mo_send_15 (tgt := 45) rfl (fun h15 => absurd h15 (zn_ins (by omega) (by omega) (by decide))) (fun h15 => ?_)
  refine lv_iload F.1 F.2.1 dd_Mo_send_18 (lv_at hl 4 rfl) ?_
  refine lv_iconst (v := nI 0) F.1 F.2.1 dd_Mo_send_20 (by decide) ?_
  refine lv_aload_n F.1 F.2.1 dd_Mo_send_21 rfl (lv_at hl 0 rfl) ?_
  refine zm_gF F hE hP rfl rfl zi_Mo 21 (by decide) rfl wf_Mo_71 rfl dd_Mo_send_22 ?_
  refine lv_iload_n F.1 F.2.1 dd_Mo_send_25 rfl (lv_at hl 1 rfl) ?_
  refine zm_iald (x := 21) (k := i) (N := 2) F hE hP (by decide) (fun _ => rfl) (by omega) (by decide) dd_Mo_send_26 ?_
  refine zw_goi (zw_rS F hE hP (zc_Mo_outside lc G b0 T (nI k) (nI 0) (T 21 i)) zk_Mo_outside za_Mo_outside wl_Mo_91 ⟨rfl, rfl, Nat.le_of_ble_eq_true rfl, Nat.le_of_ble_eq_true rfl⟩ hl.1 rfl (Nat.le_of_ble_eq_true rfl) ⟨Nat.zero_le _, Nat.zero_le _⟩ dd_Mo_send_27) hS (fun _ h => h) (fun H locs hP _ _ hS => ?_)
  refine zn_bne F dd_Mo_send_30 (tgt := 45) rfl (fun h30 => absurd h30 hkv) (fun h30 => ?_)
  refine lv_iload F.1 F.2.1 dd_Mo_send_33 (lv_at hl 5 rfl) ?_
  refine lv_iconst (v := nI 1) F.1 F.2.1 dd_Mo_send_35 (by decide) ?_
  refine lv_sipush (v := nI 1000) F.1 F.2.1 dd_Mo_send_36 (by decide) ?_
  refine zw_goi (zw_rS F hE hP (zc_Mo_outside lc G b0 T a (nI 1) (nI 1000)) zk_Mo_outside za_Mo_outside wl_Mo_91 ⟨rfl, rfl, Nat.le_of_ble_eq_true rfl, Nat.le_of_ble_eq_true rfl⟩ hl.1 rfl (Nat.le_of_ble_eq_true rfl) ⟨Nat.zero_le _, Nat.zero_le _⟩ dd_Mo_send_39) hS (fun _ h => h) (fun H locs hP _ _ hS => ?_)
  refine zn_beq F dd_Mo_send_42 (tgt := 47) rfl (fun h42 => ?_) (fun h42 => absurd h42 ha)
  refine lv_iconst (v := nI 3) F.1 F.2.1 dd_Mo_send_47 (by decide) ?_
  refine lv_iload_n F.1 F.2.1 dd_Mo_send_48 rfl (lv_at hl 1 rfl) ?_
  refine zn_imul F dd_Mo_send_49 ?_
  refine lv_iload_n F.1 F.2.1 dd_Mo_send_50 rfl (lv_at hl 2 rfl) ?_
  refine zn_iadd F dd_Mo_send_51 ?_
  refine lv_istore F.1 F.2.1 dd_Mo_send_52 hl (by decide) (lv' := [(6, .int (nI ((3 * i) + c))), (0, .ref (b0 + 0)), (1, .int (nI i)), (2, .int (nI c)), (3, .int (nI w)), (4, .int (nI k)), (5, .int a)]) rfl (fun ls hl => ?_)
  refine lv_aload_n F.1 F.2.1 dd_Mo_send_54 rfl (lv_at hl 1 rfl) ?_
  refine zm_gF F hE hP rfl rfl zi_Mo 7 (by decide) rfl wf_Mo_29 rfl dd_Mo_send_55 ?_
  refine lv_iload F.1 F.2.1 dd_Mo_send_58 (lv_at hl 0 rfl) ?_
  refine zm_iald (x := 7) (k := (3 * i) + c) (N := 6) F hE hP (by decide) (fun _ => rfl) (by omega) (by decide) dd_Mo_send_60 ?_
  refine lv_iconst (v := nI 3) F.1 F.2.1 dd_Mo_send_61 (by decide) ?_
  refine lv_icmp_eq F.1 F.2.1 dd_Mo_send_62 (tgt := 68) rfl (fun h62 => ?_) (fun h62 => ?_)
  · refine lv_bipush (v := nI 24) F.1 F.2.1 dd_Mo_send_68 (by decide) ?_
    refine lv_iload_n F.1 F.2.1 dd_Mo_send_70 rfl (lv_at hl 2 rfl) ?_
    refine zn_imul F dd_Mo_send_71 ?_
    refine lv_bipush (v := nI 6) F.1 F.2.1 dd_Mo_send_72 (by decide) ?_
    refine lv_iload_n F.1 F.2.1 dd_Mo_send_74 rfl (lv_at hl 4 rfl) ?_
    refine lv_iconst (v := nI 4) F.1 F.2.1 dd_Mo_send_75 (by decide) ?_
    refine zn_idiv F dd_Mo_send_76 (by omega) (by decide) (by decide) ?_
    refine zn_imul F dd_Mo_send_77 ?_
    refine zn_iadd F dd_Mo_send_78 ?_
    refine lv_iload F.1 F.2.1 dd_Mo_send_79 (lv_at hl 5 rfl) ?_
    refine zn_iadd F dd_Mo_send_81 ?_
    refine lv_istore F.1 F.2.1 dd_Mo_send_82 hl (by decide) (lv' := [(7, .int (nI (((24 * i) + (6 * (w / 4))) + k))), (6, .int (nI ((3 * i) + c))), (0, .ref (b0 + 0)), (1, .int (nI i)), (2, .int (nI c)), (3, .int (nI w)), (4, .int (nI k)), (5, .int a)]) rfl (fun ls hl => ?_)
    refine lv_aload_n F.1 F.2.1 dd_Mo_send_84 rfl (lv_at hl 2 rfl) ?_
    refine zm_gF F hE hP rfl rfl zi_Mo 19 (by decide) rfl wf_Mo_65 rfl dd_Mo_send_85 ?_
    refine lv_iload F.1 F.2.1 dd_Mo_send_88 (lv_at hl 0 rfl) ?_
    refine zm_iald (x := 19) (k := ((24 * i) + (6 * (w / 4))) + k) (N := 48) F hE hP (by decide) (fun _ => rfl) (by omega) (by decide) dd_Mo_send_90 ?_
    refine lv_iload F.1 F.2.1 dd_Mo_send_91 (lv_at hl 7 rfl) ?_
    refine lv_icmp_lt F.1 F.2.1 dd_Mo_send_93 (tgt := 108) rfl (fun h93 => ?_) (fun h93 => ?_)
    · refine lv_bipush (v := (-7)) F.1 F.2.1 dd_Mo_send_108 (by decide) ?_
      exact zw_iret F hr hlk hP hS (congrArg (zq_p G b0) (by rw [zu_Mo_send, if_pos h62, if_pos h93])) (by rw [zr_Mo_send, if_pos h62, if_pos h93]) dd_Mo_send_110
    · refine lv_aload_n F.1 F.2.1 dd_Mo_send_96 rfl (lv_at hl 2 rfl) ?_
      refine zm_gF F hE hP rfl rfl zi_Mo 9 (by decide) rfl wf_Mo_35 rfl dd_Mo_send_97 ?_
      refine lv_iload F.1 F.2.1 dd_Mo_send_100 (lv_at hl 1 rfl) ?_
      refine zm_iald (x := 9) (k := (3 * i) + c) (N := 6) F hE hP (by decide) (fun _ => rfl) (by omega) (by decide) dd_Mo_send_102 ?_
      refine zn_top (y := nI (zs_n (T 9 (3 * i + c)))) (hn) ?_
      refine lv_bipush (v := nI 12) F.1 F.2.1 dd_Mo_send_103 (by decide) ?_
      refine zn_cne F dd_Mo_send_105 (tgt := 111) rfl (by omega) (by omega) (fun h105 => ?_) (fun h105 => ?_)
      · refine lv_iload F.1 F.2.1 dd_Mo_send_111 (lv_at hl 6 rfl) ?_
        refine lv_if_le F.1 F.2.1 dd_Mo_send_113 (tgt := 136) rfl (fun h113 => ?_) (fun h113 => ?_)
        · refine lv_iconst (v := nI 0) F.1 F.2.1 dd_Mo_send_136 (by decide) ?_
          refine lv_istore F.1 F.2.1 dd_Mo_send_137 hl (by decide) (lv' := [(8, .int (nI 0)), (7, .int (nI (((24 * i) + (6 * (w / 4))) + k))), (6, .int (nI ((3 * i) + c))), (0, .ref (b0 + 0)), (1, .int (nI i)), (2, .int (nI c)), (3, .int (nI w)), (4, .int (nI k)), (5, .int a)]) rfl (fun ls hl => ?_)
          refine lv_aload_n F.1 F.2.1 dd_Mo_send_139 rfl (lv_at hl 3 rfl) ?_
          refine zm_gF F hE hP rfl rfl zi_Mo 19 (by decide) rfl wf_Mo_65 rfl dd_Mo_send_140 ?_
          refine lv_iload F.1 F.2.1 dd_Mo_send_143 (lv_at hl 1 rfl) ?_
          refine lv_dup2_11 F.1 F.2.1 dd_Mo_send_145 rfl rfl ?_
          refine zm_iald (x := 19) (k := ((24 * i) + (6 * (w / 4))) + k) (N := 48) F hE hP (by decide) (fun _ => rfl) (by omega) (by decide) dd_Mo_send_146 ?_
          refine lv_iload F.1 F.2.1 dd_Mo_send_147 (lv_at hl 8 rfl) ?_
          refine lv_isub F.1 F.2.1 dd_Mo_send_149 ?_
          refine zm_iast (x := 19) (k := ((24 * i) + (6 * (w / 4))) + k) (N := 48) F hE hP hS (fun _ h => h) (by decide) (fun _ => rfl) (by omega) (by decide)  dd_Mo_send_150 (fun H locs hP hS => ?_)
          refine lv_iload F.1 F.2.1 dd_Mo_send_151 (lv_at hl 0 rfl) ?_
          refine lv_if_ne F.1 F.2.1 dd_Mo_send_153 (tgt := 178) rfl (fun h153 => absurd h153 (by decide)) (fun h153 => ?_)
          refine lv_aload_n F.1 F.2.1 dd_Mo_send_156 rfl (lv_at hl 3 rfl) ?_
          refine zm_gF F hE hP rfl rfl zi_Mo 20 (by decide) rfl wf_Mo_68 rfl dd_Mo_send_157 ?_
          refine lv_bipush (v := nI 18) F.1 F.2.1 dd_Mo_send_160 (by decide) ?_
          refine lv_iload_n F.1 F.2.1 dd_Mo_send_162 rfl (lv_at hl 4 rfl) ?_
          refine zn_imul F dd_Mo_send_163 ?_
          refine lv_bipush (v := nI 6) F.1 F.2.1 dd_Mo_send_164 (by decide) ?_
          refine lv_iload_n F.1 F.2.1 dd_Mo_send_166 rfl (lv_at hl 5 rfl) ?_
          refine zn_imul F dd_Mo_send_167 ?_
          refine zn_iadd F dd_Mo_send_168 ?_
          refine lv_iload F.1 F.2.1 dd_Mo_send_169 (lv_at hl 7 rfl) ?_
          refine zn_iadd F dd_Mo_send_171 ?_
          refine lv_dup2_11 F.1 F.2.1 dd_Mo_send_172 rfl rfl ?_
          refine zm_iald (x := 20) (k := ((18 * i) + (6 * c)) + k) (N := 36) F hE hP (by decide) (fun _ => rfl) (by omega) (by decide) dd_Mo_send_173 ?_
          refine zn_top (y := T 20 (((18 * i) + (6 * c)) + k)) (by rw [zs_wx (by decide)]) ?_
          refine lv_iload F.1 F.2.1 dd_Mo_send_174 (lv_at hl 8 rfl) ?_
          refine lv_iadd F.1 F.2.1 dd_Mo_send_176 ?_
          refine zm_iast (x := 20) (k := ((18 * i) + (6 * c)) + k) (N := 36) F hE hP hS (fun _ h => h) (by decide) (fun _ => rfl) (by omega) (by decide)  dd_Mo_send_177 (fun H locs hP hS => ?_)
          refine lv_aload_n F.1 F.2.1 dd_Mo_send_178 rfl (lv_at hl 3 rfl) ?_
          refine zm_gF F hE hP rfl rfl zi_Mo 9 (by decide) rfl wf_Mo_35 rfl dd_Mo_send_179 ?_
          refine lv_iload F.1 F.2.1 dd_Mo_send_182 (lv_at hl 2 rfl) ?_
          refine lv_dup2_11 F.1 F.2.1 dd_Mo_send_184 rfl rfl ?_
          refine zm_iald (x := 9) (k := (3 * i) + c) (N := 6) F hE hP (by decide) (fun _ => rfl) (by omega) (by decide) dd_Mo_send_185 ?_
          refine zn_top (y := T 9 ((3 * i) + c)) (by rw [zs_wx (by decide), zs_wx (by decide)]) ?_
          refine zn_top (y := nI (zs_n (T 9 (3 * i + c)))) (hn) ?_
          refine lv_iconst (v := nI 1) F.1 F.2.1 dd_Mo_send_186 (by decide) ?_
          refine zn_iadd F dd_Mo_send_187 ?_
          refine zm_iast (x := 9) (k := (3 * i) + c) (N := 6) F hE hP hS (fun _ h => h) (by decide) (fun _ => rfl) (by omega) (by decide)  dd_Mo_send_188 (fun H locs hP hS => ?_)
          refine lv_bipush (v := nI 13) F.1 F.2.1 dd_Mo_send_189 (by decide) ?_
          refine lv_iload F.1 F.2.1 dd_Mo_send_191 (lv_at hl 2 rfl) ?_
          refine zn_imul F dd_Mo_send_193 ?_
          refine lv_aload_n F.1 F.2.1 dd_Mo_send_194 rfl (lv_at hl 3 rfl) ?_
          refine zm_gF F hE hP rfl rfl zi_Mo 9 (by decide) rfl wf_Mo_35 rfl dd_Mo_send_195 ?_
          refine lv_iload F.1 F.2.1 dd_Mo_send_198 (lv_at hl 2 rfl) ?_
          refine zm_iald (x := 9) (k := (3 * i) + c) (N := 6) F hE hP (by decide) (fun _ => rfl) (by omega) (by decide) dd_Mo_send_200 ?_
          refine zn_top (y := nI ((zs_n (T 9 (3 * i + c))) + 1)) (by rw [zs_ws]) ?_
          refine zn_iadd F dd_Mo_send_201 ?_
          refine lv_istore F.1 F.2.1 dd_Mo_send_202 hl (by decide) (lv' := [(9, .int (nI ((13 * ((3 * i) + c)) + ((zs_n (T 9 (3 * i + c))) + 1)))), (8, .int (nI 0)), (7, .int (nI (((24 * i) + (6 * (w / 4))) + k))), (6, .int (nI ((3 * i) + c))), (0, .ref (b0 + 0)), (1, .int (nI i)), (2, .int (nI c)), (3, .int (nI w)), (4, .int (nI k)), (5, .int a)]) rfl (fun ls hl => ?_)
          refine lv_aload_n F.1 F.2.1 dd_Mo_send_204 rfl (lv_at hl 4 rfl) ?_
          refine zm_gF F hE hP rfl rfl zi_Mo 12 (by decide) rfl wf_Mo_44 rfl dd_Mo_send_205 ?_
          refine lv_iload F.1 F.2.1 dd_Mo_send_208 (lv_at hl 0 rfl) ?_
          refine lv_iload F.1 F.2.1 dd_Mo_send_210 (lv_at hl 8 rfl) ?_
          refine zm_iast (x := 12) (k := (13 * ((3 * i) + c)) + ((zs_n (T 9 (3 * i + c))) + 1)) (N := 78) F hE hP hS (fun _ h => h) (by decide) (fun _ => rfl) (by omega) (by decide)  dd_Mo_send_212 (fun H locs hP hS => ?_)
          refine lv_aload_n F.1 F.2.1 dd_Mo_send_213 rfl (lv_at hl 4 rfl) ?_
          refine zm_gF F hE hP rfl rfl zi_Mo 13 (by decide) rfl wf_Mo_47 rfl dd_Mo_send_214 ?_
          refine lv_iload F.1 F.2.1 dd_Mo_send_217 (lv_at hl 0 rfl) ?_
          refine lv_iload F.1 F.2.1 dd_Mo_send_219 (lv_at hl 9 rfl) ?_
          refine zm_iast (x := 13) (k := (13 * ((3 * i) + c)) + ((zs_n (T 9 (3 * i + c))) + 1)) (N := 78) F hE hP hS (fun _ h => h) (by decide) (fun _ => rfl) (by omega) (by decide)  dd_Mo_send_221 (fun H locs hP hS => ?_)
          refine lv_aload_n F.1 F.2.1 dd_Mo_send_222 rfl (lv_at hl 4 rfl) ?_
          refine zm_gF F hE hP rfl rfl zi_Mo 14 (by decide) rfl wf_Mo_50 rfl dd_Mo_send_223 ?_
          refine lv_iload F.1 F.2.1 dd_Mo_send_226 (lv_at hl 0 rfl) ?_
          refine lv_iload_n F.1 F.2.1 dd_Mo_send_228 rfl (lv_at hl 7 rfl) ?_
          refine zm_iast (x := 14) (k := (13 * ((3 * i) + c)) + ((zs_n (T 9 (3 * i + c))) + 1)) (N := 78) F hE hP hS (fun _ h => h) (by decide) (fun _ => rfl) (by omega) (by decide)  dd_Mo_send_229 (fun H locs hP hS => ?_)
          refine lv_aload_n F.1 F.2.1 dd_Mo_send_230 rfl (lv_at hl 4 rfl) ?_
          refine zm_gF F hE hP rfl rfl zi_Mo 15 (by decide) rfl wf_Mo_53 rfl dd_Mo_send_231 ?_
          refine lv_iload F.1 F.2.1 dd_Mo_send_234 (lv_at hl 0 rfl) ?_
          refine lv_aload_n F.1 F.2.1 dd_Mo_send_236 rfl (lv_at hl 4 rfl) ?_
          refine zm_gF F hE hP rfl rfl zi_Mo 3 (by decide) rfl wf_Mo_17 rfl dd_Mo_send_237 ?_
          refine lv_iload_n F.1 F.2.1 dd_Mo_send_240 rfl (lv_at hl 5 rfl) ?_
          refine zm_iald (x := 3) (k := i) (N := 2) F hE hP (by decide) (fun _ => rfl) (by omega) (by decide) dd_Mo_send_241 ?_
          refine zn_top (y := T 3 i) (by rw [zs_wx (by decide), zs_wx (by decide), zs_wx (by decide), zs_wx (by decide), zs_wx (by decide), zs_wx (by decide)]) ?_
          refine lv_aload_n F.1 F.2.1 dd_Mo_send_242 rfl (lv_at hl 4 rfl) ?_
          refine zm_gF F hE hP rfl rfl zi_Mo 0 (by decide) rfl wf_Mo_86 rfl dd_Mo_send_243 ?_
          refine zn_top (y := T 0 0) (by rw [zs_wx (by decide), zs_wx (by decide), zs_wx (by decide), zs_wx (by decide), zs_wx (by decide), zs_wx (by decide)]) ?_
          refine lv_iadd F.1 F.2.1 dd_Mo_send_246 ?_
          refine zm_iast (x := 15) (k := (13 * ((3 * i) + c)) + ((zs_n (T 9 (3 * i + c))) + 1)) (N := 78) F hE hP hS (fun _ h => h) (by decide) (fun _ => rfl) (by omega) (by decide)  dd_Mo_send_247 (fun H locs hP hS => ?_)
          refine lv_aload_n F.1 F.2.1 dd_Mo_send_248 rfl (lv_at hl 4 rfl) ?_
          refine zm_gF F hE hP rfl rfl zi_Mo 16 (by decide) rfl wf_Mo_56 rfl dd_Mo_send_249 ?_
          refine lv_iload F.1 F.2.1 dd_Mo_send_252 (lv_at hl 0 rfl) ?_
          refine lv_iload F.1 F.2.1 dd_Mo_send_254 (lv_at hl 1 rfl) ?_
          refine lv_if_eq F.1 F.2.1 dd_Mo_send_256 (tgt := 276) rfl (fun h256 => ?_) (fun h256 => absurd h256 (by decide))
          refine lv_iconst (v := nI 0) F.1 F.2.1 dd_Mo_send_276 (by decide) ?_
          refine zm_iast (x := 16) (k := (13 * ((3 * i) + c)) + ((zs_n (T 9 (3 * i + c))) + 1)) (N := 78) F hE hP hS (fun _ h => h) (by decide) (fun _ => rfl) (by omega) (by decide)  dd_Mo_send_277 (fun H locs hP hS => ?_)
          refine lv_aload_n F.1 F.2.1 dd_Mo_send_278 rfl (lv_at hl 4 rfl) ?_
          refine zm_gF F hE hP rfl rfl zi_Mo 9 (by decide) rfl wf_Mo_35 rfl dd_Mo_send_279 ?_
          refine lv_iload F.1 F.2.1 dd_Mo_send_282 (lv_at hl 3 rfl) ?_
          refine zm_iald (x := 9) (k := (3 * i) + c) (N := 6) F hE hP (by decide) (fun _ => rfl) (by omega) (by decide) dd_Mo_send_284 ?_
          refine zn_top (y := nI ((zs_n (T 9 (3 * i + c))) + 1)) (by rw [zs_wx (by decide), zs_wx (by decide), zs_wx (by decide), zs_wx (by decide), zs_wx (by decide), zs_ws]) ?_
          exact zw_iret F hr hlk hP hS (congrArg (zq_p G b0) (by rw [zu_Mo_send, if_pos h62, if_neg h93, if_neg h105, if_pos h113])) (by rw [zr_Mo_send, if_pos h62, if_neg h93, if_neg h105, if_pos h113]) dd_Mo_send_285
        · refine lv_aload_n F.1 F.2.1 dd_Mo_send_116 rfl (lv_at hl 2 rfl) ?_
          refine zm_gF F hE hP rfl rfl zi_Mo 23 (by decide) rfl wf_Mo_77 rfl dd_Mo_send_117 ?_
          refine lv_bipush (v := nI 6) F.1 F.2.1 dd_Mo_send_120 (by decide) ?_
          refine lv_iload_n F.1 F.2.1 dd_Mo_send_122 rfl (lv_at hl 3 rfl) ?_
          refine zn_imul F dd_Mo_send_123 ?_
          refine lv_iload F.1 F.2.1 dd_Mo_send_124 (lv_at hl 6 rfl) ?_
          refine zn_iadd F dd_Mo_send_126 ?_
          refine zm_iald (x := 23) (k := (6 * i) + k) (N := 12) F hE hP (by decide) (fun _ => rfl) (by omega) (by decide) dd_Mo_send_127 ?_
          refine lv_iload_n F.1 F.2.1 dd_Mo_send_128 rfl (lv_at hl 4 rfl) ?_
          refine lv_icmp_ne F.1 F.2.1 dd_Mo_send_129 (tgt := 136) rfl (fun h129 => ?_) (fun h129 => ?_)
          · refine lv_iconst (v := nI 0) F.1 F.2.1 dd_Mo_send_136 (by decide) ?_
            refine lv_istore F.1 F.2.1 dd_Mo_send_137 hl (by decide) (lv' := [(8, .int (nI 0)), (7, .int (nI (((24 * i) + (6 * (w / 4))) + k))), (6, .int (nI ((3 * i) + c))), (0, .ref (b0 + 0)), (1, .int (nI i)), (2, .int (nI c)), (3, .int (nI w)), (4, .int (nI k)), (5, .int a)]) rfl (fun ls hl => ?_)
            refine lv_aload_n F.1 F.2.1 dd_Mo_send_139 rfl (lv_at hl 3 rfl) ?_
            refine zm_gF F hE hP rfl rfl zi_Mo 19 (by decide) rfl wf_Mo_65 rfl dd_Mo_send_140 ?_
            refine lv_iload F.1 F.2.1 dd_Mo_send_143 (lv_at hl 1 rfl) ?_
            refine lv_dup2_11 F.1 F.2.1 dd_Mo_send_145 rfl rfl ?_
            refine zm_iald (x := 19) (k := ((24 * i) + (6 * (w / 4))) + k) (N := 48) F hE hP (by decide) (fun _ => rfl) (by omega) (by decide) dd_Mo_send_146 ?_
            refine lv_iload F.1 F.2.1 dd_Mo_send_147 (lv_at hl 8 rfl) ?_
            refine lv_isub F.1 F.2.1 dd_Mo_send_149 ?_
            refine zm_iast (x := 19) (k := ((24 * i) + (6 * (w / 4))) + k) (N := 48) F hE hP hS (fun _ h => h) (by decide) (fun _ => rfl) (by omega) (by decide)  dd_Mo_send_150 (fun H locs hP hS => ?_)
            refine lv_iload F.1 F.2.1 dd_Mo_send_151 (lv_at hl 0 rfl) ?_
            refine lv_if_ne F.1 F.2.1 dd_Mo_send_153 (tgt := 178) rfl (fun h153 => absurd h153 (by decide)) (fun h153 => ?_)
            refine lv_aload_n F.1 F.2.1 dd_Mo_send_156 rfl (lv_at hl 3 rfl) ?_
            refine zm_gF F hE hP rfl rfl zi_Mo 20 (by decide) rfl wf_Mo_68 rfl dd_Mo_send_157 ?_
            refine lv_bipush (v := nI 18) F.1 F.2.1 dd_Mo_send_160 (by decide) ?_
            refine lv_iload_n F.1 F.2.1 dd_Mo_send_162 rfl (lv_at hl 4 rfl) ?_
            refine zn_imul F dd_Mo_send_163 ?_
            refine lv_bipush (v := nI 6) F.1 F.2.1 dd_Mo_send_164 (by decide) ?_
            refine lv_iload_n F.1 F.2.1 dd_Mo_send_166 rfl (lv_at hl 5 rfl) ?_
            refine zn_imul F dd_Mo_send_167 ?_
            refine zn_iadd F dd_Mo_send_168 ?_
            refine lv_iload F.1 F.2.1 dd_Mo_send_169 (lv_at hl 7 rfl) ?_
            refine zn_iadd F dd_Mo_send_171 ?_
            refine lv_dup2_11 F.1 F.2.1 dd_Mo_send_172 rfl rfl ?_
            refine zm_iald (x := 20) (k := ((18 * i) + (6 * c)) + k) (N := 36) F hE hP (by decide) (fun _ => rfl) (by omega) (by decide) dd_Mo_send_173 ?_
            refine zn_top (y := T 20 (((18 * i) + (6 * c)) + k)) (by rw [zs_wx (by decide)]) ?_
            refine lv_iload F.1 F.2.1 dd_Mo_send_174 (lv_at hl 8 rfl) ?_
            refine lv_iadd F.1 F.2.1 dd_Mo_send_176 ?_
            refine zm_iast (x := 20) (k := ((18 * i) + (6 * c)) + k) (N := 36) F hE hP hS (fun _ h => h) (by decide) (fun _ => rfl) (by omega) (by decide)  dd_Mo_send_177 (fun H locs hP hS => ?_)
            refine lv_aload_n F.1 F.2.1 dd_Mo_send_178 rfl (lv_at hl 3 rfl) ?_
            refine zm_gF F hE hP rfl rfl zi_Mo 9 (by decide) rfl wf_Mo_35 rfl dd_Mo_send_179 ?_
            refine lv_iload F.1 F.2.1 dd_Mo_send_182 (lv_at hl 2 rfl) ?_
            refine lv_dup2_11 F.1 F.2.1 dd_Mo_send_184 rfl rfl ?_
            refine zm_iald (x := 9) (k := (3 * i) + c) (N := 6) F hE hP (by decide) (fun _ => rfl) (by omega) (by decide) dd_Mo_send_185 ?_
            refine zn_top (y := T 9 ((3 * i) + c)) (by rw [zs_wx (by decide), zs_wx (by decide)]) ?_
            refine zn_top (y := nI (zs_n (T 9 (3 * i + c)))) (hn) ?_
            refine lv_iconst (v := nI 1) F.1 F.2.1 dd_Mo_send_186 (by decide) ?_
            refine zn_iadd F dd_Mo_send_187 ?_
            refine zm_iast (x := 9) (k := (3 * i) + c) (N := 6) F hE hP hS (fun _ h => h) (by decide) (fun _ => rfl) (by omega) (by decide)  dd_Mo_send_188 (fun H locs hP hS => ?_)
            refine lv_bipush (v := nI 13) F.1 F.2.1 dd_Mo_send_189 (by decide) ?_
            refine lv_iload F.1 F.2.1 dd_Mo_send_191 (lv_at hl 2 rfl) ?_
            refine zn_imul F dd_Mo_send_193 ?_
            refine lv_aload_n F.1 F.2.1 dd_Mo_send_194 rfl (lv_at hl 3 rfl) ?_
            refine zm_gF F hE hP rfl rfl zi_Mo 9 (by decide) rfl wf_Mo_35 rfl dd_Mo_send_195 ?_
            refine lv_iload F.1 F.2.1 dd_Mo_send_198 (lv_at hl 2 rfl) ?_
            refine zm_iald (x := 9) (k := (3 * i) + c) (N := 6) F hE hP (by decide) (fun _ => rfl) (by omega) (by decide) dd_Mo_send_200 ?_
            refine zn_top (y := nI ((zs_n (T 9 (3 * i + c))) + 1)) (by rw [zs_ws]) ?_
            refine zn_iadd F dd_Mo_send_201 ?_
            refine lv_istore F.1 F.2.1 dd_Mo_send_202 hl (by decide) (lv' := [(9, .int (nI ((13 * ((3 * i) + c)) + ((zs_n (T 9 (3 * i + c))) + 1)))), (8, .int (nI 0)), (7, .int (nI (((24 * i) + (6 * (w / 4))) + k))), (6, .int (nI ((3 * i) + c))), (0, .ref (b0 + 0)), (1, .int (nI i)), (2, .int (nI c)), (3, .int (nI w)), (4, .int (nI k)), (5, .int a)]) rfl (fun ls hl => ?_)
            refine lv_aload_n F.1 F.2.1 dd_Mo_send_204 rfl (lv_at hl 4 rfl) ?_
            refine zm_gF F hE hP rfl rfl zi_Mo 12 (by decide) rfl wf_Mo_44 rfl dd_Mo_send_205 ?_
            refine lv_iload F.1 F.2.1 dd_Mo_send_208 (lv_at hl 0 rfl) ?_
            refine lv_iload F.1 F.2.1 dd_Mo_send_210 (lv_at hl 8 rfl) ?_
            refine zm_iast (x := 12) (k := (13 * ((3 * i) + c)) + ((zs_n (T 9 (3 * i + c))) + 1)) (N := 78) F hE hP hS (fun _ h => h) (by decide) (fun _ => rfl) (by omega) (by decide)  dd_Mo_send_212 (fun H locs hP hS => ?_)
            refine lv_aload_n F.1 F.2.1 dd_Mo_send_213 rfl (lv_at hl 4 rfl) ?_
            refine zm_gF F hE hP rfl rfl zi_Mo 13 (by decide) rfl wf_Mo_47 rfl dd_Mo_send_214 ?_
            refine lv_iload F.1 F.2.1 dd_Mo_send_217 (lv_at hl 0 rfl) ?_
            refine lv_iload F.1 F.2.1 dd_Mo_send_219 (lv_at hl 9 rfl) ?_
            refine zm_iast (x := 13) (k := (13 * ((3 * i) + c)) + ((zs_n (T 9 (3 * i + c))) + 1)) (N := 78) F hE hP hS (fun _ h => h) (by decide) (fun _ => rfl) (by omega) (by decide)  dd_Mo_send_221 (fun H locs hP hS => ?_)
            refine lv_aload_n F.1 F.2.1 dd_Mo_send_222 rfl (lv_at hl 4 rfl) ?_
            refine zm_gF F hE hP rfl rfl zi_Mo 14 (by decide) rfl wf_Mo_50 rfl dd_Mo_send_223 ?_
            refine lv_iload F.1 F.2.1 dd_Mo_send_226 (lv_at hl 0 rfl) ?_
            refine lv_iload_n F.1 F.2.1 dd_Mo_send_228 rfl (lv_at hl 7 rfl) ?_
            refine zm_iast (x := 14) (k := (13 * ((3 * i) + c)) + ((zs_n (T 9 (3 * i + c))) + 1)) (N := 78) F hE hP hS (fun _ h => h) (by decide) (fun _ => rfl) (by omega) (by decide)  dd_Mo_send_229 (fun H locs hP hS => ?_)
            refine lv_aload_n F.1 F.2.1 dd_Mo_send_230 rfl (lv_at hl 4 rfl) ?_
            refine zm_gF F hE hP rfl rfl zi_Mo 15 (by decide) rfl wf_Mo_53 rfl dd_Mo_send_231 ?_
            refine lv_iload F.1 F.2.1 dd_Mo_send_234 (lv_at hl 0 rfl) ?_
            refine lv_aload_n F.1 F.2.1 dd_Mo_send_236 rfl (lv_at hl 4 rfl) ?_
            refine zm_gF F hE hP rfl rfl zi_Mo 3 (by decide) rfl wf_Mo_17 rfl dd_Mo_send_237 ?_
            refine lv_iload_n F.1 F.2.1 dd_Mo_send_240 rfl (lv_at hl 5 rfl) ?_
            refine zm_iald (x := 3) (k := i) (N := 2) F hE hP (by decide) (fun _ => rfl) (by omega) (by decide) dd_Mo_send_241 ?_
            refine zn_top (y := T 3 i) (by rw [zs_wx (by decide), zs_wx (by decide), zs_wx (by decide), zs_wx (by decide), zs_wx (by decide), zs_wx (by decide)]) ?_
            refine lv_aload_n F.1 F.2.1 dd_Mo_send_242 rfl (lv_at hl 4 rfl) ?_
            refine zm_gF F hE hP rfl rfl zi_Mo 0 (by decide) rfl wf_Mo_86 rfl dd_Mo_send_243 ?_
            refine zn_top (y := T 0 0) (by rw [zs_wx (by decide), zs_wx (by decide), zs_wx (by decide), zs_wx (by decide), zs_wx (by decide), zs_wx (by decide)]) ?_
            refine lv_iadd F.1 F.2.1 dd_Mo_send_246 ?_
            refine zm_iast (x := 15) (k := (13 * ((3 * i) + c)) + ((zs_n (T 9 (3 * i + c))) + 1)) (N := 78) F hE hP hS (fun _ h => h) (by decide) (fun _ => rfl) (by omega) (by decide)  dd_Mo_send_247 (fun H locs hP hS => ?_)
            refine lv_aload_n F.1 F.2.1 dd_Mo_send_248 rfl (lv_at hl 4 rfl) ?_
            refine zm_gF F hE hP rfl rfl zi_Mo 16 (by decide) rfl wf_Mo_56 rfl dd_Mo_send_249 ?_
            refine lv_iload F.1 F.2.1 dd_Mo_send_252 (lv_at hl 0 rfl) ?_
            refine lv_iload F.1 F.2.1 dd_Mo_send_254 (lv_at hl 1 rfl) ?_
            refine lv_if_eq F.1 F.2.1 dd_Mo_send_256 (tgt := 276) rfl (fun h256 => ?_) (fun h256 => absurd h256 (by decide))
            refine lv_iconst (v := nI 0) F.1 F.2.1 dd_Mo_send_276 (by decide) ?_
            refine zm_iast (x := 16) (k := (13 * ((3 * i) + c)) + ((zs_n (T 9 (3 * i + c))) + 1)) (N := 78) F hE hP hS (fun _ h => h) (by decide) (fun _ => rfl) (by omega) (by decide)  dd_Mo_send_277 (fun H locs hP hS => ?_)
            refine lv_aload_n F.1 F.2.1 dd_Mo_send_278 rfl (lv_at hl 4 rfl) ?_
            refine zm_gF F hE hP rfl rfl zi_Mo 9 (by decide) rfl wf_Mo_35 rfl dd_Mo_send_279 ?_
            refine lv_iload F.1 F.2.1 dd_Mo_send_282 (lv_at hl 3 rfl) ?_
            refine zm_iald (x := 9) (k := (3 * i) + c) (N := 6) F hE hP (by decide) (fun _ => rfl) (by omega) (by decide) dd_Mo_send_284 ?_
            refine zn_top (y := nI ((zs_n (T 9 (3 * i + c))) + 1)) (by rw [zs_wx (by decide), zs_wx (by decide), zs_wx (by decide), zs_wx (by decide), zs_wx (by decide), zs_ws]) ?_
            exact zw_iret F hr hlk hP hS (congrArg (zq_p G b0) (by rw [zu_Mo_send, if_pos h62, if_neg h93, if_neg h105, if_neg h113, if_neg h129])) (by rw [zr_Mo_send, if_pos h62, if_neg h93, if_neg h105, if_neg h113, if_neg h129]) dd_Mo_send_285
          · refine lv_iconst (v := nI 1) F.1 F.2.1 dd_Mo_send_132 (by decide) ?_
            refine lv_goto F.1 F.2.1 dd_Mo_send_133 (tgt := 137) rfl ?_
            refine lv_istore F.1 F.2.1 dd_Mo_send_137 hl (by decide) (lv' := [(8, .int (nI 1)), (7, .int (nI (((24 * i) + (6 * (w / 4))) + k))), (6, .int (nI ((3 * i) + c))), (0, .ref (b0 + 0)), (1, .int (nI i)), (2, .int (nI c)), (3, .int (nI w)), (4, .int (nI k)), (5, .int a)]) rfl (fun ls hl => ?_)
            refine lv_aload_n F.1 F.2.1 dd_Mo_send_139 rfl (lv_at hl 3 rfl) ?_
            refine zm_gF F hE hP rfl rfl zi_Mo 19 (by decide) rfl wf_Mo_65 rfl dd_Mo_send_140 ?_
            refine lv_iload F.1 F.2.1 dd_Mo_send_143 (lv_at hl 1 rfl) ?_
            refine lv_dup2_11 F.1 F.2.1 dd_Mo_send_145 rfl rfl ?_
            refine zm_iald (x := 19) (k := ((24 * i) + (6 * (w / 4))) + k) (N := 48) F hE hP (by decide) (fun _ => rfl) (by omega) (by decide) dd_Mo_send_146 ?_
            refine lv_iload F.1 F.2.1 dd_Mo_send_147 (lv_at hl 8 rfl) ?_
            refine lv_isub F.1 F.2.1 dd_Mo_send_149 ?_
            refine zm_iast (x := 19) (k := ((24 * i) + (6 * (w / 4))) + k) (N := 48) F hE hP hS (fun _ h => h) (by decide) (fun _ => rfl) (by omega) (by decide)  dd_Mo_send_150 (fun H locs hP hS => ?_)
            refine lv_iload F.1 F.2.1 dd_Mo_send_151 (lv_at hl 0 rfl) ?_
            refine lv_if_ne F.1 F.2.1 dd_Mo_send_153 (tgt := 178) rfl (fun h153 => ?_) (fun h153 => absurd h153 (by decide))
            refine lv_aload_n F.1 F.2.1 dd_Mo_send_178 rfl (lv_at hl 3 rfl) ?_
            refine zm_gF F hE hP rfl rfl zi_Mo 9 (by decide) rfl wf_Mo_35 rfl dd_Mo_send_179 ?_
            refine lv_iload F.1 F.2.1 dd_Mo_send_182 (lv_at hl 2 rfl) ?_
            refine lv_dup2_11 F.1 F.2.1 dd_Mo_send_184 rfl rfl ?_
            refine zm_iald (x := 9) (k := (3 * i) + c) (N := 6) F hE hP (by decide) (fun _ => rfl) (by omega) (by decide) dd_Mo_send_185 ?_
            refine zn_top (y := T 9 ((3 * i) + c)) (by rw [zs_wx (by decide)]) ?_
            refine zn_top (y := nI (zs_n (T 9 (3 * i + c)))) (hn) ?_
            refine lv_iconst (v := nI 1) F.1 F.2.1 dd_Mo_send_186 (by decide) ?_
            refine zn_iadd F dd_Mo_send_187 ?_
            refine zm_iast (x := 9) (k := (3 * i) + c) (N := 6) F hE hP hS (fun _ h => h) (by decide) (fun _ => rfl) (by omega) (by decide)  dd_Mo_send_188 (fun H locs hP hS => ?_)
            refine lv_bipush (v := nI 13) F.1 F.2.1 dd_Mo_send_189 (by decide) ?_
            refine lv_iload F.1 F.2.1 dd_Mo_send_191 (lv_at hl 2 rfl) ?_
            refine zn_imul F dd_Mo_send_193 ?_
            refine lv_aload_n F.1 F.2.1 dd_Mo_send_194 rfl (lv_at hl 3 rfl) ?_
            refine zm_gF F hE hP rfl rfl zi_Mo 9 (by decide) rfl wf_Mo_35 rfl dd_Mo_send_195 ?_
            refine lv_iload F.1 F.2.1 dd_Mo_send_198 (lv_at hl 2 rfl) ?_
            refine zm_iald (x := 9) (k := (3 * i) + c) (N := 6) F hE hP (by decide) (fun _ => rfl) (by omega) (by decide) dd_Mo_send_200 ?_
            refine zn_top (y := nI ((zs_n (T 9 (3 * i + c))) + 1)) (by rw [zs_ws]) ?_
            refine zn_iadd F dd_Mo_send_201 ?_
            refine lv_istore F.1 F.2.1 dd_Mo_send_202 hl (by decide) (lv' := [(9, .int (nI ((13 * ((3 * i) + c)) + ((zs_n (T 9 (3 * i + c))) + 1)))), (8, .int (nI 1)), (7, .int (nI (((24 * i) + (6 * (w / 4))) + k))), (6, .int (nI ((3 * i) + c))), (0, .ref (b0 + 0)), (1, .int (nI i)), (2, .int (nI c)), (3, .int (nI w)), (4, .int (nI k)), (5, .int a)]) rfl (fun ls hl => ?_)
            refine lv_aload_n F.1 F.2.1 dd_Mo_send_204 rfl (lv_at hl 4 rfl) ?_
            refine zm_gF F hE hP rfl rfl zi_Mo 12 (by decide) rfl wf_Mo_44 rfl dd_Mo_send_205 ?_
            refine lv_iload F.1 F.2.1 dd_Mo_send_208 (lv_at hl 0 rfl) ?_
            refine lv_iload F.1 F.2.1 dd_Mo_send_210 (lv_at hl 8 rfl) ?_
            refine zm_iast (x := 12) (k := (13 * ((3 * i) + c)) + ((zs_n (T 9 (3 * i + c))) + 1)) (N := 78) F hE hP hS (fun _ h => h) (by decide) (fun _ => rfl) (by omega) (by decide)  dd_Mo_send_212 (fun H locs hP hS => ?_)
            refine lv_aload_n F.1 F.2.1 dd_Mo_send_213 rfl (lv_at hl 4 rfl) ?_
            refine zm_gF F hE hP rfl rfl zi_Mo 13 (by decide) rfl wf_Mo_47 rfl dd_Mo_send_214 ?_
            refine lv_iload F.1 F.2.1 dd_Mo_send_217 (lv_at hl 0 rfl) ?_
            refine lv_iload F.1 F.2.1 dd_Mo_send_219 (lv_at hl 9 rfl) ?_
            refine zm_iast (x := 13) (k := (13 * ((3 * i) + c)) + ((zs_n (T 9 (3 * i + c))) + 1)) (N := 78) F hE hP hS (fun _ h => h) (by decide) (fun _ => rfl) (by omega) (by decide)  dd_Mo_send_221 (fun H locs hP hS => ?_)
            refine lv_aload_n F.1 F.2.1 dd_Mo_send_222 rfl (lv_at hl 4 rfl) ?_
            refine zm_gF F hE hP rfl rfl zi_Mo 14 (by decide) rfl wf_Mo_50 rfl dd_Mo_send_223 ?_
            refine lv_iload F.1 F.2.1 dd_Mo_send_226 (lv_at hl 0 rfl) ?_
            refine lv_iload_n F.1 F.2.1 dd_Mo_send_228 rfl (lv_at hl 7 rfl) ?_
            refine zm_iast (x := 14) (k := (13 * ((3 * i) + c)) + ((zs_n (T 9 (3 * i + c))) + 1)) (N := 78) F hE hP hS (fun _ h => h) (by decide) (fun _ => rfl) (by omega) (by decide)  dd_Mo_send_229 (fun H locs hP hS => ?_)
            refine lv_aload_n F.1 F.2.1 dd_Mo_send_230 rfl (lv_at hl 4 rfl) ?_
            refine zm_gF F hE hP rfl rfl zi_Mo 15 (by decide) rfl wf_Mo_53 rfl dd_Mo_send_231 ?_
            refine lv_iload F.1 F.2.1 dd_Mo_send_234 (lv_at hl 0 rfl) ?_
            refine lv_aload_n F.1 F.2.1 dd_Mo_send_236 rfl (lv_at hl 4 rfl) ?_
            refine zm_gF F hE hP rfl rfl zi_Mo 3 (by decide) rfl wf_Mo_17 rfl dd_Mo_send_237 ?_
            refine lv_iload_n F.1 F.2.1 dd_Mo_send_240 rfl (lv_at hl 5 rfl) ?_
            refine zm_iald (x := 3) (k := i) (N := 2) F hE hP (by decide) (fun _ => rfl) (by omega) (by decide) dd_Mo_send_241 ?_
            refine zn_top (y := T 3 i) (by rw [zs_wx (by decide), zs_wx (by decide), zs_wx (by decide), zs_wx (by decide), zs_wx (by decide)]) ?_
            refine lv_aload_n F.1 F.2.1 dd_Mo_send_242 rfl (lv_at hl 4 rfl) ?_
            refine zm_gF F hE hP rfl rfl zi_Mo 0 (by decide) rfl wf_Mo_86 rfl dd_Mo_send_243 ?_
            refine zn_top (y := T 0 0) (by rw [zs_wx (by decide), zs_wx (by decide), zs_wx (by decide), zs_wx (by decide), zs_wx (by decide)]) ?_
            refine lv_iadd F.1 F.2.1 dd_Mo_send_246 ?_
            refine zm_iast (x := 15) (k := (13 * ((3 * i) + c)) + ((zs_n (T 9 (3 * i + c))) + 1)) (N := 78) F hE hP hS (fun _ h => h) (by decide) (fun _ => rfl) (by omega) (by decide)  dd_Mo_send_247 (fun H locs hP hS => ?_)
            refine lv_aload_n F.1 F.2.1 dd_Mo_send_248 rfl (lv_at hl 4 rfl) ?_
            refine zm_gF F hE hP rfl rfl zi_Mo 16 (by decide) rfl wf_Mo_56 rfl dd_Mo_send_249 ?_
            refine lv_iload F.1 F.2.1 dd_Mo_send_252 (lv_at hl 0 rfl) ?_
            refine lv_iload F.1 F.2.1 dd_Mo_send_254 (lv_at hl 1 rfl) ?_
            refine lv_if_eq F.1 F.2.1 dd_Mo_send_256 (tgt := 276) rfl (fun h256 => absurd h256 (by decide)) (fun h256 => ?_)
            refine lv_iconst (v := nI 1) F.1 F.2.1 dd_Mo_send_259 (by decide) ?_
            refine lv_aload_n F.1 F.2.1 dd_Mo_send_260 rfl (lv_at hl 4 rfl) ?_
            refine zm_gF F hE hP rfl rfl zi_Mo 22 (by decide) rfl wf_Mo_74 rfl dd_Mo_send_261 ?_
            refine lv_bipush (v := nI 6) F.1 F.2.1 dd_Mo_send_264 (by decide) ?_
            refine lv_iload_n F.1 F.2.1 dd_Mo_send_266 rfl (lv_at hl 5 rfl) ?_
            refine zn_imul F dd_Mo_send_267 ?_
            refine lv_iload F.1 F.2.1 dd_Mo_send_268 (lv_at hl 8 rfl) ?_
            refine zn_iadd F dd_Mo_send_270 ?_
            refine zm_iald (x := 22) (k := (6 * i) + k) (N := 12) F hE hP (by decide) (fun _ => rfl) (by omega) (by decide) dd_Mo_send_271 ?_
            refine zn_top (y := T 22 ((6 * i) + k)) (by rw [zs_wx (by decide), zs_wx (by decide), zs_wx (by decide), zs_wx (by decide), zs_wx (by decide), zs_wx (by decide)]) ?_
            refine lv_iadd F.1 F.2.1 dd_Mo_send_272 ?_
            refine lv_goto F.1 F.2.1 dd_Mo_send_273 (tgt := 277) rfl ?_
            refine zm_iast (x := 16) (k := (13 * ((3 * i) + c)) + ((zs_n (T 9 (3 * i + c))) + 1)) (N := 78) F hE hP hS (fun _ h => h) (by decide) (fun _ => rfl) (by omega) (by decide)  dd_Mo_send_277 (fun H locs hP hS => ?_)
            refine lv_aload_n F.1 F.2.1 dd_Mo_send_278 rfl (lv_at hl 4 rfl) ?_
            refine zm_gF F hE hP rfl rfl zi_Mo 9 (by decide) rfl wf_Mo_35 rfl dd_Mo_send_279 ?_
            refine lv_iload F.1 F.2.1 dd_Mo_send_282 (lv_at hl 3 rfl) ?_
            refine zm_iald (x := 9) (k := (3 * i) + c) (N := 6) F hE hP (by decide) (fun _ => rfl) (by omega) (by decide) dd_Mo_send_284 ?_
            refine zn_top (y := nI ((zs_n (T 9 (3 * i + c))) + 1)) (by rw [zs_wx (by decide), zs_wx (by decide), zs_wx (by decide), zs_wx (by decide), zs_wx (by decide), zs_ws]) ?_
            exact zw_iret F hr hlk hP hS (congrArg (zq_p G b0) (by rw [zu_Mo_send, if_pos h62, if_neg h93, if_neg h105, if_neg h113, if_pos h129])) (by rw [zr_Mo_send, if_pos h62, if_neg h93, if_neg h105, if_neg h113, if_pos h129]) dd_Mo_send_285
      · refine lv_bipush (v := (-7)) F.1 F.2.1 dd_Mo_send_108 (by decide) ?_
        exact zw_iret F hr hlk hP hS (congrArg (zq_p G b0) (by rw [zu_Mo_send, if_pos h62, if_neg h93, if_pos h105])) (by rw [zr_Mo_send, if_pos h62, if_neg h93, if_pos h105]) dd_Mo_send_110
  · refine lv_bipush (v := (-2)) F.1 F.2.1 dd_Mo_send_65 (by decide) ?_
    exact zw_iret F hr hlk hP hS (congrArg (zq_p G b0) (by rw [zu_Mo_send, if_neg h62])) (by rw [zr_Mo_send, if_neg h62]) dd_Mo_send_67
