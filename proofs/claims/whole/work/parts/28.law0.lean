/-! the law: its rows -/
abbrev zg_lv (i b1 b0 b : Nat) : List (Nat × Value) := [(3, .int (nI i)), (2, .ref (b1 + 0)), (1, .ref (b0 + zp_o 0 0 0)), (0, .ref b)]
section ZG
variable {p : Program} {l : Launch} {e : Env} {R : Room} {s : State} {m : MethodId} {args : Array Value} {below : List Frame} {meth : Method} {c : Code} {H H1 : Heap} {locs : List Loc} {cells slots : Nat} {Q : State → Prop}
variable {cc : ByteArray} {pc : Nat} {ls : Array Slot} {rest : List Value} {A : Nat → Prop} {G : zw_G} {b b0 b1 L i : Nat} {xs : Nat → Int32} {own : String}
theorem zg_keep {B n B' n' : Nat} {f' : Nat → va_E} (hP : va_P G.1 zw_cl (zw_l B' n' f') H) (hd : ∀ q, zw_A B' n' q → ¬ zw_A B n q) (hq : ∀ q : Nat, q < H.size → ¬ zw_A B n q → H1[q]? = H[q]?) : va_P G.1 zw_cl (zw_l B' n' f') H1 := by
  refine hP.kept (fun k q hk => ?_)
  have hlt := (hP k q hk).lt
  obtain ⟨h, rfl⟩ := zw_some hk
  exact hq _ hlt (hd _ ⟨Nat.le_add_right _ _, by show B' + k < B' + n'; omega⟩)
theorem zg_arg {n : Nat} {k : Int} (F : CallFix p m c cc 4 s args zw_WS own) (hX : va_X b L xs s s.heap) (hbl : b < s.heap.size) (hbA : ¬ A b) (hS : va_S A s.heap H locs) (hl : lv_has ls 4 (zg_lv i b1 b0 b)) (hL : L < 2 ^ 31) (h0 : decode cc pc = .ok (.aload_n 0, 1)) (h1 : decode cc (pc + 1) = .ok (.iload_n 3, 1)) (h2 : decode cc (pc + 2) = .ok (.iconst k, 1)) (hk : Int32.ofInt k = nI n) (h3 : decode cc (pc + 3) = .ok (.iadd, 1)) (h4 : decode cc (pc + 4) = .ok (.iaload, 1)) (hi : i + n < L)
    (kk : W p l e R s m args below meth c H locs cells slots Q (F0 m (pc + 5) ls (.int (xs (i + n)) :: rest))) : W p l e R s m args below meth c H locs cells slots Q (F0 m pc ls rest) := by
  refine lv_aload_n F.1 F.2.1 h0 rfl (lv_at hl 3 rfl) ?_
  refine lv_iload_n F.1 F.2.1 h1 rfl (lv_at hl 0 rfl) ?_
  refine lv_iconst (v := nI n) F.1 F.2.1 h2 hk ?_
  refine zn_iadd F h3 ?_
  refine va_sld F.1 F.2.1 hX hbl hbA hS (vp_in_nI hi hL) h4 ?_
  rw [nI_clamp (Nat.lt_trans hi hL)]
  exact kk
/-- a flag out of the script -/
theorem zg_flag {n : Nat} {k : Int} (F : CallFix p m c cc 4 s args zw_WS own) (hX : va_X b L xs s s.heap) (hbl : b < s.heap.size) (hbA : ¬ A b) (hS : va_S A s.heap H locs) (hl : lv_has ls 4 (zg_lv i b1 b0 b)) (hL : L < 2 ^ 31) (h0 : decode cc pc = .ok (.aload_n 0, 1)) (h1 : decode cc (pc + 1) = .ok (.iload_n 3, 1)) (h2 : decode cc (pc + 2) = .ok (.iconst k, 1)) (hk : Int32.ofInt k = nI n) (h3 : decode cc (pc + 3) = .ok (.iadd, 1)) (h4 : decode cc (pc + 4) = .ok (.iaload, 1)) (h5 : decode cc (pc + 5) = .ok (.ifCond .eq 7, 3)) (h8 : decode cc (pc + 8) = .ok (.iconst 1, 1)) (h9 : decode cc (pc + 9) = .ok (.goto 4, 3)) (h12 : decode cc (pc + 12) = .ok (.iconst 0, 1)) (hi : i + n < L)
    (kk : W p l e R s m args below meth c H locs cells slots Q (F0 m (pc + 13) ls (.int (zs_fl (xs (i + n))) :: rest))) : W p l e R s m args below meth c H locs cells slots Q (F0 m pc ls rest) := by
  refine zg_arg F hX hbl hbA hS hl hL h0 h1 h2 hk h3 h4 hi ?_
  refine lv_if_eq F.1 F.2.1 h5 (tgt := pc + 12) (by omega) (fun q => ?_) (fun q => ?_)
  · refine lv_iconst (v := nI 0) F.1 F.2.1 h12 (by decide) ?_
    rw [show zs_fl (xs (i + n)) = nI 0 from if_pos q] at kk
    exact kk
  · refine lv_iconst (v := nI 1) F.1 F.2.1 h8 (by decide) ?_
    refine lv_goto F.1 F.2.1 h9 (tgt := pc + 13) (by omega) ?_
    rw [show zs_fl (xs (i + n)) = nI 1 from if_neg q] at kk
    exact kk
/-- a call of the class; the reference stays -/
theorem zg_C {y : MethodName} {cd : ByteArray} {ml index : Nat} {rt : Option FieldType} {As st0 : List Value} {r : Int32} {S S' : zs_S} {T : zs_T} (F : CallFix p m c cc 4 s args zw_WS own) (hE : zw_E G s) (hP : va_P G.1 zw_cl (zw_l b0 176 (zp_p G b0 S)) H) (hP2 : va_P G.1 zw_cl (zw_l b1 26 (zq_p G b1 T)) H) (hM : zf_M l y cd ml rt G b0 176 (zp_p G b0 S) (.ref (b0 + zp_o 0 0 0) :: As) (zp_p G b0 S') r) (hk : zw_ok y cd ml rt As.length) (hi : Cond.instanceMethod y ∈ zw_WS) (hs : Cond.selects y.cls y y ∈ zw_WS) (hlk : Cond.methodLink own index y ∈ zw_WS) (hyc : y.cls = "TwinLedgers") (hml : ml ≤ 10) (hR : 8 ≤ R.frames ∧ 207 ≤ R.locals) (hcs : cells ≤ R.cells ∧ slots ≤ R.slots) (hb : b1 = b0 + 176) (hA : ∀ q, zw_A b0 176 q → A q) (hS : va_S A s.heap H locs) (hsz : ls.size = 4) (hst : st0 = As.reverse ++ [.ref (b0 + zp_o 0 0 0)]) (hdg : decode cc pc = .ok (.invokevirtual index, 3))
    (kk : ∀ (H1 : Heap) (locs1 : List Loc), va_P G.1 zw_cl (zw_l b0 176 (zp_p G b0 S')) H1 → va_P G.1 zw_cl (zw_l b1 26 (zq_p G b1 T)) H1 → va_S A s.heap H1 locs1 → W p l e R s m args below meth c H1 locs1 cells slots Q (F0 m (pc + 3) ls [.int r])) : W p l e R s m args below meth c H locs cells slots Q (F0 m pc ls st0) := by
  obtain ⟨rm, ⟨rc, rs, rf, rl⟩, hM⟩ := hM
  refine zw_goi (zw_rV F hE hP hM hk hi hs hlk ⟨rc, rs, by omega, by omega⟩ (by rw [hyc]; exact zc_recv (t := 0) (i := 0) (j := 0) hE hP ⟨by decide, by decide, by decide⟩ rfl rfl) hsz hst (Nat.zero_le _) hcs hdg) hS hA (fun H1 locs1 hP1 _ hq hS1 => ?_)
  exact kk H1 locs1 hP1 (zg_keep hP2 (fun q z z2 => by unfold zw_A at z z2; omega) hq) hS1
/-- a call of the reference; the class stays -/
theorem zg_T {y : MethodName} {cd : ByteArray} {ml index : Nat} {rt : Option FieldType} {As st0 : List Value} {r r0 : Int32} {S : zs_S} {T T' : zs_T} (F : CallFix p m c cc 4 s args zw_WS own) (hE : zw_E G s) (hP : va_P G.1 zw_cl (zw_l b0 176 (zp_p G b0 S)) H) (hP2 : va_P G.1 zw_cl (zw_l b1 26 (zq_p G b1 T)) H) (hM : zf_M l y cd ml rt G b1 26 (zq_p G b1 T) (.ref (b1 + 0) :: As) (zq_p G b1 T') r) (hk : zw_ok y cd ml rt As.length) (hi : Cond.instanceMethod y ∈ zw_WS) (hs : Cond.selects y.cls y y ∈ zw_WS) (hlk : Cond.methodLink own index y ∈ zw_WS) (hyc : y.cls = "TwinLedgersModel") (hml : ml ≤ 10) (hR : 8 ≤ R.frames ∧ 207 ≤ R.locals) (hcs : cells ≤ R.cells ∧ slots ≤ R.slots) (hb : b1 = b0 + 176) (hA : ∀ q, zw_A b1 26 q → A q) (hS : va_S A s.heap H locs) (hsz : ls.size = 4) (hst : st0 = As.reverse ++ .ref (b1 + 0) :: [.int r0]) (hdg : decode cc pc = .ok (.invokevirtual index, 3))
    (kk : ∀ (H1 : Heap) (locs1 : List Loc), va_P G.1 zw_cl (zw_l b0 176 (zp_p G b0 S)) H1 → va_P G.1 zw_cl (zw_l b1 26 (zq_p G b1 T')) H1 → va_S A s.heap H1 locs1 → W p l e R s m args below meth c H1 locs1 cells slots Q (F0 m (pc + 3) ls [.int r, .int r0])) : W p l e R s m args below meth c H locs cells slots Q (F0 m pc ls st0) := by
  obtain ⟨rm, ⟨rc, rs, rf, rl⟩, hM⟩ := hM
  refine zw_goi (zw_rV F hE hP2 hM hk hi hs hlk ⟨rc, rs, by omega, by omega⟩ (by rw [hyc]; exact zm_recv hE hP2 rfl rfl) hsz hst (Nat.le_of_ble_eq_true rfl) hcs hdg) hS hA (fun H1 locs1 hP1 _ hq hS1 => ?_)
  exact kk H1 locs1 (zg_keep hP (fun q z z2 => by unfold zw_A at z z2; omega) hq) hP1 hS1
end ZG
