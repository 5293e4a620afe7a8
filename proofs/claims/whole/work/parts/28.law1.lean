/-! the law: its first cell, its start -/
def zg_0 (L : Nat) (xs : Nat → Int32) : Int32 := if 0 < L then xs 0 else 0
theorem zg_cell (l : Launch) {b L : Nat} {xs : Nat → Int32} (sz : Nat) (hL : L < 2 ^ 31) : Met l ym_Law_cell (Cond.code ym_Law_cell bm_Law_cell 2 (some .int) :: zw_WS) { frames := 0, cells := 0, slots := 0, locals := 0 } (va_Pc [.ref b, .int (nI 0)] (fun U => va_X b L xs U U.heap ∧ b < U.heap.size ∧ U.heap.size = sz)) (va_Qi (fun (x : Int32) (_ : Unit) => x = zg_0 L xs) (fun _ t => t.heap.size = sz) (fun _ => False)) 0 0 (fun _ => False) := by
  refine Met.ofW (cc := bm_Law_cell) (maxL := 2) (ret := some .int) (by decide) rfl ?_
  intro p e s m args below meth cx s₁ Bd hml hv
  obtain ⟨rfl, hX, hbl, hz⟩ := hv
  have hx := Bd.exec
  have hb := Bd.bytes
  have hr := Bd.returns
  have hlk := Bd.notSynchronized
  rw [lg_entry_eq]
  have hl := lv_entry ([.ref b, .int (nI 0)] : List Value) (n := 2) (Nat.le_of_ble_eq_true rfl)
  generalize (lg_sl ([.ref b, .int (nI 0)] : List Value) ++ List.replicate (2 - (lg_sl ([.ref b, .int (nI 0)] : List Value)).length) Slot.unset).toArray = ls at hl ⊢
  have hl : lv_has ls 2 [(0, .ref b), (1, .int (nI 0))] := hl
  have hS : va_S (fun _ => False) s.heap s.heap [] := va_S.rf
  refine lv_iload_n hx hb dd_Law_cell_0 rfl (lv_at hl 1 rfl) ?_
  refine lv_aload_n hx hb dd_Law_cell_1 rfl (lv_at hl 0 rfl) ?_
  refine va_slen hx hb hX hbl (fun h => h) hS dd_Law_cell_2 ?_
  have hlt : Int32.ofNat L ≤ nI 0 ↔ L ≤ 0 := nI_leI hL (by decide)
  refine lv_icmp_ge hx hb dd_Law_cell_3 (tgt := 12) rfl (fun h => ?_) (fun h => ?_)
  · refine lv_iconst (v := nI 0) hx hb dd_Law_cell_12 (by decide) ?_
    have h0 := hlt.mp h
    exact W.iret hx hb hr (fun t ht _ => ⟨⟨nI 0, (), rfl, (by show nI 0 = zg_0 L xs; unfold zg_0; rw [if_neg (by omega)]; rfl), by show t.heap.size = sz; rw [ht]; exact hz⟩, hS.F ht⟩) hS.2.2 dd_Law_cell_13 hlk
  · have h0 : 0 < L := by
      apply Nat.lt_of_not_le
      exact fun q => h (hlt.mpr q)
    refine lv_aload_n hx hb dd_Law_cell_6 rfl (lv_at hl 0 rfl) ?_
    refine lv_iload_n hx hb dd_Law_cell_7 rfl (lv_at hl 1 rfl) ?_
    refine va_sld hx hb hX hbl (fun h => h) hS (vp_in_nI h0 hL) dd_Law_cell_8 ?_
    refine lv_goto hx hb dd_Law_cell_9 (tgt := 13) rfl ?_
    exact W.iret hx hb hr (fun t ht _ => ⟨⟨_, (), rfl, (by show xs (nI 0).toNatClampNeg = zg_0 L xs; unfold zg_0; rw [if_pos h0]; rfl), by show t.heap.size = sz; rw [ht]; exact hz⟩, hS.F ht⟩) hS.2.2 dd_Law_cell_13 hlk
/-- what the tables say of the start -/
theorem zg_arr {s : State} {args : Array Value} {ty : FieldType} (h : (Cond.arrayClass ty).before args s = true) : ∃ c, ArrOfT s c ty ∧ s.vm.findClass ("[" ++ ty.toString) = some c := by
  obtain ⟨c, k, comp, h1, h2, h3⟩ := Cond.arrayClass_spec h
  exact ⟨c, fun N z => ⟨(fun k h => by cases h), k, h2, comp, h3⟩, h1⟩
theorem zg_arq {s : State} {args : Array Value} {C : String} (h : (Cond.arrayOver (.object C)).before args s = true) : ∃ c, ArrOfT s c (.object C) ∧ va_RA s c (.object C) := by
  obtain ⟨comp, c, k, h1, h2, h3, h4, h5⟩ := Cond.arrayOver_spec h
  exact ⟨c, fun N z => ⟨(fun k h => by cases h), k, h3, comp, h4⟩, k, comp, h3, h4, h1, h5⟩
theorem zg_ara {s : State} {args : Array Value} (h : (Cond.arrayOver (.array .int)).before args s = true) : ∃ c, ArrOfT s c (.array .int) ∧ va_RA s c (.array .int) := by
  obtain ⟨comp, c, k, h1, h2, h3, h4⟩ := Cond.arrayOver_specA h
  exact ⟨c, fun N z => ⟨(fun k h => by cases h), k, h2, comp, h3⟩, h4⟩
theorem zg_E {s : State} {args : Array Value} (hts : ∀ w ∈ lw_tbl, w.before args s = true) : (∃ G : zw_G, zw_E G s) ∧ zx_O s := by
  have hw : ∀ w ∈ zw_WS, w.before args s = true := fun w h => hts w (List.mem_filter.mp h).1
  have hO : zx_O s := ⟨va_AO.of (hts _ wo_Ledger), va_AO.of (hts _ wo_Store), va_AO.of (hts _ wo_End), va_AO.of (hts _ wo_Packet), hts _ wo_A⟩
  refine ⟨?_, hO⟩
  obtain ⟨c0, i0, k0⟩ := u_known (T := zf_TL) (N := 2) hw zi_TL (hw _ wi_TL)
  obtain ⟨c1, i1, k1⟩ := u_known (T := zf_Ledger) (N := 7) hw zi_Ledger (hw _ wi_Ledger)
  obtain ⟨c2, i2, k2⟩ := u_known (T := zf_Store) (N := 2) hw zi_Store (hw _ wi_Store)
  obtain ⟨c3, i3, k3⟩ := u_known (T := zf_Client) (N := 2) hw zi_Client (hw _ wi_Client)
  obtain ⟨c4, i4, k4⟩ := u_known (T := zf_Bank) (N := 5) hw zi_Bank (hw _ wi_Bank)
  obtain ⟨c5, i5, k5⟩ := u_known (T := zf_End) (N := 3) hw zi_End (hw _ wi_End)
  obtain ⟨c6, i6, k6⟩ := u_known (T := zf_Packet) (N := 7) hw zi_Packet (hw _ wi_Packet)
  obtain ⟨c7, i7, k7⟩ := u_known (T := zf_Mo) (N := 26) hw zi_Mo (hw _ wi_Mo)
  obtain ⟨a0, x0, y0⟩ := zg_arr (ty := .int) (hw _ wx_arrI)
  obtain ⟨a1, x1, y1⟩ := zg_arr (ty := .boolean) (hw _ wx_arrZ)
  obtain ⟨a2, x2, y2⟩ := zg_arq (hts _ wo_Ledger)
  obtain ⟨a3, x3, y3⟩ := zg_arq (hts _ wo_Store)
  obtain ⟨a4, x4, y4⟩ := zg_arq (hts _ wo_End)
  obtain ⟨a5, x5, y5⟩ := zg_arq (hts _ wo_Packet)
  obtain ⟨a6, x6, y6⟩ := zg_ara (hts _ wo_A)
  refine ⟨((fun k => match k with | 0 => c0 | 1 => c1 | 2 => c2 | 3 => c3 | 4 => c4 | 5 => c5 | 6 => c6 | _ => c7, fun k => match k with | 0 => i0 | 1 => i1 | 2 => i2 | 3 => i3 | 4 => i4 | 5 => i5 | 6 => i6 | _ => i7), fun k => match k with | 0 => a0 | 1 => a1 | 2 => a2 | 3 => a3 | 4 => a4 | 5 => a5 | _ => a6), ⟨fun c q hq => ?_, fun k q hq => ?_⟩, fun w h => ?_⟩
  · match c, hq with
    | 0, hq => obtain rfl := Option.some.inj hq; exact k0
    | 1, hq => obtain rfl := Option.some.inj hq; exact k1
    | 2, hq => obtain rfl := Option.some.inj hq; exact k2
    | 3, hq => obtain rfl := Option.some.inj hq; exact k3
    | 4, hq => obtain rfl := Option.some.inj hq; exact k4
    | 5, hq => obtain rfl := Option.some.inj hq; exact k5
    | 6, hq => obtain rfl := Option.some.inj hq; exact k6
    | 7, hq => obtain rfl := Option.some.inj hq; exact k7
    | c + 8, hq => cases hq
  · match k, hq with
    | 0, hq => obtain rfl := Option.some.inj hq; exact ⟨x0, y0⟩
    | 1, hq => obtain rfl := Option.some.inj hq; exact ⟨x1, y1⟩
    | 2, hq => obtain rfl := Option.some.inj hq; exact ⟨x2, y2⟩
    | 3, hq => obtain rfl := Option.some.inj hq; exact ⟨x3, y3⟩
    | 4, hq => obtain rfl := Option.some.inj hq; exact ⟨x4, y4⟩
    | 5, hq => obtain rfl := Option.some.inj hq; exact ⟨x5, y5⟩
    | 6, hq => obtain rfl := Option.some.inj hq; exact ⟨x6, y6⟩
    | k + 7, hq => cases hq
  · exact va_Nw.of (zw_nt w (zw_NSok w h)) (hts w (zg_NS w h))
section ZGN
variable {p : Program} {l : Launch} {e : Env} {R : Room} {s : State} {m : MethodId} {args : Array Value} {below : List Frame} {meth : Method} {c : Code} {H : Heap} {locs : List Loc} {cells slots : Nat} {Q : State → Prop}
variable {cc : ByteArray} {pc nL : Nat} {ls : Array Slot} {rest : List Value} {A : Nat → Prop} {H0 : Heap} {G : zw_G} {B k : Nat} {f : Nat → va_E} {own : String} {index : Nat}
/-- a new object beside another world -/
theorem zg_new {cells' slots' : Nat} {C : String} {Tb : u_T} {N ci : Nat} {fs : List Value} (ty : Nat → FieldType) (F : CallFix p m c cc nL s args zw_WS own) (hE : zw_E G s) (hP : va_P G.1 zw_cl (zw_l B k f) H) (hz : H.size = B + k) (hS : va_S A H0 H locs) (hc : zw_cl[ci]? = some (C, Tb, N)) (hin : ∀ w ∈ u_ws C Tb N, w ∈ zw_WS) (hty : ∀ k, k < N → parseFieldDescriptor (Tb k).2.2.1 = some (ty k)) (hcl : Cond.classLink own index C ∈ zw_WS) (hinst : Cond.instantiable C N ∈ zw_WS) (hini : Cond.initialized C ∈ zw_WS) (hfs : ∀ j, j < N → defaultValue (ty j) = vp_V fs j) (hcells : cells + 1 ≤ R.cells) (hslots : slots + N ≤ R.slots) (hdg : decode cc pc = .ok (.new index, 3)) (hcx : cells + 1 = cells') (hsx : slots + N = slots')
    (kk : ∀ (H1 : Heap), va_P G.1 zw_cl (zw_l B (k + 1) (va_up f k (.inr (ci, fs)))) H1 → H1.size = B + (k + 1) → va_S A H0 H1 locs → (∀ q : Nat, q < B + k → H1[q]? = H[q]?) → W p l e R s m args below meth c H1 locs cells' slots' Q (F0 m (pc + 3) ls (.ref (B + k) :: rest))) : W p l e R s m args below meth c H locs cells slots Q (F0 m pc ls rest) := by
  subst hcx
  subst hsx
  obtain ⟨hx, hb, hml, hown, hts⟩ := F
  have hKn := hE.1.1 ci _ hc
  refine W.newcK hx hb hown (hts _ hcl) (hts _ hinst) (hts _ hini) rfl hdg hcells hslots hKn.2.1 hz fun H1 kC hkC e1 z1 o1 => ?_
  exact kk H1 (zx_push hP o1 ⟨_, hc, (u_born ty hts hin hKn hkC e1 hty).to hfs⟩) (by omega) (zx_S hS hz (by omega) o1) o1
end ZGN
section ZGC
variable {p : Program} {l : Launch} {e : Env} {R : Room} {s : State} {m : MethodId} {args : Array Value} {below : List Frame} {meth : Method} {c : Code} {H : Heap} {locs : List Loc} {cells slots : Nat} {Q : State → Prop}
variable {cc : ByteArray} {pc : Nat} {ls : Array Slot} {rest : List Value} {A : Nat → Prop} {b L : Nat} {xs : Nat → Int32}
/-- the law reads its first cell -/
theorem zg_callcell (F : CallFix p m c cc 4 s args zw_WS "TwinLedgersLaw") (hX : va_X b L xs s s.heap) (hbl : b < s.heap.size) (hbA : ¬ A b) (hL : L < 2 ^ 31) (hS : va_S A s.heap H locs) (hsz : ls.size = 4) (hR : 8 ≤ R.frames ∧ 207 ≤ R.locals) (hcs : cells ≤ R.cells ∧ slots ≤ R.slots) (hrest : (rest.map fun v => v.category).sum ≤ 8) {index : Nat} (hlk : Cond.methodLink "TwinLedgersLaw" index ym_Law_cell ∈ zw_WS) (hdg : decode cc pc = .ok (.invokestatic index, 3))
    (kk : ∀ (H1 : Heap) (locs1 : List Loc), H1.size = H.size → (∀ q : Nat, q < H.size → H1[q]? = H[q]?) → va_S A s.heap H1 locs1 → W p l e R s m args below meth c H1 locs1 cells slots Q (F0 m (pc + 3) ls (.int (zg_0 L xs) :: rest))) : W p l e R s m args below meth c H locs cells slots Q (F0 m pc ls (.int (nI 0) :: .ref b :: rest)) := by
  have hXH : va_X b L xs s H := hX.kept (hS.2.1 b hbl hbA)
  have hblH : b < H.size := Nat.lt_of_lt_of_le hbl hS.1
  obtain ⟨hx, hb, hml, hown, hts⟩ := F
  have hr : va_Run p l e R s m args below meth c H locs cells slots 0 0 (F0 m pc ls (.int (nI 0) :: .ref b :: rest)) rest (va_Qi (fun (x : Int32) (_ : Unit) => x = zg_0 L xs) (fun _ t => t.heap.size = H.size) (fun _ => False) ([.ref b, .int (nI 0)] : List Value).toArray) (fun _ => False) :=
    va_runS ⟨hx, hb, hml, hown, hts⟩ (zg_cell l H.size hL) ⟨callB_of 2 hts (zw_gi zk_Law_cell.1) rfl rfl rfl (hts _ zk_Law_cell.2.1) (hts _ hlk) zk_Law_cell.2.2 ⟨by show 0 + 1 ≤ R.frames; omega, by show 8 + (2 + 11) + 0 ≤ R.locals; omega⟩, hts _ za_Law_cell⟩ ⟨fun _ _ _ _ q => ⟨q.1, va_X.moved (Vm.Alike.refl _) q.2.1, q.2.2⟩, fun U hU hW => ⟨rfl, by rw [hU]; exact va_X.moved hW.alike hXH, by rw [hU]; exact hblH, by rw [hU]⟩⟩ rfl rfl hsz rfl (lv_room hrest) hdg hcs
  refine va_calli hr hS (fun q _ h => h.elim) (fun q h => h.elim) (fun r u t H1 locs1 ht hvm hp hB hz hk1 hS1 => ?_)
  have hp' : r = zg_0 L xs := hp
  subst hp'
  have hB' : t.heap.size = H.size := hB
  rw [ht] at hB'
  exact kk H1 locs1 hB' (fun q h => hk1 q h (fun z => z)) hS1
end ZGC
