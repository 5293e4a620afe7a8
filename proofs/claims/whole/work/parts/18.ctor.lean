/-! rows of constructors: a world that grows at its end -/
def zx_A5 (U : State) : Prop := (Cond.arrayOver (.array .int)).before #[] U = true
theorem zx_A5.moved {u U : State} (hvm : u.vm.Alike U.vm) (h : zx_A5 u) : zx_A5 U := by
  have h' : (Cond.arrayOver (.array .int)).holds #[] u none u [] = true := h
  simp only [Cond.holds, Cond.value, beq_iff_eq] at h'
  show (Cond.arrayOver (.array .int)).holds #[] U none U [] = true
  simp only [Cond.holds, Cond.value, beq_iff_eq]
  rw [hvm.findClass]
  cases hc : u.vm.findClass (FieldType.array .int).toString with
  | none => simp [hc] at h'
  | some comp =>
    simp only [hc, Option.bind_some, Option.bind_eq_some_iff, Option.map_eq_some_iff] at h' ⊢
    obtain ⟨c, hi, k, hk, hb⟩ := h'
    obtain ⟨k', hk', he⟩ := hvm.2.2 _ _ hk
    have hi2 : (U.vm.classes.findIdx? fun (x : Class) => match x.kind with | .array component _ => component == comp | _ => false) = some c := by
      refine (va_idx_bare U.vm comp).symm.trans ?_
      refine Eq.trans ?_ ((va_idx_bare u.vm comp).trans hi)
      first | rw [hvm.bare_eq] | rw [← hvm.bare_eq]
    refine ⟨c, hi2, k', hk', ?_⟩
    rw [he, hvm.findClass]
    exact hb
def zx_O (U : State) : Prop := va_AO "TwinLedgers$Ledger" U ∧ va_AO "TwinLedgers$Store" U ∧ va_AO "TwinLedgers$End" U ∧ va_AO "TwinLedgers$Packet" U ∧ zx_A5 U
theorem zx_O.moved {u U : State} (hvm : u.vm.Alike U.vm) (h : zx_O u) : zx_O U := ⟨h.1.moved hvm, h.2.1.moved hvm, h.2.2.1.moved hvm, h.2.2.2.1.moved hvm, h.2.2.2.2.moved hvm⟩
theorem zx_push {D : va_G} {cl : List vw_C} {B k : Nat} {f : Nat → va_E} {e : va_E} {H H1 : Heap} (hP : va_P D cl (zw_l B k f) H) (o1 : ∀ q : Nat, q < B + k → H1[q]? = H[q]?) (hnew : va_at D cl (B + k, e) H1) : va_P D cl (zw_l B (k + 1) (va_up f k e)) H1 := by
  intro n q hq
  obtain ⟨hn, rfl⟩ := zw_some hq
  by_cases h : n = k
  · subst h
    rw [va_up_self]
    exact hnew
  · rw [va_up_ne _ _ h]
    exact (hP n _ (zw_get (by omega))).kept (o1 (B + n) (by omega))
/-- what a constructor's contract says: the object at B + k stands blank, c0; behind it the block of n cells stands as f says -/
abbrev zx_M (l : Launch) (y : MethodName) (cd : ByteArray) (ml : Nat) (rm : Room) (G : zw_G) (B k n : Nat) (c0 : va_E) (f : Nat → va_E) (av : List Value) (mc ms : Nat) : Prop :=
  Met l y (Cond.code y cd ml none :: zw_WS) rm (va_Pc av (fun U => zw_E G U ∧ zx_O U ∧ va_P G.1 zw_cl (zw_l B (k + 1) (va_up f k c0)) U.heap ∧ U.heap.size = B + (k + 1)))
    (va_Qv (fun (_ : Unit) => True) (fun _ t => va_P G.1 zw_cl (zw_l B (k + n) f) t.heap ∧ t.heap.size = B + (k + n)) (fun q => B + k ≤ q)) mc ms (fun q => B + k ≤ q)
theorem zx_of {l : Launch} {y : MethodName} {cd : ByteArray} {ml : Nat} {rm : Room} {G : zw_G} {B k n : Nat} {c0 : va_E} {f : Nat → va_E} {av : List Value} {mc ms : Nat} (hy : plainName y.cls = true) (hlen : (lg_sl av).length ≤ ml) (hyn : y.name = "<init>")
    (body : ∀ (p : Program) (e : Env) (s : State) (m : MethodId) (below : List Frame) (meth : Method) (cx : Code) (ls : Array Slot), CallFix p m cx cd ml s av.toArray zw_WS y.cls → meth.sig.returnType = none → meth.locks = false → meth.name = "<init>" → zw_E G s → zx_O s → va_P G.1 zw_cl (zw_l B (k + 1) (va_up f k c0)) s.heap → s.heap.size = B + (k + 1) → va_S (fun q => B + k ≤ q) s.heap s.heap [] → lv_has ls ml (lv_args 0 av) →
      W p l e rm s m av.toArray below meth cx s.heap [] 0 0 (MQ below (va_Qv (fun (_ : Unit) => True) (fun _ t => va_P G.1 zw_cl (zw_l B (k + n) f) t.heap ∧ t.heap.size = B + (k + n)) (fun q => B + k ≤ q)) av.toArray s mc ms (fun q => B + k ≤ q)) (F0 m 0 ls [])) : zx_M l y cd ml rm G B k n c0 f av mc ms := by
  refine Met.ofW (cc := cd) (maxL := ml) (ret := none) hy rfl ?_
  intro p e s m args below meth cx s₁ Bd hml hv
  obtain ⟨rfl, hE, hO, hP, hz⟩ := hv
  have hts := atoms_spec (ws := Cond.code y cd ml none :: zw_WS) Bd.pre
  rw [lg_entry_eq]
  exact body p e s m below meth cx _ ⟨Bd.exec, Bd.bytes, hml, findClass_of_methodNamed Bd.named, fun w hw => hts w (List.mem_cons_of_mem _ hw)⟩ Bd.returns Bd.notSynchronized ((name_of_methodNamed Bd.named Bd.method).1.trans hyn) hE hO hP hz va_S.rf (lv_entry av hlen)
section ZXR
variable {p : Program} {l : Launch} {e : Env} {R : Room} {s : State} {m : MethodId} {args : Array Value} {below : List Frame} {meth : Method} {c : Code} {H : Heap} {locs : List Loc} {cells slots : Nat} {Q : State → Prop}
variable {cc : ByteArray} {pc nL : Nat} {ls : Array Slot} {rest st0 : List Value} {A : Nat → Prop} {H0 : Heap} {G : zw_G} {B k : Nat} {f : Nat → va_E} {own : String} {index : Nat}
theorem zx_S {h : Nat} {H1 : Heap} (hS : va_S A H0 H locs) (hz : H.size = h) (z1 : H.size ≤ H1.size) (o1 : ∀ q : Nat, q < h → H1[q]? = H[q]?) : va_S A H0 H1 locs := ⟨Nat.le_trans hS.1 z1, fun q h1 h2 => (o1 q (by have := hS.1; omega)).trans (hS.2.1 q h1 h2), hS.2.2⟩
/-- a new object -/
theorem zx_new {cells' slots' : Nat} {C : String} {Tb : u_T} {N ci : Nat} {fs : List Value} (ty : Nat → FieldType) (F : CallFix p m c cc nL s args zw_WS own) (hE : zw_E G s) (hP : va_P G.1 zw_cl (zw_l B k f) H) (hz : H.size = B + k) (hS : va_S A H0 H locs) (hc : zw_cl[ci]? = some (C, Tb, N)) (hin : ∀ w ∈ u_ws C Tb N, w ∈ zw_WS) (hty : ∀ k, k < N → parseFieldDescriptor (Tb k).2.2.1 = some (ty k)) (hcl : Cond.classLink own index C ∈ zw_WS) (hinst : Cond.instantiable C N ∈ zw_WS) (hini : Cond.initialized C ∈ zw_WS) (hfs : ∀ j, j < N → defaultValue (ty j) = vp_V fs j) (hcells : cells + 1 ≤ R.cells) (hslots : slots + N ≤ R.slots) (hdg : decode cc pc = .ok (.new index, 3)) (hcx : cells + 1 = cells') (hsx : slots + N = slots')
    (kk : ∀ (H1 : Heap), va_P G.1 zw_cl (zw_l B (k + 1) (va_up f k (.inr (ci, fs)))) H1 → H1.size = B + (k + 1) → va_S A H0 H1 locs → W p l e R s m args below meth c H1 locs cells' slots' Q (F0 m (pc + 3) ls (.ref (B + k) :: rest))) : W p l e R s m args below meth c H locs cells slots Q (F0 m pc ls rest) := by
  subst hcx
  subst hsx
  obtain ⟨hx, hb, hml, hown, hts⟩ := F
  have hKn := hE.1.1 ci _ hc
  refine W.newcK hx hb hown (hts _ hcl) (hts _ hinst) (hts _ hini) rfl hdg hcells hslots hKn.2.1 hz fun H1 kC hkC e1 z1 o1 => ?_
  exact kk H1 (zx_push hP o1 ⟨_, hc, (u_born ty hts hin hKn hkC e1 hty).to hfs⟩) (by omega) (zx_S hS hz (by omega) o1)
theorem zx_newi {cells' slots' : Nat} {n : Int32} {N : Nat} (F : CallFix p m c cc nL s args zw_WS own) (hE : zw_E G s) (hP : va_P G.1 zw_cl (zw_l B k f) H) (hz : H.size = B + k) (hS : va_S A H0 H locs) (harr : Cond.arrayClass .int ∈ zw_WS) (hn : ¬ n < 0) (hN : n.toNatClampNeg = N) (hbytes : N * 4 ≤ 536870912) (hcells : cells + 1 ≤ R.cells) (hslots : slots + N ≤ R.slots) (hdg : decode cc pc = .ok (.newarray .int, 2)) (hcx : cells + 1 = cells') (hsx : slots + N = slots')
    (kk : ∀ (H1 : Heap), va_P G.1 zw_cl (zw_l B (k + 1) (va_up f k (.inl (G.2 0, N, .inl (fun _ => 0))))) H1 → H1.size = B + (k + 1) → va_S A H0 H1 locs → W p l e R s m args below meth c H1 locs cells' slots' Q (F0 m (pc + 2) ls (.ref (B + k) :: rest))) : W p l e R s m args below meth c H locs cells slots Q (F0 m pc ls (.int n :: rest)) := by
  subst hcx
  subst hsx
  obtain ⟨hx, hb, hml, hown, hts⟩ := F
  refine va_newaK hx hb (atype := .int) (hts _ harr) rfl hdg rfl hn hN hbytes hcells hslots hz fun H1 cA e1 z1 o1 hAr hNm => ?_
  have hcA : cA = G.2 0 := Option.some.inj (hNm.symm.trans (hE.1.2 0 _ rfl).2)
  subst hcA
  exact kk H1 (zx_push hP o1 e1) (by omega) (zx_S hS hz (by omega) o1)
theorem zx_newz {cells' slots' : Nat} {n : Int32} {N : Nat} (F : CallFix p m c cc nL s args zw_WS own) (hE : zw_E G s) (hP : va_P G.1 zw_cl (zw_l B k f) H) (hz : H.size = B + k) (hS : va_S A H0 H locs) (harr : Cond.arrayClass .boolean ∈ zw_WS) (hn : ¬ n < 0) (hN : n.toNatClampNeg = N) (hbytes : N * 1 ≤ 536870912) (hcells : cells + 1 ≤ R.cells) (hslots : slots + N ≤ R.slots) (hdg : decode cc pc = .ok (.newarray .boolean, 2)) (hcx : cells + 1 = cells') (hsx : slots + N = slots')
    (kk : ∀ (H1 : Heap), va_P G.1 zw_cl (zw_l B (k + 1) (va_up f k (.inl (G.2 1, N, .inl (fun _ => 0))))) H1 → H1.size = B + (k + 1) → va_S A H0 H1 locs → W p l e R s m args below meth c H1 locs cells' slots' Q (F0 m (pc + 2) ls (.ref (B + k) :: rest))) : W p l e R s m args below meth c H locs cells slots Q (F0 m pc ls (.int n :: rest)) := by
  subst hcx
  subst hsx
  obtain ⟨hx, hb, hml, hown, hts⟩ := F
  refine va_newaK hx hb (atype := .boolean) (hts _ harr) rfl hdg rfl hn hN hbytes hcells hslots hz fun H1 cA e1 z1 o1 hAr hNm => ?_
  have hcA : cA = G.2 1 := Option.some.inj (hNm.symm.trans (hE.1.2 1 _ rfl).2)
  subst hcA
  exact kk H1 (zx_push hP o1 e1) (by omega) (zx_S hS hz (by omega) o1)
theorem zx_newq {cells' slots' : Nat} {C : String} {n : Int32} {N z : Nat} (F : CallFix p m c cc nL s args zw_WS own) (hE : zw_E G s) (hP : va_P G.1 zw_cl (zw_l B k f) H) (hz : H.size = B + k) (hS : va_S A H0 H locs) (hcl : Cond.classLink own index C ∈ zw_WS) (hO : va_AO C s) (ht : (zw_ty G.2)[z]? = some (G.2 z, .object C)) (hn : ¬ n < 0) (hN : n.toNatClampNeg = N) (hbytes : N * 4 ≤ 536870912) (hcells : cells + 1 ≤ R.cells) (hslots : slots + N ≤ R.slots) (hdg : decode cc pc = .ok (.anewarray index, 3)) (hcx : cells + 1 = cells') (hsx : slots + N = slots')
    (kk : ∀ (H1 : Heap), va_P G.1 zw_cl (zw_l B (k + 1) (va_up f k (.inl (G.2 z, N, .inr (.inr (.inr (.inr (fun _ => none)))))))) H1 → H1.size = B + (k + 1) → va_S A H0 H1 locs → W p l e R s m args below meth c H1 locs cells' slots' Q (F0 m (pc + 3) ls (.ref (B + k) :: rest))) : W p l e R s m args below meth c H locs cells slots Q (F0 m pc ls (.int n :: rest)) := by
  subst hcx
  subst hsx
  obtain ⟨hx, hb, hml, hown, hts⟩ := F
  subst hN
  refine W.anew hx hb hown (hts _ hcl) (va_AO.use hO) rfl hdg rfl hn hbytes hcells hslots fun cA kA comp f1 f2 f3 f4 => ?_
  obtain ⟨kA', comp', k1, k2, k3, k4⟩ := (hE.1.2 z _ ht).2
  have hcA : cA = G.2 z := Option.some.inj (f1.symm.trans k4)
  subst hcA
  generalize hH1 : H.push ({ cls := G.2 z, slots := Array.replicate n.toNatClampNeg .null, vm := .none } : Cell) = H1
  have z1 : H1.size = H.size + 1 := by rw [← hH1, Array.size_push]
  have e1 : H1[H.size]? = some (arrV (G.2 z) n.toNatClampNeg (fun _ => .null)) := by rw [← hH1, Array.getElem?_push_size, ← arrV_new]
  have o1 : ∀ q : Nat, q < B + k → H1[q]? = H[q]? := fun q hq => by rw [← hH1, Array.getElem?_push, if_neg (by omega)]
  rw [hz] at e1 ⊢
  exact kk H1 (zx_push hP o1 (by show H1[B + k]? = some (vp_cell _ _); rw [vp_cell_q]; exact e1)) (by omega) (zx_S hS hz (by omega) o1)
/-- new int[N][K] -/
theorem zx_outer (c : ClassId) (N h0 : Nat) : ∀ i : Nat, Jvm.Free.Multi.outerC c N h0 i = arrV c N (fun j => va_rf (if j < i then some (h0 + 1 + j) else none))
  | 0 => by
    show ({ cls := c, slots := Array.replicate N .null, vm := .none } : Cell) = _
    rw [arrV_new]
    refine congrArg (arrV c N) (funext fun j => ?_)
    simp [va_rf]
  | i + 1 => by
    show (Jvm.Free.Multi.outerC c N h0 i).setSlot i (.ref (h0 + 1 + i)) = _
    rw [zx_outer c N h0 i, arrV_store]
    refine congrArg (arrV c N) (funext fun j => ?_)
    by_cases e : j = i
    · subst e
      simp [updV, va_rf]
    · by_cases h : j < i
      · simp [updV, e, h, Nat.lt_succ_of_lt h]
      · simp [updV, e, h, show ¬ j < i + 1 by omega]
def zx_mf (G : zw_G) (B k N K : Nat) (f : Nat → va_E) : Nat → va_E := fun x => if x < k then f x else (if x = k then .inl (G.2 6, N, .inr (.inr (.inr (.inr (fun i => if i < N then some (B + k + 1 + i) else none))))) else .inl (G.2 0, K, .inl (fun _ => 0)))
theorem zx_mna {cells' slots' : Nat} {n k0 : Int32} {N K : Nat} (F : CallFix p m c cc nL s args zw_WS own) (hE : zw_E G s) (hP : va_P G.1 zw_cl (zw_l B k f) H) (hz : H.size = B + k) (hS : va_S A H0 H locs) (hcl : Cond.classLink own index ("[" ++ (FieldType.array .int).toString) ∈ zw_WS) (hO : zx_A5 s) (harr : Cond.arrayClass .int ∈ zw_WS) (hn : ¬ n < 0) (hk : ¬ k0 < 0) (hN : n.toNatClampNeg = N) (hK : k0.toNatClampNeg = K) (hb1 : N * 4 ≤ 536870912) (hb2 : K * 4 ≤ 536870912) (hcells : cells + (1 + N) ≤ R.cells) (hslots : slots + (N + N * K) ≤ R.slots) (hdg : decode cc pc = .ok (.multianewarray index 2, 4)) (hcx : cells + 1 + N = cells') (hsx : slots + N + N * K = slots')
    (kk : ∀ (H1 : Heap), va_P G.1 zw_cl (zw_l B (k + 1 + N) (zx_mf G B k N K f)) H1 → H1.size = B + (k + 1 + N) → va_S A H0 H1 locs → W p l e R s m args below meth c H1 locs cells' slots' Q (F0 m (pc + 4) ls (.ref (B + k) :: rest))) : W p l e R s m args below meth c H locs cells slots Q (F0 m pc ls (.int k0 :: .int n :: rest)) := by
  subst hcx
  subst hsx
  subst hN
  subst hK
  obtain ⟨hx, hb, hml, hown, hts⟩ := F
  intro T hT Xs
  have hO' : (Cond.arrayOver (.array .int)).before args s = true := hO
  obtain ⟨vm₁, cA, comp, -, fA, fC, hOa, -, X', step⟩ := Xs.multianewarray2F hx hown (hts _ hcl) hO' (hts _ harr) (g := F0 m pc ls (.int k0 :: .int n :: rest)) rfl (by rw [hb]; exact hdg) rfl hn hk hb1 hb2 (by omega) rfl rfl hcells hslots
  have ec : comp = G.2 0 := Option.some.inj (fC.symm.trans (hE.1.2 0 _ rfl).2)
  have ea : cA = G.2 6 := Option.some.inj (fA.symm.trans (hE.1.2 6 _ rfl).2)
  subst ec
  subst ea
  generalize hF : Jvm.Free.Multi.fill (T.setVm vm₁) (G.2 6) (G.2 0) n.toNatClampNeg k0.toNatClampNeg (defaultValue .int) n.toNatClampNeg = F at X' step
  have hTh : (T.setVm vm₁).heap = H := hT
  obtain ⟨f1, f2, -, -⟩ := Jvm.Free.Multi.fill_facts (T.setVm vm₁) (G.2 6) (G.2 0) n.toNatClampNeg k0.toNatClampNeg (defaultValue .int) n.toNatClampNeg
  rw [hF, hTh] at f1 f2
  have hold : ∀ x : Nat, x < H.size → F.heap[x]? = H[x]? := fun x hx => by
    have := Jvm.Free.Multi.fill_old (T.setVm vm₁) (G.2 6) (G.2 0) n.toNatClampNeg k0.toNatClampNeg (defaultValue .int) (a := x) (by rw [hTh]; exact hx) n.toNatClampNeg
    rw [hF, hTh] at this
    exact this
  have hrow : ∀ j : Nat, j < n.toNatClampNeg → F.heap[H.size + 1 + j]? = some (vp_cell (G.2 0) (k0.toNatClampNeg, .inl (fun _ => 0))) := fun j hj => by
    have := Jvm.Free.Multi.fill_inner (T.setVm vm₁) (G.2 6) (G.2 0) n.toNatClampNeg k0.toNatClampNeg (defaultValue .int) n.toNatClampNeg j hj
    rw [hF, hTh] at this
    rw [this, vp_cell_i, ← arrV_new]
    rfl
  have hout : Jvm.Free.Multi.outerC (G.2 6) n.toNatClampNeg H.size n.toNatClampNeg = vp_cell (G.2 6) (n.toNatClampNeg, .inr (.inr (.inr (.inr (fun i => if i < n.toNatClampNeg then some (B + k + 1 + i) else none))))) := by
    rw [vp_cell_q, zx_outer, hz]
  rw [hout] at f2
  have hPn : va_P G.1 zw_cl (zw_l B (k + 1 + n.toNatClampNeg) (zx_mf G B k n.toNatClampNeg k0.toNatClampNeg f)) F.heap := by
    intro x q hq
    obtain ⟨hxl, rfl⟩ := zw_some hq
    unfold zx_mf
    by_cases h1 : x < k
    · rw [if_pos h1]
      exact (hP x _ (zw_get h1)).kept (hold (B + x) (by omega))
    · rw [if_neg h1]
      by_cases h2 : x = k
      · rw [if_pos h2]
        subst h2
        rw [hz] at f2
        exact f2
      · rw [if_neg h2]
        have h3 := hrow (x - k - 1) (by omega)
        rw [hz, show B + k + 1 + (x - k - 1) = B + x by omega] at h3
        exact h3
  obtain ⟨t, a1, b1⟩ := kk F.heap hPn (by rw [f1, hz]; omega) ⟨by rw [f1]; have := hS.1; omega, fun x h1 h2 => (hold x (Nat.lt_of_lt_of_le h1 hS.1)).trans (hS.2.1 x h1 h2), hS.2.2⟩ F rfl X'
  refine ⟨t, step t ?_, b1⟩
  have e : T.heap.size = B + k := by rw [hT, hz]
  rw [e]
  exact a1
/-- a field that is final -/
theorem zx_pF {C : String} {Tb : u_T} {N ci : Nat} {fs : List Value} {v : Value} {ty : FieldType} (F : CallFix p m c cc nL s args zw_WS own) (hE : zw_E G s) (hP : va_P G.1 zw_cl (zw_l B k f) H) (hz : H.size = B + k) (hS : va_S A H0 H locs) (hA : ∀ q, zw_A B k q → H0.size ≤ q ∨ A q → A q) {x : Nat} (hx : x < k) (hAx : A (B + x)) (he : f x = .inr (ci, fs)) (hc : zw_cl[ci]? = some (C, Tb, N)) (hin : ∀ w ∈ u_ws C Tb N, w ∈ zw_WS) (ty0 : Nat → FieldType) (hty : ∀ k, k < N → parseFieldDescriptor (Tb k).2.2.1 = some (ty0 k)) (hnm : ∀ a, a < N → ∀ b, b < N → a ≠ b → (Tb a).2.1 ≠ (Tb b).2.1) (j : Nat) (hj : j < N) (hd : (Tb j).1 = C) (hfin : (Tb j).2.2.2 = true) (hin2 : meth.name = "<init>") (hoc : C = own) (hl : Cond.fieldLink own index C (Tb j).2.1 (Tb j).2.2.1 ∈ zw_WS) (hpd : parseFieldDescriptor (Tb j).2.2.1 = some ty) (hn : narrow ty v = v) (hfit : fits ty v = true) (hlf : j < fs.length) (hdg : decode cc pc = .ok (.putfield index, 3))
    (kk : ∀ (H1 : Heap) (locs1 : List Loc), va_P G.1 zw_cl (zw_l B k (va_up f x (.inr (ci, fs.set j v)))) H1 → H1.size = B + k → va_S A H0 H1 locs1 → W p l e R s m args below meth c H1 locs1 cells slots Q (F0 m (pc + 3) ls rest)) : W p l e R s m args below meth c H locs cells slots Q (F0 m pc ls (v :: .ref (B + x) :: rest)) := by
  obtain ⟨hx0, hb, hml, hown, hts⟩ := F
  have hap := va_apart (own := own) hts hin ty0 hty hnm hE.1 hc
  obtain ⟨r, h1, cell, q1, q2, q3, q4⟩ := hP x _ (by rw [zw_get hx, he])
  have hr : r = (C, Tb, N) := Option.some.inj (h1.symm.trans hc)
  subst hr
  obtain ⟨hSl, hfc, kC, hkC, hkind⟩ := hE.1.1 ci _ hc
  obtain ⟨cf, kf, fi, fd, hi, hsl⟩ := hSl j hj
  have hlay := hts _ (hin _ (u_in_lay hj))
  unfold u_lay at hlay
  rw [if_pos hfin] at hlay
  have hst := (u_facts hfc hkC (u_lays hts hin hj) hi).1
  have hcf : m.cls = cf := by
    obtain ⟨_, _, c', _, _, _, -, -, hf', -, -, -, hown2, -⟩ := Cond.laysFinal_spec hlay
    have e1 : c' = cf := by have := hi.symm.trans hf'; simp at this; exact this.1.symm
    rw [hd, hoc] at hown2
    rw [← e1]; exact Option.some.inj (hown.symm.trans hown2)
  have h6 := u_fits hfc hkC hkind (Or.inr hlay) hi hpd hn hfit
  refine W.putFinK hx0 hb hown (hts _ hl) (by rw [hd] at hi; exact hi) hst hcf hin2 (by rw [q2]; exact h6) q1 q3 (by rw [hsl]; exact k2_hasslot (q4 j hj)) rfl rfl hdg fun H' e1 e2 e3 => ?_
  rw [hsl] at e1 ⊢
  have hnew : va_at G.1 zw_cl (B + x, .inr (ci, fs.set j v)) H' := ⟨_, hc, t_OB.to (V := updV (vp_V fs) j v) ⟨_, e1, q2, q3, t_set q4 hap hj v⟩ (fun z _ => vp_updV_set hlf v z)⟩
  refine kk H' _ (fun n q hq => ?_) (by rw [e2]; exact hz) (hS.put e2 e3 hAx)
  obtain ⟨hn', rfl⟩ := zw_some hq
  by_cases hnx : n = x
  · subst hnx
    rw [va_up_self]
    exact hnew
  · rw [va_up_ne _ _ hnx]
    exact (hP n _ (zw_get hn')).kept (e3 (B + n) (fun h => hnx (Nat.add_left_cancel h)))
/-- an element that is a reference to an object of the world -/
theorem zx_ast {r : vw_C} {N z x y ci v : Nat} {vs : List Value} {g : Nat → Option Nat} (F : CallFix p m c cc nL s args zw_WS own) (hE : zw_E G s) (hP : va_P G.1 zw_cl (zw_l B k f) H) (hz : H.size = B + k) (hS : va_S A H0 H locs) (hx : x < k) (hAx : A (B + x)) (he : f x = .inl (G.2 z, N, .inr (.inr (.inr (.inr g))))) (ht : (zw_ty G.2)[z]? = some (G.2 z, .object r.1)) (hy : y < k) (hv : f y = .inr (ci, vs)) (hc : zw_cl[ci]? = some r) {j : Nat} (hj : j < N) (hN : N < 2 ^ 31) (hva : v = B + y) (hdg : decode cc pc = .ok (.aastore, 1))
    (kk : ∀ (H1 : Heap) (locs1 : List Loc), va_P G.1 zw_cl (zw_l B k (va_up f x (.inl (G.2 z, N, .inr (.inr (.inr (.inr (va_up g j (some (B + y))))))) ))) H1 → H1.size = B + k → va_S A H0 H1 locs1 → W p l e R s m args below meth c H1 locs1 cells slots Q (F0 m (pc + 1) ls rest)) : W p l e R s m args below meth c H locs cells slots Q (F0 m pc ls (.ref v :: .int (nI j) :: .ref (B + x) :: rest)) := by
  subst hva
  have hin := vp_in_nI hj hN
  have hcl := nI_clamp (Nat.lt_trans hj hN)
  have hlt : (nI j).toNatClampNeg < N := by rw [hcl]; exact hj
  have h0 : ¬ nI j < 0 := fun q => hin (Or.inl q)
  have hcell : H[B + x]? = some (vp_cell (G.2 z) (N, .inr (.inr (.inr (.inr g))))) := hP x (B + x, .inl (G.2 z, N, .inr (.inr (.inr (.inr g))))) (by rw [zw_get hx, he])
  obtain ⟨r', hr', cellV, g1, g2, g3, -⟩ := hP y (B + y, .inr (ci, vs)) (by rw [zw_get hy, hv])
  have hcls := (hE.1.1 ci r hc).2
  obtain ⟨kA, comp, k1, k2, k3, -⟩ := (hE.1.2 z _ ht).2
  have hcomp : comp = G.1.1 ci := Option.some.inj (k3.symm.trans hcls.1)
  subst hcomp
  obtain ⟨kC, hkC, -⟩ := hcls.2
  refine W.aast F.1 F.2.1 hcell (fun q h => by cases h) (fun h => by cases h) k1 k2 rfl hkC ⟨h0, by show _ < (arrV _ _ _).slots.size; rw [arrV_size]; exact hlt⟩ g1 (fun q h => by rw [g3] at h; cases h) (by rw [g2]; exact hkC) (by rw [g2]; exact va_assign hcls) rfl rfl hdg fun H1 e z1 oq => ?_
  have hnew : H1[B + x]? = some (vp_cell (G.2 z) (N, .inr (.inr (.inr (.inr (va_up g j (some (B + y)))))))) := by
    rw [e, vp_cell_q, vp_cell_q, arrV_store]
    congr 2
    funext q
    rw [hcl]
    by_cases hq : q = j
    · subst hq
      simp [updV, va_up, va_rf]
    · simp [updV, va_up, hq]
  refine kk H1 _ (fun n q hq => ?_) (by rw [z1]; exact hz) (hS.put z1 oq hAx)
  obtain ⟨hn', rfl⟩ := zw_some hq
  by_cases hnx : n = x
  · subst hnx
    rw [va_up_self]
    exact hnew
  · rw [va_up_ne _ _ hnx]
    exact (hP n _ (zw_get hn')).kept (oq (B + n) (fun h => hnx (Nat.add_left_cancel h)))
/-- the call of a constructor on the object just made -/
theorem zx_run {y : MethodName} {cd : ByteArray} {ml n mc ms : Nat} {rm : Room} {c0 : va_E} {As : List Value} {b : Nat} (F : CallFix p m c cc nL s args zw_WS own) (hE : zw_E G s) (hO : zx_O s) (hP : va_P G.1 zw_cl (zw_l B (k + 1) (va_up f k c0)) H) (hz : H.size = B + (k + 1)) (hM : zx_M l y cd ml rm G B k n c0 f (.ref b :: As) mc ms) (hk : Cond.code y cd ml none ∈ zw_WS ∧ Cond.initialized y.cls ∈ zw_WS ∧ (y.cls ≠ "java/lang/invoke/MethodHandle" ∧ y.cls ≠ "java/lang/invoke/VarHandle" ∧ (parseMethodDescriptor y.desc).map (fun d => d.parameters.length) = some As.length)) (hi : Cond.instanceMethod y ∈ zw_WS) (hyn : y.name = "<init>") (hl : Cond.methodLink own index y ∈ zw_WS)
    (hrm : rm.cells = mc ∧ rm.slots = ms ∧ rm.frames + 1 ≤ R.frames ∧ 8 + (ml + 11) + rm.locals ≤ R.locals) (hsz : ls.size = nL) (hst : st0 = As.reverse ++ .ref b :: rest) (hW : (rest.map fun v => v.category).sum ≤ 8) (hcs : cells + mc ≤ R.cells ∧ slots + ms ≤ R.slots) (hdg : decode cc pc = .ok (.invokespecial index, 3)) :
    va_Run p l e R s m args below meth c H locs cells slots mc ms (F0 m pc ls st0) rest (va_Qv (fun (_ : Unit) => True) (fun _ t => va_P G.1 zw_cl (zw_l B (k + n) f) t.heap ∧ t.heap.size = B + (k + n)) (fun q => B + k ≤ q) (Value.ref b :: As).toArray) (fun q => B + k ≤ q) := by
  obtain ⟨hx, hb, hml, hown, hts⟩ := F
  exact va_runI ⟨hx, hb, hml, hown, hts⟩ hM ⟨callB_of As.length hts (zw_gi hk.1) rfl hrm.1 hrm.2.1 (hts _ hk.2.1) (hts _ hl) hk.2.2 hrm.2.2, hyn, hts _ hi⟩ ⟨fun _ _ _ _ q => ⟨q.1, zw_E.call q.2.1, zx_O.moved (u := _) (Vm.Alike.refl _) q.2.2.1, q.2.2.2⟩, fun U hU hW => ⟨rfl, zw_E.warm hW hE, zx_O.moved hW.alike hO, by rw [hU]; exact hP, by rw [hU]; exact hz⟩⟩ rfl rfl hsz hst (lv_room hW) hdg hcs
theorem zx_runN {y : MethodName} {cd : ByteArray} {ml n mc ms : Nat} {rm : Room} {c0 : va_E} {As : List Value} {b : Nat} {host : String} (F : CallFix p m c cc nL s args zw_WS own) (hE : zw_E G s) (hO : zx_O s) (hP : va_P G.1 zw_cl (zw_l B (k + 1) (va_up f k c0)) H) (hz : H.size = B + (k + 1)) (hM : zx_M l y cd ml rm G B k n c0 f (.ref b :: As) mc ms) (hk : Cond.code y cd ml none ∈ zw_WS ∧ Cond.initialized y.cls ∈ zw_WS ∧ (y.cls ≠ "java/lang/invoke/MethodHandle" ∧ y.cls ≠ "java/lang/invoke/VarHandle" ∧ (parseMethodDescriptor y.desc).map (fun d => d.parameters.length) = some As.length)) (hi : Cond.instanceMethod y ∈ zw_WS) (hyn : y.name = "<init>") (hl : Cond.methodLinkNest own index y host ∈ zw_NS)
    (hrm : rm.cells = mc ∧ rm.slots = ms ∧ rm.frames + 1 ≤ R.frames ∧ 8 + (ml + 11) + rm.locals ≤ R.locals) (hsz : ls.size = nL) (hst : st0 = As.reverse ++ .ref b :: rest) (hW : (rest.map fun v => v.category).sum ≤ 8) (hcs : cells + mc ≤ R.cells ∧ slots + ms ≤ R.slots) (hdg : decode cc pc = .ok (.invokespecial index, 3)) :
    va_Run p l e R s m args below meth c H locs cells slots mc ms (F0 m pc ls st0) rest (va_Qv (fun (_ : Unit) => True) (fun _ t => va_P G.1 zw_cl (zw_l B (k + n) f) t.heap ∧ t.heap.size = B + (k + n)) (fun q => B + k ≤ q) (Value.ref b :: As).toArray) (fun q => B + k ≤ q) := by
  obtain ⟨hx, hb, hml, hown, hts⟩ := F
  exact va_runIN ⟨hx, hb, hml, hown, hts⟩ hM ⟨va_cnB As.length hts (zw_gi hk.1) rfl hrm.1 hrm.2.1 (hE.2 _ hl) (hts _ hk.2.1) hk.2.2 hrm.2.2, hyn, hts _ hi⟩ ⟨fun _ _ _ _ q => ⟨q.1, zw_E.call q.2.1, zx_O.moved (u := _) (Vm.Alike.refl _) q.2.2.1, q.2.2.2⟩, fun U hU hW => ⟨rfl, zw_E.warm hW hE, zx_O.moved hW.alike hO, by rw [hU]; exact hP, by rw [hU]; exact hz⟩⟩ rfl rfl hsz hst (lv_room hW) hdg hcs
theorem zx_go {cells' slots' : Nat} {a : Array Value} {n mc ms : Nat} (hr : va_Run p l e R s m args below meth c H locs cells slots mc ms (F0 m pc ls st0) rest (va_Qv (fun (_ : Unit) => True) (fun _ t => va_P G.1 zw_cl (zw_l B (k + n) f) t.heap ∧ t.heap.size = B + (k + n)) (fun q => B + k ≤ q) a) (fun q => B + k ≤ q)) (hS : va_S A H0 H locs) (hA : ∀ q, B + k ≤ q → A q) (hcx : cells + mc = cells') (hsx : slots + ms = slots')
    (kk : ∀ (H1 : Heap) (locs1 : List Loc), va_P G.1 zw_cl (zw_l B (k + n) f) H1 → H1.size = B + (k + n) → (∀ q : Nat, q < B + k → q < H.size → H1[q]? = H[q]?) → va_S A H0 H1 locs1 → W p l e R s m args below meth c H1 locs1 cells' slots' Q (F0 m (pc + 3) ls rest)) : W p l e R s m args below meth c H locs cells slots Q (F0 m pc ls st0) := by
  subst hcx
  subst hsx
  refine va_callv hr hS (fun q _ h => hA q h) hA (fun u t H1 locs1 ht hvm hp hB hz hk1 hS1 => ?_)
  have hB' : va_P G.1 zw_cl (zw_l B (k + n) f) t.heap ∧ t.heap.size = B + (k + n) := hB
  rw [ht] at hB'
  exact kk H1 locs1 hB'.1 hB'.2 (fun q h1 h2 => hk1 q h2 (by show ¬ B + k ≤ q; omega)) hS1
/-- a constructor's end -/
theorem zx_vret {n : Nat} {f1 : Nat → va_E} {kx : Nat} (F : CallFix p m c cc nL s args zw_WS own) (hr : meth.sig.returnType = none) (hlk : meth.locks = false) (hP : va_P G.1 zw_cl (zw_l B kx f1) H) (hz : H.size = B + kx) (hS : va_S (fun q => B + k ≤ q) s.heap H locs) (hkx : kx = k + n) (hf : ∀ x, x < k + n → f1 x = f x) (hdg : decode cc pc = .ok (.return_, 1)) :
    W p l e R s m args below meth c H locs cells slots (MQ below (va_Qv (fun (_ : Unit) => True) (fun _ t => va_P G.1 zw_cl (zw_l B (k + n) f) t.heap ∧ t.heap.size = B + (k + n)) (fun q => B + k ≤ q)) args s cells slots (fun q => B + k ≤ q)) (F0 m pc ls []) := by
  subst hkx
  rw [zw_cg hf] at hP
  exact W.vret F.1 F.2.1 hr (fun t ht _ => ⟨⟨(), rfl, trivial, by show va_P _ _ _ t.heap ∧ _; rw [ht]; exact ⟨hP, hz⟩⟩, hS.F ht⟩) hS.2.2 hdg hlk
theorem zx_cg {f1 : Nat → va_E} (hP : va_P G.1 zw_cl (zw_l B k f1) H) (hf : ∀ x, x < k → f1 x = f x) : va_P G.1 zw_cl (zw_l B k f) H := by
  rw [← zw_cg hf]
  exact hP
end ZXR
