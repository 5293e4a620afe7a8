/-! worlds of consecutive cells, rows over them -/
def zw_l (B n : Nat) (f : Nat → va_E) : va_W := (List.range n).map (fun x => (B + x, f x))
def zw_A (B n : Nat) : Nat → Prop := fun q => B ≤ q ∧ q < B + n
theorem zw_len {B n : Nat} {f : Nat → va_E} : (zw_l B n f).length = n := by simp [zw_l]
theorem zw_get {B n x : Nat} {f : Nat → va_E} (h : x < n) : (zw_l B n f)[x]? = some (B + x, f x) := by
  simp [zw_l, List.getElem?_map, List.getElem?_range h]
theorem zw_some {B n k : Nat} {f : Nat → va_E} {q : Nat × va_E} (h : (zw_l B n f)[k]? = some q) : k < n ∧ q = (B + k, f k) := by
  have hl := (List.getElem?_eq_some_iff.mp h).1
  have hk : k < n := by rw [zw_len] at hl; exact hl
  refine ⟨hk, ?_⟩
  rw [zw_get hk] at h
  exact (Option.some.inj h).symm
theorem zw_D {A : Nat → Prop} {B n : Nat} {f : Nat → va_E} (hA : ∀ q, zw_A B n q → A q) : va_D A (zw_l B n f) := by
  refine ⟨fun i j x y hi hj hxy => ?_, fun k q hk => ?_⟩
  · obtain ⟨-, rfl⟩ := zw_some hi
    obtain ⟨-, rfl⟩ := zw_some hj
    have h : B + i = B + j := hxy
    omega
  · obtain ⟨h, rfl⟩ := zw_some hk
    exact hA _ ⟨Nat.le_add_right _ _, by show B + k < B + n; omega⟩
theorem zw_set {B n x : Nat} {f : Nat → va_E} {e : va_E} : (zw_l B n f).set x (B + x, e) = zw_l B n (va_up f x e) := by
  apply List.ext_getElem?
  intro j
  by_cases hj : j < n
  · by_cases hx : j = x
    · subst hx
      rw [List.getElem?_set_self (by rw [zw_len]; exact hj), zw_get hj, va_up_self]
    · rw [List.getElem?_set_ne (Ne.symm hx), zw_get hj, zw_get hj, va_up_ne _ _ hx]
  · rw [List.getElem?_eq_none (by rw [List.length_set, zw_len]; omega), List.getElem?_eq_none (by rw [zw_len]; omega)]
theorem zw_cg {B n : Nat} {f g : Nat → va_E} (h : ∀ x, x < n → f x = g x) : zw_l B n f = zw_l B n g := by
  unfold zw_l
  exact List.map_congr_left (fun x hx => by rw [h x (List.mem_range.mp hx)])
/-- the environment: class tables, array classes, the nest mates' words -/
abbrev zw_G : Type := va_G × (Nat → ClassId)
def zw_ty (a : Nat → ClassId) : List (ClassId × FieldType) := [(a 0, .int), (a 1, .boolean), (a 2, .object "TwinLedgers$Ledger"), (a 3, .object "TwinLedgers$Store"), (a 4, .object "TwinLedgers$End"), (a 5, .object "TwinLedgers$Packet"), (a 6, .array .int)]
def zw_isN : Cond → Bool
  | .fieldLinkNest .. => true
  | .methodLinkNest .. => true
  | _ => false
theorem zw_nw {s U : State} (hW : s.WarmedH U.vm) (w : Cond) (hn : zw_isN w = true) (h : va_Nw w s) : va_Nw w U := by
  unfold zw_isN at hn
  split at hn
  · exact va_Nw.warmF hW h
  · exact va_Nw.warmM hW h
  · cases hn
theorem zw_nt (w : Cond) (hn : zw_isN w = true) : w.onTables = true := by
  unfold zw_isN at hn
  split at hn
  · rfl
  · rfl
  · cases hn
theorem zw_NSok : ∀ w ∈ zw_NS, zw_isN w = true := by decide +kernel
def zw_E (G : zw_G) (U : State) : Prop := va_K G.1 zw_cl (zw_ty G.2) U ∧ ∀ w ∈ zw_NS, va_Nw w U
theorem zw_E.warm {G : zw_G} {s U : State} (hW : s.WarmedH U.vm) (h : zw_E G s) : zw_E G U := ⟨va_K.moved hW.alike h.1, fun w hw => zw_nw hW w (zw_NSok w hw) (h.2 w hw)⟩
theorem zw_E.call {G : zw_G} {U : State} {g : JFrame} {mk : MethodId} {a : Array Value} (h : zw_E G U) : zw_E G (U.calling g mk a) := ⟨va_K.moved (u := U) (U := U.calling g mk a) (Vm.Alike.refl U.vm) h.1, fun w hw => va_Nw.same (u := U) (U := U.calling g mk a) (zw_nt w (zw_NSok w hw)) rfl (h.2 w hw)⟩
/-- contracts -/
abbrev zw_Pc (G : zw_G) (B n : Nat) (f : Nat → va_E) (av : List Value) : Array Value → State → Prop := va_Pc av (fun U => zw_E G U ∧ va_P G.1 zw_cl (zw_l B n f) U.heap)
abbrev zw_Qi (G : zw_G) (B n : Nat) (f : Nat → va_E) (r : Int32) : Array Value → State → Outcome → State → Prop := va_Qi (fun (x : Int32) (_ : Unit) => x = r) (fun _ t => va_P G.1 zw_cl (zw_l B n f) t.heap) (zw_A B n)
abbrev zw_Qv (G : zw_G) (B n : Nat) (f : Nat → va_E) : Array Value → State → Outcome → State → Prop := va_Qv (fun (_ : Unit) => True) (fun _ t => va_P G.1 zw_cl (zw_l B n f) t.heap) (zw_A B n)
abbrev zw_M (l : Launch) (y : MethodName) (cd : ByteArray) (ml : Nat) (rt : Option FieldType) (rm : Room) (G : zw_G) (B n : Nat) (f : Nat → va_E) (av : List Value) (Qc : Array Value → State → Outcome → State → Prop) : Prop := Met l y (Cond.code y cd ml rt :: zw_WS) rm (zw_Pc G B n f av) Qc 0 0 (zw_A B n)
theorem zw_of {l : Launch} {y : MethodName} {cd : ByteArray} {ml : Nat} {rt : Option FieldType} {rm : Room} {G : zw_G} {B n : Nat} {f : Nat → va_E} {av : List Value} {Qc : Array Value → State → Outcome → State → Prop} (hy : plainName y.cls = true) (hlen : (lg_sl av).length ≤ ml)
    (body : ∀ (p : Program) (e : Env) (s : State) (m : MethodId) (below : List Frame) (meth : Method) (cx : Code) (ls : Array Slot), CallFix p m cx cd ml s av.toArray zw_WS y.cls → meth.sig.returnType = rt → meth.locks = false → zw_E G s → va_P G.1 zw_cl (zw_l B n f) s.heap → va_S (zw_A B n) s.heap s.heap [] → lv_has ls ml (lv_args 0 av) →
      W p l e rm s m av.toArray below meth cx s.heap [] 0 0 (MQ below Qc av.toArray s 0 0 (zw_A B n)) (F0 m 0 ls [])) : zw_M l y cd ml rt rm G B n f av Qc := by
  refine Met.ofW (cc := cd) (maxL := ml) (ret := rt) hy rfl ?_
  intro p e s m args below meth cx s₁ Bd hml hv
  obtain ⟨rfl, hE, hP⟩ := hv
  have hts := atoms_spec (ws := Cond.code y cd ml rt :: zw_WS) Bd.pre
  rw [lg_entry_eq]
  exact body p e s m below meth cx _ ⟨Bd.exec, Bd.bytes, hml, findClass_of_methodNamed Bd.named, fun w hw => hts w (List.mem_cons_of_mem _ hw)⟩ Bd.returns Bd.notSynchronized hE hP va_S.rf (lv_entry av hlen)
/-- what is known of a callee -/
def zw_ok (y : MethodName) (cd : ByteArray) (ml : Nat) (rt : Option FieldType) (n : Nat) : Prop := Cond.code y cd ml rt ∈ zw_WS ∧ Cond.initialized y.cls ∈ zw_WS ∧ (y.cls ≠ "java/lang/invoke/MethodHandle" ∧ y.cls ≠ "java/lang/invoke/VarHandle" ∧ (parseMethodDescriptor y.desc).map (fun d => d.parameters.length) = some n)
theorem zw_good : ∀ w ∈ zw_WS, goodWord w = true := fun w hw => (List.mem_filter.mp hw).2
theorem zw_gi {y : MethodName} {cd : ByteArray} {ml : Nat} {rt : Option FieldType} (h : Cond.code y cd ml rt ∈ zw_WS) : GoodIn zw_WS (Cond.code y cd ml rt :: zw_WS) := by
  intro w hw
  have hm : w ∈ zw_WS := by
    rcases List.mem_cons.mp hw with rfl | hw
    · exact h
    · exact hw
  exact ⟨hm, good_of_word (zw_good w hm)⟩
section ZWR
variable {p : Program} {l : Launch} {e : Env} {R : Room} {s : State} {m : MethodId} {args : Array Value} {below : List Frame} {meth : Method} {c : Code} {H : Heap} {locs : List Loc} {cells slots : Nat} {Q : State → Prop}
variable {cc : ByteArray} {pc nL : Nat} {ls : Array Slot} {rest st0 : List Value} {A : Nat → Prop} {H0 : Heap} {G : zw_G} {B n : Nat} {f f' : Nat → va_E} {own : String}
variable {y : MethodName} {cd : ByteArray} {ml index : Nat} {rt : Option FieldType} {rm : Room} {As : List Value} {b : Nat} {Qc : Array Value → State → Outcome → State → Prop}
theorem zw_blind {av : List Value} : FrameBlind (zw_Pc G B n f av) := fun _ _ _ _ q => ⟨q.1, zw_E.call q.2.1, q.2.2⟩
theorem zw_rV (F : CallFix p m c cc nL s args zw_WS own) (hE : zw_E G s) (hP : va_P G.1 zw_cl (zw_l B n f) H) (hM : zw_M l y cd ml rt rm G B n f (.ref b :: As) Qc) (hk : zw_ok y cd ml rt As.length) (hi : Cond.instanceMethod y ∈ zw_WS) (hs : Cond.selects y.cls y y ∈ zw_WS) (hl : Cond.methodLink own index y ∈ zw_WS)
    (hrm : rm.cells = 0 ∧ rm.slots = 0 ∧ rm.frames + 1 ≤ R.frames ∧ 8 + (ml + 11) + rm.locals ≤ R.locals) (hrecv : ∃ cellB : Cell, H[b]? = some cellB ∧ cellB.vm.isStatics = false ∧ s.vm.findClass y.cls = some cellB.cls) (hsz : ls.size = nL) (hst : st0 = As.reverse ++ .ref b :: rest) (hW : (rest.map fun v => v.category).sum ≤ 8) (hcs : cells ≤ R.cells ∧ slots ≤ R.slots) (hdg : decode cc pc = .ok (.invokevirtual index, 3)) :
    va_Run p l e R s m args below meth c H locs cells slots 0 0 (F0 m pc ls st0) rest (Qc (Value.ref b :: As).toArray) (zw_A B n) := by
  obtain ⟨hx, hb, hml, hown, hts⟩ := F
  exact va_runV ⟨hx, hb, hml, hown, hts⟩ hM ⟨callB_of As.length hts (zw_gi hk.1) rfl hrm.1 hrm.2.1 (hts _ hk.2.1) (hts _ hl) hk.2.2 hrm.2.2, hts _ hi, hts _ hs⟩ ⟨zw_blind, hrecv, fun U hU hW => ⟨rfl, zw_E.warm hW hE, by rw [hU]; exact hP⟩⟩ rfl rfl hsz hst (lv_room hW) hdg hcs
theorem zw_rVN {host : String} (F : CallFix p m c cc nL s args zw_WS own) (hE : zw_E G s) (hP : va_P G.1 zw_cl (zw_l B n f) H) (hM : zw_M l y cd ml rt rm G B n f (.ref b :: As) Qc) (hk : zw_ok y cd ml rt As.length) (hi : Cond.instanceMethod y ∈ zw_WS) (hs : Cond.selects y.cls y y ∈ zw_WS) (hl : Cond.methodLinkNest own index y host ∈ zw_NS)
    (hrm : rm.cells = 0 ∧ rm.slots = 0 ∧ rm.frames + 1 ≤ R.frames ∧ 8 + (ml + 11) + rm.locals ≤ R.locals) (hrecv : ∃ cellB : Cell, H[b]? = some cellB ∧ cellB.vm.isStatics = false ∧ s.vm.findClass y.cls = some cellB.cls) (hsz : ls.size = nL) (hst : st0 = As.reverse ++ .ref b :: rest) (hW : (rest.map fun v => v.category).sum ≤ 8) (hcs : cells ≤ R.cells ∧ slots ≤ R.slots) (hdg : decode cc pc = .ok (.invokevirtual index, 3)) :
    va_Run p l e R s m args below meth c H locs cells slots 0 0 (F0 m pc ls st0) rest (Qc (Value.ref b :: As).toArray) (zw_A B n) := by
  obtain ⟨hx, hb, hml, hown, hts⟩ := F
  exact va_runVN ⟨hx, hb, hml, hown, hts⟩ hM ⟨va_cnB As.length hts (zw_gi hk.1) rfl hrm.1 hrm.2.1 (hE.2 _ hl) (hts _ hk.2.1) hk.2.2 hrm.2.2, hts _ hi, hts _ hs⟩ ⟨zw_blind, hrecv, fun U hU hW => ⟨rfl, zw_E.warm hW hE, by rw [hU]; exact hP⟩⟩ rfl rfl hsz hst (lv_room hW) hdg hcs
theorem zw_rS (F : CallFix p m c cc nL s args zw_WS own) (hE : zw_E G s) (hP : va_P G.1 zw_cl (zw_l B n f) H) (hM : zw_M l y cd ml rt rm G B n f As Qc) (hk : zw_ok y cd ml rt As.length) (hi : Cond.static y ∈ zw_WS) (hl : Cond.methodLink own index y ∈ zw_WS)
    (hrm : rm.cells = 0 ∧ rm.slots = 0 ∧ rm.frames + 1 ≤ R.frames ∧ 8 + (ml + 11) + rm.locals ≤ R.locals) (hsz : ls.size = nL) (hst : st0 = As.reverse ++ rest) (hW : (rest.map fun v => v.category).sum ≤ 8) (hcs : cells ≤ R.cells ∧ slots ≤ R.slots) (hdg : decode cc pc = .ok (.invokestatic index, 3)) :
    va_Run p l e R s m args below meth c H locs cells slots 0 0 (F0 m pc ls st0) rest (Qc As.toArray) (zw_A B n) := by
  obtain ⟨hx, hb, hml, hown, hts⟩ := F
  exact va_runS ⟨hx, hb, hml, hown, hts⟩ hM ⟨callB_of As.length hts (zw_gi hk.1) rfl hrm.1 hrm.2.1 (hts _ hk.2.1) (hts _ hl) hk.2.2 hrm.2.2, hts _ hi⟩ ⟨zw_blind, fun U hU hW => ⟨rfl, zw_E.warm hW hE, by rw [hU]; exact hP⟩⟩ rfl rfl hsz hst (lv_room hW) hdg hcs
theorem zw_rSN {host : String} (F : CallFix p m c cc nL s args zw_WS own) (hE : zw_E G s) (hP : va_P G.1 zw_cl (zw_l B n f) H) (hM : zw_M l y cd ml rt rm G B n f As Qc) (hk : zw_ok y cd ml rt As.length) (hi : Cond.static y ∈ zw_WS) (hl : Cond.methodLinkNest own index y host ∈ zw_NS)
    (hrm : rm.cells = 0 ∧ rm.slots = 0 ∧ rm.frames + 1 ≤ R.frames ∧ 8 + (ml + 11) + rm.locals ≤ R.locals) (hsz : ls.size = nL) (hst : st0 = As.reverse ++ rest) (hW : (rest.map fun v => v.category).sum ≤ 8) (hcs : cells ≤ R.cells ∧ slots ≤ R.slots) (hdg : decode cc pc = .ok (.invokestatic index, 3)) :
    va_Run p l e R s m args below meth c H locs cells slots 0 0 (F0 m pc ls st0) rest (Qc As.toArray) (zw_A B n) := by
  obtain ⟨hx, hb, hml, hown, hts⟩ := F
  exact va_runSN ⟨hx, hb, hml, hown, hts⟩ hM ⟨va_cnB As.length hts (zw_gi hk.1) rfl hrm.1 hrm.2.1 (hE.2 _ hl) (hts _ hk.2.1) hk.2.2 hrm.2.2, hts _ hi, trivial⟩ ⟨zw_blind, fun U hU hW => ⟨rfl, zw_E.warm hW hE, by rw [hU]; exact hP⟩⟩ rfl rfl hsz hst (lv_room hW) hdg hcs
/-- behind a call -/
theorem zw_goi {a : Array Value} {r : Int32} (hr : va_Run p l e R s m args below meth c H locs cells slots 0 0 (F0 m pc ls st0) rest (zw_Qi G B n f' r a) (zw_A B n)) (hS : va_S A H0 H locs) (hA : ∀ q, zw_A B n q → A q)
    (kk : ∀ (H1 : Heap) (locs1 : List Loc), va_P G.1 zw_cl (zw_l B n f') H1 → H.size ≤ H1.size → (∀ q : Nat, q < H.size → ¬ zw_A B n q → H1[q]? = H[q]?) → va_S A H0 H1 locs1 → W p l e R s m args below meth c H1 locs1 cells slots Q (F0 m (pc + 3) ls (.int r :: rest))) : W p l e R s m args below meth c H locs cells slots Q (F0 m pc ls st0) := by
  refine va_calli hr hS (fun q _ h => hA q h) hA (fun r' u t H1 locs1 ht hvm hp hB hz hk1 hS1 => ?_)
  have hp' : r' = r := hp
  subst hp'
  have hB' : va_P G.1 zw_cl (zw_l B n f') t.heap := hB
  rw [ht] at hB'
  exact kk H1 locs1 hB' hz hk1 hS1
theorem zw_gov {a : Array Value} (hr : va_Run p l e R s m args below meth c H locs cells slots 0 0 (F0 m pc ls st0) rest (zw_Qv G B n f' a) (zw_A B n)) (hS : va_S A H0 H locs) (hA : ∀ q, zw_A B n q → A q)
    (kk : ∀ (H1 : Heap) (locs1 : List Loc), va_P G.1 zw_cl (zw_l B n f') H1 → H.size ≤ H1.size → (∀ q : Nat, q < H.size → ¬ zw_A B n q → H1[q]? = H[q]?) → va_S A H0 H1 locs1 → W p l e R s m args below meth c H1 locs1 cells slots Q (F0 m (pc + 3) ls rest)) : W p l e R s m args below meth c H locs cells slots Q (F0 m pc ls st0) := by
  refine va_callv hr hS (fun q _ h => hA q h) hA (fun u t H1 locs1 ht hvm hp hB hz hk1 hS1 => ?_)
  have hB' : va_P G.1 zw_cl (zw_l B n f') t.heap := hB
  rw [ht] at hB'
  exact kk H1 locs1 hB' hz hk1 hS1
/-- the receiver of a call -/
theorem zw_recv {x ci : Nat} {fs : List Value} {q : vw_C} (hE : zw_E G s) (hP : va_P G.1 zw_cl (zw_l B n f) H) (hx : x < n) (he : f x = .inr (ci, fs)) (hc : zw_cl[ci]? = some q) : ∃ cellB : Cell, H[B + x]? = some cellB ∧ cellB.vm.isStatics = false ∧ s.vm.findClass q.1 = some cellB.cls :=
  va_recv (q0 := x) (fs := fs) hE.1 hP hc (by rw [zw_get hx, he])
/-- a method's end -/
theorem zw_iret {v r : Int32} {f1 : Nat → va_E} (F : CallFix p m c cc nL s args zw_WS own) (hr : meth.sig.returnType = some .int) (hlk : meth.locks = false) (hP : va_P G.1 zw_cl (zw_l B n f1) H) (hS : va_S (zw_A B n) s.heap H locs) (hf : f1 = f') (hv : v = r) (hdg : decode cc pc = .ok (.ireturn, 1)) :
    W p l e R s m args below meth c H locs 0 0 (MQ below (zw_Qi G B n f' r) args s 0 0 (zw_A B n)) (F0 m pc ls [.int v]) := by
  subst hf
  exact W.iret F.1 F.2.1 hr (fun t ht _ => ⟨⟨v, (), rfl, hv, by show va_P _ _ _ t.heap; rw [ht]; exact hP⟩, hS.F ht⟩) hS.2.2 hdg hlk
theorem zw_zret {v r : Int32} {f1 : Nat → va_E} (F : CallFix p m c cc nL s args zw_WS own) (hr : meth.sig.returnType = some .boolean) (hlk : meth.locks = false) (hP : va_P G.1 zw_cl (zw_l B n f1) H) (hS : va_S (zw_A B n) s.heap H locs) (hf : f1 = f') (h01 : v = 0 ∨ v = 1) (hv : v = r) (hdg : decode cc pc = .ok (.ireturn, 1)) :
    W p l e R s m args below meth c H locs 0 0 (MQ below (zw_Qi G B n f' r) args s 0 0 (zw_A B n)) (F0 m pc ls [.int v]) := by
  subst hf
  exact W.zret F.1 F.2.1 hr (by rcases h01 with rfl | rfl <;> rfl) (fun t ht _ => ⟨⟨v, (), rfl, hv, by show va_P _ _ _ t.heap; rw [ht]; exact hP⟩, hS.F ht⟩) hS.2.2 hdg hlk
theorem zw_vret {f1 : Nat → va_E} (F : CallFix p m c cc nL s args zw_WS own) (hr : meth.sig.returnType = none) (hlk : meth.locks = false) (hP : va_P G.1 zw_cl (zw_l B n f1) H) (hS : va_S (zw_A B n) s.heap H locs) (hf : f1 = f') (hdg : decode cc pc = .ok (.return_, 1)) :
    W p l e R s m args below meth c H locs 0 0 (MQ below (zw_Qv G B n f') args s 0 0 (zw_A B n)) (F0 m pc ls []) := by
  subst hf
  exact W.vret F.1 F.2.1 hr (fun t ht _ => ⟨⟨(), rfl, trivial, by show va_P _ _ _ t.heap; rw [ht]; exact hP⟩, hS.F ht⟩) hS.2.2 hdg hlk
/-- fields -/
theorem zw_gF {C : String} {T : u_T} {N ci : Nat} {fs : List Value} {v : Value} (F : CallFix p m c cc nL s args zw_WS own) (hE : zw_E G s) (hP : va_P G.1 zw_cl (zw_l B n f) H) {x : Nat} (hx : x < n) (he : f x = .inr (ci, fs)) (hc : zw_cl[ci]? = some (C, T, N)) (hin : ∀ w ∈ u_ws C T N, w ∈ zw_WS) (k : Nat) (hk : k < N) (hd : (T k).1 = C) (hl : Cond.fieldLink own index C (T k).2.1 (T k).2.2.1 ∈ zw_WS) (hv : fs[k]? = some v) (hdg : decode cc pc = .ok (.getfield index, 3))
    (kk : W p l e R s m args below meth c H locs cells slots Q (F0 m (pc + 3) ls (v :: rest))) : W p l e R s m args below meth c H locs cells slots Q (F0 m pc ls (.ref (B + x) :: rest)) :=
  va_get F.1 F.2.1 F.2.2.2.2 hin F.2.2.2.1 hE.1 hP x (by rw [zw_get hx, he]) hc k hk (F.2.2.2.2 _ hl) (fun z hz => by rw [hd] at hz; exact hz) hv hdg kk
theorem zw_gN {C host : String} {T : u_T} {N ci : Nat} {fs : List Value} {v : Value} (F : CallFix p m c cc nL s args zw_WS own) (hE : zw_E G s) (hP : va_P G.1 zw_cl (zw_l B n f) H) {x : Nat} (hx : x < n) (he : f x = .inr (ci, fs)) (hc : zw_cl[ci]? = some (C, T, N)) (hin : ∀ w ∈ u_ws C T N, w ∈ zw_WS) (k : Nat) (hk : k < N) (hd : (T k).1 = C) (hl : Cond.fieldLinkNest own index C (T k).2.1 (T k).2.2.1 host ∈ zw_NS) (hv : fs[k]? = some v) (hdg : decode cc pc = .ok (.getfield index, 3))
    (kk : W p l e R s m args below meth c H locs cells slots Q (F0 m (pc + 3) ls (v :: rest))) : W p l e R s m args below meth c H locs cells slots Q (F0 m pc ls (.ref (B + x) :: rest)) :=
  va_getN F.1 F.2.1 F.2.2.2.2 hin F.2.2.2.1 hE.1 hP x (by rw [zw_get hx, he]) hc k hk (va_Nw.use rfl (hE.2 _ hl)) (fun z hz => by rw [hd] at hz; exact hz) hv hdg kk
theorem zw_pF {C : String} {T : u_T} {N ci : Nat} {fs : List Value} {v : Value} {ty : FieldType} (F : CallFix p m c cc nL s args zw_WS own) (hE : zw_E G s) (hP : va_P G.1 zw_cl (zw_l B n f) H) (hS : va_S A H0 H locs) (hA : ∀ q, zw_A B n q → A q) {x : Nat} (hx : x < n) (he : f x = .inr (ci, fs)) (hc : zw_cl[ci]? = some (C, T, N)) (hin : ∀ w ∈ u_ws C T N, w ∈ zw_WS) (ty0 : Nat → FieldType) (hty : ∀ k, k < N → parseFieldDescriptor (T k).2.2.1 = some (ty0 k)) (hnm : ∀ a, a < N → ∀ b, b < N → a ≠ b → (T a).2.1 ≠ (T b).2.1) (k : Nat) (hk : k < N) (hd : (T k).1 = C) (hfin : (T k).2.2.2 = false) (hl : Cond.fieldLink own index C (T k).2.1 (T k).2.2.1 ∈ zw_WS) (hpd : parseFieldDescriptor (T k).2.2.1 = some ty) (hn : narrow ty v = v) (hfit : fits ty v = true) (hlf : k < fs.length) (hdg : decode cc pc = .ok (.putfield index, 3))
    (kk : ∀ (H1 : Heap) (locs1 : List Loc), va_P G.1 zw_cl (zw_l B n (va_up f x (.inr (ci, fs.set k v)))) H1 → va_S A H0 H1 locs1 → W p l e R s m args below meth c H1 locs1 cells slots Q (F0 m (pc + 3) ls rest)) : W p l e R s m args below meth c H locs cells slots Q (F0 m pc ls (v :: .ref (B + x) :: rest)) :=
  va_put F.1 F.2.1 F.2.2.2.2 hin ty0 hty hnm F.2.2.2.1 hE.1 hP (zw_D hA) hS x (by rw [zw_get hx, he]) hc k hk (F.2.2.2.2 _ hl) (fun z hz => by rw [hd] at hz; exact hz) hfin hpd hn hfit hlf hdg (fun H1 locs1 h1 _ h3 => kk H1 locs1 (by rw [zw_set] at h1; exact h1) h3)
theorem zw_pN {C host : String} {T : u_T} {N ci : Nat} {fs : List Value} {v : Value} {ty : FieldType} (F : CallFix p m c cc nL s args zw_WS own) (hE : zw_E G s) (hP : va_P G.1 zw_cl (zw_l B n f) H) (hS : va_S A H0 H locs) (hA : ∀ q, zw_A B n q → A q) {x : Nat} (hx : x < n) (he : f x = .inr (ci, fs)) (hc : zw_cl[ci]? = some (C, T, N)) (hin : ∀ w ∈ u_ws C T N, w ∈ zw_WS) (ty0 : Nat → FieldType) (hty : ∀ k, k < N → parseFieldDescriptor (T k).2.2.1 = some (ty0 k)) (hnm : ∀ a, a < N → ∀ b, b < N → a ≠ b → (T a).2.1 ≠ (T b).2.1) (k : Nat) (hk : k < N) (hd : (T k).1 = C) (hfin : (T k).2.2.2 = false) (hl : Cond.fieldLinkNest own index C (T k).2.1 (T k).2.2.1 host ∈ zw_NS) (hpd : parseFieldDescriptor (T k).2.2.1 = some ty) (hn : narrow ty v = v) (hfit : fits ty v = true) (hlf : k < fs.length) (hdg : decode cc pc = .ok (.putfield index, 3))
    (kk : ∀ (H1 : Heap) (locs1 : List Loc), va_P G.1 zw_cl (zw_l B n (va_up f x (.inr (ci, fs.set k v)))) H1 → va_S A H0 H1 locs1 → W p l e R s m args below meth c H1 locs1 cells slots Q (F0 m (pc + 3) ls rest)) : W p l e R s m args below meth c H locs cells slots Q (F0 m pc ls (v :: .ref (B + x) :: rest)) :=
  va_putN F.1 F.2.1 F.2.2.2.2 hin ty0 hty hnm F.2.2.2.1 hE.1 hP (zw_D hA) hS x (by rw [zw_get hx, he]) hc k hk (va_Nw.use rfl (hE.2 _ hl)) (fun z hz => by rw [hd] at hz; exact hz) hfin hpd hn hfit hlf hdg (fun H1 locs1 h1 _ h3 => kk H1 locs1 (by rw [zw_set] at h1; exact h1) h3)
/-- arrays, at a place that is a number -/
theorem zw_iald {N : Nat} {g : Nat → Int32} (F : CallFix p m c cc nL s args zw_WS own) (hE : zw_E G s) (hP : va_P G.1 zw_cl (zw_l B n f) H) {x : Nat} (hx : x < n) (he : f x = .inl (G.2 0, N, .inl g)) {k : Nat} (hk : k < N) (hN : N < 2 ^ 31) (hdg : decode cc pc = .ok (.iaload, 1))
    (kk : W p l e R s m args below meth c H locs cells slots Q (F0 m (pc + 1) ls (.int (g k) :: rest))) : W p l e R s m args below meth c H locs cells slots Q (F0 m pc ls (.int (nI k) :: .ref (B + x) :: rest)) :=
  va_iald F.1 F.2.1 hE.1 hP x 0 (by rw [zw_get hx, he]) rfl (vp_in_nI hk hN) hdg (by rw [nI_clamp (Nat.lt_trans hk hN)]; exact kk)
theorem zw_zald {N : Nat} {g : Nat → Int32} (F : CallFix p m c cc nL s args zw_WS own) (hE : zw_E G s) (hP : va_P G.1 zw_cl (zw_l B n f) H) {x : Nat} (hx : x < n) (he : f x = .inl (G.2 1, N, .inl g)) {k : Nat} (hk : k < N) (hN : N < 2 ^ 31) (hdg : decode cc pc = .ok (.baload, 1))
    (kk : W p l e R s m args below meth c H locs cells slots Q (F0 m (pc + 1) ls (.int (g k) :: rest))) : W p l e R s m args below meth c H locs cells slots Q (F0 m pc ls (.int (nI k) :: .ref (B + x) :: rest)) :=
  va_zald F.1 F.2.1 hE.1 hP x 1 (by rw [zw_get hx, he]) rfl (vp_in_nI hk hN) hdg (by rw [nI_clamp (Nat.lt_trans hk hN)]; exact kk)
theorem zw_iast {N : Nat} {g : Nat → Int32} {v : Int32} (F : CallFix p m c cc nL s args zw_WS own) (hE : zw_E G s) (hP : va_P G.1 zw_cl (zw_l B n f) H) (hS : va_S A H0 H locs) (hA : ∀ q, zw_A B n q → A q) {x : Nat} (hx : x < n) (he : f x = .inl (G.2 0, N, .inl g)) {k : Nat} (hk : k < N) (hN : N < 2 ^ 31) (hdg : decode cc pc = .ok (.iastore, 1))
    (kk : ∀ (H1 : Heap) (locs1 : List Loc), va_P G.1 zw_cl (zw_l B n (va_up f x (.inl (G.2 0, N, .inl (upd g k v))))) H1 → va_S A H0 H1 locs1 → W p l e R s m args below meth c H1 locs1 cells slots Q (F0 m (pc + 1) ls rest)) : W p l e R s m args below meth c H locs cells slots Q (F0 m pc ls (.int v :: .int (nI k) :: .ref (B + x) :: rest)) :=
  va_iast F.1 F.2.1 hE.1 hP (zw_D hA) hS x 0 (by rw [zw_get hx, he]) rfl (vp_in_nI hk hN) hdg (fun H1 locs1 h1 _ h3 => kk H1 locs1 (by rw [zw_set, nI_clamp (Nat.lt_trans hk hN)] at h1; exact h1) h3)
theorem zw_zast {N : Nat} {g : Nat → Int32} {v : Int32} (F : CallFix p m c cc nL s args zw_WS own) (hE : zw_E G s) (hP : va_P G.1 zw_cl (zw_l B n f) H) (hS : va_S A H0 H locs) (hA : ∀ q, zw_A B n q → A q) {x : Nat} (hx : x < n) (he : f x = .inl (G.2 1, N, .inl g)) {k : Nat} (hk : k < N) (hN : N < 2 ^ 31) (h01 : v = 0 ∨ v = 1) (hdg : decode cc pc = .ok (.bastore, 1))
    (kk : ∀ (H1 : Heap) (locs1 : List Loc), va_P G.1 zw_cl (zw_l B n (va_up f x (.inl (G.2 1, N, .inl (upd g k v))))) H1 → va_S A H0 H1 locs1 → W p l e R s m args below meth c H1 locs1 cells slots Q (F0 m (pc + 1) ls rest)) : W p l e R s m args below meth c H locs cells slots Q (F0 m pc ls (.int v :: .int (nI k) :: .ref (B + x) :: rest)) := by
  have hv : vp_nar .boolean v = v := by rcases h01 with rfl | rfl <;> rfl
  exact va_zast F.1 F.2.1 hE.1 hP (zw_D hA) hS x 1 (by rw [zw_get hx, he]) rfl (vp_in_nI hk hN) hdg (fun H1 locs1 h1 _ h3 => kk H1 locs1 (by rw [zw_set, nI_clamp (Nat.lt_trans hk hN), hv] at h1; exact h1) h3)
/-- arrays of references -/
theorem zw_aald {N t : Nat} {g : Nat → Option Nat} {cA : ClassId} {ty : FieldType} {a : Nat} (F : CallFix p m c cc nL s args zw_WS own) (hE : zw_E G s) (hP : va_P G.1 zw_cl (zw_l B n f) H) {x : Nat} (hx : x < n) (he : f x = .inl (cA, N, .inr (.inr (.inr (.inr g))))) (ht : (zw_ty G.2)[t]? = some (cA, ty)) (hty : ty.isReference = true) {k : Nat} (hk : k < N) (hN : N < 2 ^ 31) (hg : g k = some a) (hdg : decode cc pc = .ok (.aaload, 1))
    (kk : W p l e R s m args below meth c H locs cells slots Q (F0 m (pc + 1) ls (.ref a :: rest))) : W p l e R s m args below meth c H locs cells slots Q (F0 m pc ls (.int (nI k) :: .ref (B + x) :: rest)) := by
  have hcl := nI_clamp (Nat.lt_trans hk hN)
  have hcell : H[B + x]? = some (vp_cell cA (N, .inr (.inr (.inr (.inr g))))) := hP x (B + x, .inl (cA, N, .inr (.inr (.inr (.inr g))))) (by rw [zw_get hx, he])
  refine W.aald (v := .ref a) (ty := ty) F.1 F.2.1 hcell ((hE.1.2 t _ ht).1 N (fun j => va_rf (g j))) hty (fun q => by cases q) (by show ¬ (_ ∨ (arrV _ _ _).slots.size ≤ _); rw [arrV_size]; exact nI_in hk hN) (by show (arrV _ _ _).slots[_]? = _; rw [hcl, arrV_read _ _ hk, hg]; rfl) rfl rfl hdg kk
end ZWR
/-! rows on numbers -/
section ZNR
variable {p : Program} {l : Launch} {e : Env} {R : Room} {s : State} {m : MethodId} {args : Array Value} {below : List Frame} {meth : Method} {c : Code} {H : Heap} {locs : List Loc} {cells slots : Nat} {Q : State → Prop}
variable {cc : ByteArray} {pc nL : Nat} {ls : Array Slot} {rest : List Value} {Ts : List Cond} {own : String}
theorem zn_top {x y : Int32} (h : x = y) (k : W p l e R s m args below meth c H locs cells slots Q (F0 m pc ls (.int y :: rest))) : W p l e R s m args below meth c H locs cells slots Q (F0 m pc ls (.int x :: rest)) := h ▸ k
theorem zn_top2 {x y : Int32} {w : Value} (h : x = y) (k : W p l e R s m args below meth c H locs cells slots Q (F0 m pc ls (w :: .int y :: rest))) : W p l e R s m args below meth c H locs cells slots Q (F0 m pc ls (w :: .int x :: rest)) := h ▸ k
theorem zn_iadd {a b : Nat} (F : CallFix p m c cc nL s args Ts own) (hdg : decode cc pc = .ok (.iadd, 1)) (k : W p l e R s m args below meth c H locs cells slots Q (F0 m (pc + 1) ls (.int (nI (a + b)) :: rest))) : W p l e R s m args below meth c H locs cells slots Q (F0 m pc ls (.int (nI b) :: .int (nI a) :: rest)) := lv_iadd F.1 F.2.1 hdg (by rw [nI_add]; exact k)
theorem zn_imul {a b : Nat} (F : CallFix p m c cc nL s args Ts own) (hdg : decode cc pc = .ok (.imul, 1)) (k : W p l e R s m args below meth c H locs cells slots Q (F0 m (pc + 1) ls (.int (nI (a * b)) :: rest))) : W p l e R s m args below meth c H locs cells slots Q (F0 m pc ls (.int (nI b) :: .int (nI a) :: rest)) := lv_imul F.1 F.2.1 hdg (by rw [pk_mul]; exact k)
theorem zn_isub {a b : Nat} (F : CallFix p m c cc nL s args Ts own) (hdg : decode cc pc = .ok (.isub, 1)) (h : b ≤ a) (k : W p l e R s m args below meth c H locs cells slots Q (F0 m (pc + 1) ls (.int (nI (a - b)) :: rest))) : W p l e R s m args below meth c H locs cells slots Q (F0 m pc ls (.int (nI b) :: .int (nI a) :: rest)) := lv_isub F.1 F.2.1 hdg (by rw [pk_sub h]; exact k)
theorem zn_idiv {a b : Nat} (F : CallFix p m c cc nL s args Ts own) (hdg : decode cc pc = .ok (.idiv, 1)) (ha : a < 2 ^ 31) (h0 : 0 < b) (hb : b < 2 ^ 31) (k : W p l e R s m args below meth c H locs cells slots Q (F0 m (pc + 1) ls (.int (nI (a / b)) :: rest))) : W p l e R s m args below meth c H locs cells slots Q (F0 m pc ls (.int (nI b) :: .int (nI a) :: rest)) := lv_idiv F.1 F.2.1 hdg (nI_ne0 h0 hb) (by rw [pk_div ha h0 hb]; exact k)
theorem zn_irem {a b : Nat} (F : CallFix p m c cc nL s args Ts own) (hdg : decode cc pc = .ok (.irem, 1)) (ha : a < 2 ^ 31) (h0 : 0 < b) (hb : b < 2 ^ 31) (k : W p l e R s m args below meth c H locs cells slots Q (F0 m (pc + 1) ls (.int (nI (a % b)) :: rest))) : W p l e R s m args below meth c H locs cells slots Q (F0 m pc ls (.int (nI b) :: .int (nI a) :: rest)) := lv_irem F.1 F.2.1 hdg (nI_ne0 h0 hb) (by rw [pk_rem ha h0 hb]; exact k)
theorem zn_clt {a b : Nat} {off : Int} {tgt : Nat} (F : CallFix p m c cc nL s args Ts own) (hdg : decode cc pc = .ok (.if_icmp .lt off, 3)) (ht : (pc : Int) + off = (tgt : Int)) (ha : a < 2 ^ 31) (hb : b < 2 ^ 31) (kt : a < b → W p l e R s m args below meth c H locs cells slots Q (F0 m tgt ls rest)) (kf : ¬ a < b → W p l e R s m args below meth c H locs cells slots Q (F0 m (pc + 3) ls rest)) : W p l e R s m args below meth c H locs cells slots Q (F0 m pc ls (.int (nI b) :: .int (nI a) :: rest)) := lv_icmp_lt F.1 F.2.1 hdg ht (fun h => kt ((nI_ltI ha hb).mp h)) (fun h => kf (fun q => h ((nI_ltI ha hb).mpr q)))
theorem zn_cge {a b : Nat} {off : Int} {tgt : Nat} (F : CallFix p m c cc nL s args Ts own) (hdg : decode cc pc = .ok (.if_icmp .ge off, 3)) (ht : (pc : Int) + off = (tgt : Int)) (ha : a < 2 ^ 31) (hb : b < 2 ^ 31) (kt : b ≤ a → W p l e R s m args below meth c H locs cells slots Q (F0 m tgt ls rest)) (kf : ¬ b ≤ a → W p l e R s m args below meth c H locs cells slots Q (F0 m (pc + 3) ls rest)) : W p l e R s m args below meth c H locs cells slots Q (F0 m pc ls (.int (nI b) :: .int (nI a) :: rest)) := lv_icmp_ge F.1 F.2.1 hdg ht (fun h => kt ((nI_leI hb ha).mp h)) (fun h => kf (fun q => h ((nI_leI hb ha).mpr q)))
theorem zn_cgt {a b : Nat} {off : Int} {tgt : Nat} (F : CallFix p m c cc nL s args Ts own) (hdg : decode cc pc = .ok (.if_icmp .gt off, 3)) (ht : (pc : Int) + off = (tgt : Int)) (ha : a < 2 ^ 31) (hb : b < 2 ^ 31) (kt : b < a → W p l e R s m args below meth c H locs cells slots Q (F0 m tgt ls rest)) (kf : ¬ b < a → W p l e R s m args below meth c H locs cells slots Q (F0 m (pc + 3) ls rest)) : W p l e R s m args below meth c H locs cells slots Q (F0 m pc ls (.int (nI b) :: .int (nI a) :: rest)) := lv_icmp_gt F.1 F.2.1 hdg ht (fun h => kt ((nI_ltI hb ha).mp h)) (fun h => kf (fun q => h ((nI_ltI hb ha).mpr q)))
theorem zn_cle {a b : Nat} {off : Int} {tgt : Nat} (F : CallFix p m c cc nL s args Ts own) (hdg : decode cc pc = .ok (.if_icmp .le off, 3)) (ht : (pc : Int) + off = (tgt : Int)) (ha : a < 2 ^ 31) (hb : b < 2 ^ 31) (kt : a ≤ b → W p l e R s m args below meth c H locs cells slots Q (F0 m tgt ls rest)) (kf : ¬ a ≤ b → W p l e R s m args below meth c H locs cells slots Q (F0 m (pc + 3) ls rest)) : W p l e R s m args below meth c H locs cells slots Q (F0 m pc ls (.int (nI b) :: .int (nI a) :: rest)) := lv_icmp_le F.1 F.2.1 hdg ht (fun h => kt ((nI_leI ha hb).mp h)) (fun h => kf (fun q => h ((nI_leI ha hb).mpr q)))
theorem zn_ceq {a b : Nat} {off : Int} {tgt : Nat} (F : CallFix p m c cc nL s args Ts own) (hdg : decode cc pc = .ok (.if_icmp .eq off, 3)) (ht : (pc : Int) + off = (tgt : Int)) (ha : a < 2 ^ 31) (hb : b < 2 ^ 31) (kt : a = b → W p l e R s m args below meth c H locs cells slots Q (F0 m tgt ls rest)) (kf : ¬ a = b → W p l e R s m args below meth c H locs cells slots Q (F0 m (pc + 3) ls rest)) : W p l e R s m args below meth c H locs cells slots Q (F0 m pc ls (.int (nI b) :: .int (nI a) :: rest)) := lv_icmp_eq F.1 F.2.1 hdg ht (fun h => kt ((nI_eq ha hb).mp h)) (fun h => kf (fun q => h ((nI_eq ha hb).mpr q)))
theorem zn_cne {a b : Nat} {off : Int} {tgt : Nat} (F : CallFix p m c cc nL s args Ts own) (hdg : decode cc pc = .ok (.if_icmp .ne off, 3)) (ht : (pc : Int) + off = (tgt : Int)) (ha : a < 2 ^ 31) (hb : b < 2 ^ 31) (kt : ¬ a = b → W p l e R s m args below meth c H locs cells slots Q (F0 m tgt ls rest)) (kf : a = b → W p l e R s m args below meth c H locs cells slots Q (F0 m (pc + 3) ls rest)) : W p l e R s m args below meth c H locs cells slots Q (F0 m pc ls (.int (nI b) :: .int (nI a) :: rest)) := lv_icmp_ne F.1 F.2.1 hdg ht (fun h => kt (fun q => h ((nI_eq ha hb).mpr q))) (fun h => kf ((nI_eq ha hb).mp h))
def zn_b (q : Prop) [Decidable q] : Int32 := if q then 1 else 0
theorem zn_b1 {q : Prop} [Decidable q] (h : q) : zn_b q = 1 := if_pos h
theorem zn_b0 {q : Prop} [Decidable q] (h : ¬ q) : zn_b q = 0 := if_neg h
theorem zn_b01 (q : Prop) [Decidable q] : zn_b q = 0 ∨ zn_b q = 1 := by
  by_cases h : q
  · exact Or.inr (zn_b1 h)
  · exact Or.inl (zn_b0 h)
theorem zn_beq (F : CallFix p m c cc nL s args Ts own) {q : Prop} [Decidable q] {off : Int} {tgt : Nat} (hdg : decode cc pc = .ok (.ifCond .eq off, 3)) (ht : (pc : Int) + off = (tgt : Int)) (kt : ¬ q → W p l e R s m args below meth c H locs cells slots Q (F0 m tgt ls rest)) (kf : q → W p l e R s m args below meth c H locs cells slots Q (F0 m (pc + 3) ls rest)) : W p l e R s m args below meth c H locs cells slots Q (F0 m pc ls (.int (zn_b q) :: rest)) := by
  refine lv_if_eq F.1 F.2.1 hdg ht (fun h => kt (fun z => ?_)) (fun h => kf ?_)
  · rw [zn_b1 z] at h
    exact absurd h (by decide)
  · by_cases z : q
    · exact z
    · exact absurd (zn_b0 z) h
theorem zn_bne (F : CallFix p m c cc nL s args Ts own) {q : Prop} [Decidable q] {off : Int} {tgt : Nat} (hdg : decode cc pc = .ok (.ifCond .ne off, 3)) (ht : (pc : Int) + off = (tgt : Int)) (kt : q → W p l e R s m args below meth c H locs cells slots Q (F0 m tgt ls rest)) (kf : ¬ q → W p l e R s m args below meth c H locs cells slots Q (F0 m (pc + 3) ls rest)) : W p l e R s m args below meth c H locs cells slots Q (F0 m pc ls (.int (zn_b q) :: rest)) := by
  refine lv_if_ne F.1 F.2.1 hdg ht (fun h => kt ?_) (fun h => kf (fun z => ?_))
  · by_cases z : q
    · exact z
    · exact absurd (zn_b0 z) h
  · rw [zn_b1 z] at h
    exact absurd h (by decide)
end ZNR
