theorem zx_arrV {c : ClassId} {n : Nat} {f g : Nat → Value} (h : ∀ j, j < n → f j = g j) : arrV c n f = arrV c n g := by
  unfold arrV
  congr 2
  exact funext fun j => h j.1 j.2
theorem zx_id {α : Type} {f : Nat → α} {a : Nat} {e : α} (h : f a = e) : va_up f a e = f := by
  funext x
  by_cases hx : x = a
  · subst hx
    rw [va_up_self, h]
  · rw [va_up_ne _ _ hx]
theorem zx_uu {α : Type} {f : Nat → α} {a : Nat} {e e' : α} : va_up (va_up f a e) a e' = va_up f a e' := by
  funext x
  by_cases hx : x = a
  · subst hx
    rw [va_up_self, va_up_self]
  · rw [va_up_ne _ _ hx, va_up_ne _ _ hx, va_up_ne _ _ hx]
theorem zx_uc {α : Type} {f : Nat → α} {a b : Nat} {e e' : α} (h : a ≠ b) : va_up (va_up f b e) a e' = va_up (va_up f a e') b e := by
  funext x
  by_cases hx : x = a
  · subst hx
    rw [va_up_self, va_up_ne _ _ h, va_up_self]
  · rw [va_up_ne _ _ hx]
    by_cases hb : x = b
    · subst hb
      rw [va_up_self, va_up_self]
    · rw [va_up_ne _ _ hb, va_up_ne _ _ hb, va_up_ne _ _ hx]
theorem zx_refs {D : va_G} {cl : List vw_C} {B k x N : Nat} {f : Nat → va_E} {cA : ClassId} {g g' : Nat → Option Nat} {H : Heap} (hP : va_P D cl (zw_l B k f) H) (he : f x = .inl (cA, N, .inr (.inr (.inr (.inr g))))) (hg : ∀ j, j < N → g j = g' j) : va_P D cl (zw_l B k (va_up f x (.inl (cA, N, .inr (.inr (.inr (.inr g'))))))) H := by
  intro n q hq
  obtain ⟨hn, rfl⟩ := zw_some hq
  have h := hP n _ (zw_get hn)
  by_cases e : n = x
  · subst e
    rw [va_up_self]
    rw [he] at h
    have h' : H[B + n]? = some (vp_cell cA (N, .inr (.inr (.inr (.inr g))))) := h
    show H[B + n]? = some (vp_cell cA (N, .inr (.inr (.inr (.inr g')))))
    rw [h', vp_cell_q, vp_cell_q]
    exact congrArg some (zx_arrV (fun j hj => by rw [hg j hj]))
  · rw [va_up_ne _ _ e]
    exact h
theorem zx_set {D : va_G} {cl : List vw_C} {B k x : Nat} {f : Nat → va_E} {e : va_E} {H H1 : Heap} (hP : va_P D cl (zw_l B k f) H) (hnew : va_at D cl (B + x, e) H1) (oq : ∀ q : Nat, q ≠ B + x → H1[q]? = H[q]?) : va_P D cl (zw_l B k (va_up f x e)) H1 := by
  intro n q hq
  obtain ⟨hn', rfl⟩ := zw_some hq
  by_cases hnx : n = x
  · subst hnx
    rw [va_up_self]
    exact hnew
  · rw [va_up_ne _ _ hnx]
    exact (hP n _ (zw_get hn')).kept (oq (B + n) (fun h => hnx (Nat.add_left_cancel h)))
section ZXR2
variable {p : Program} {l : Launch} {e : Env} {R : Room} {s : State} {m : MethodId} {args : Array Value} {below : List Frame} {meth : Method} {c : Code} {H : Heap} {locs : List Loc} {cells slots : Nat} {Q : State → Prop}
variable {cc : ByteArray} {pc nL : Nat} {ls : Array Slot} {rest st0 : List Value} {A : Nat → Prop} {H0 : Heap} {G : zw_G} {B k : Nat} {f : Nat → va_E} {own : String} {index : Nat}
theorem zx_iast {N x j : Nat} {g : Nat → Int32} {v : Int32} (F : CallFix p m c cc nL s args zw_WS own) (hE : zw_E G s) (hP : va_P G.1 zw_cl (zw_l B k f) H) (hz : H.size = B + k) (hS : va_S A H0 H locs) (hx : x < k) (hAx : A (B + x)) (he : f x = .inl (G.2 0, N, .inl g)) (hj : j < N) (hN : N < 2 ^ 31) (hdg : decode cc pc = .ok (.iastore, 1))
    (kk : ∀ (H1 : Heap) (locs1 : List Loc), va_P G.1 zw_cl (zw_l B k (va_up f x (.inl (G.2 0, N, .inl (upd g j v))))) H1 → H1.size = B + k → va_S A H0 H1 locs1 → W p l e R s m args below meth c H1 locs1 cells slots Q (F0 m (pc + 1) ls rest)) : W p l e R s m args below meth c H locs cells slots Q (F0 m pc ls (.int v :: .int (nI j) :: .ref (B + x) :: rest)) := by
  have hin := vp_in_nI hj hN
  have hcl := nI_clamp (Nat.lt_trans hj hN)
  have hcell : H[B + x]? = some (vp_cell (G.2 0) (N, .inl g)) := hP x (B + x, .inl (G.2 0, N, .inl g)) (by rw [zw_get hx, he])
  refine W.iast F.1 F.2.1 hcell ((hE.1.2 0 _ rfl).1 N (fun j => .int (g j))) (fun q => by cases q) (by show ¬ (nI j < 0 ∨ (arrV _ _ _).slots.size ≤ _); rw [arrV_size]; exact hin) rfl rfl hdg fun H1 e z oq => ?_
  refine kk H1 _ (zx_set hP ?_ oq) (by rw [z]; exact hz) (hS.put z oq hAx)
  show H1[B + x]? = some (vp_cell _ _)
  rw [e]
  rw [vp_cell_i, vp_cell_i, arrV_store, hcl]
  congr 2
  funext q
  by_cases hq : q = j
  · subst hq
    simp [updV, upd]
  · simp [updV, upd, hq]
theorem zx_put {C : String} {Tb : u_T} {N ci : Nat} {fs : List Value} {v : Value} {ty : FieldType} (F : CallFix p m c cc nL s args zw_WS own) (hE : zw_E G s) (hP : va_P G.1 zw_cl (zw_l B k f) H) (hz : H.size = B + k) (hS : va_S A H0 H locs) {x : Nat} (hx : x < k) (hAx : A (B + x)) (he : f x = .inr (ci, fs)) (hc : zw_cl[ci]? = some (C, Tb, N)) (hin : ∀ w ∈ u_ws C Tb N, w ∈ zw_WS) (ty0 : Nat → FieldType) (hty : ∀ k, k < N → parseFieldDescriptor (Tb k).2.2.1 = some (ty0 k)) (hnm : ∀ a, a < N → ∀ b, b < N → a ≠ b → (Tb a).2.1 ≠ (Tb b).2.1) (j : Nat) (hj : j < N) (hd : (Tb j).1 = C) (hfin : (Tb j).2.2.2 = false) (hl : Cond.fieldLink own index C (Tb j).2.1 (Tb j).2.2.1 ∈ zw_WS) (hpd : parseFieldDescriptor (Tb j).2.2.1 = some ty) (hn : narrow ty v = v) (hfit : fits ty v = true) (hlf : j < fs.length) (hdg : decode cc pc = .ok (.putfield index, 3))
    (kk : ∀ (H1 : Heap) (locs1 : List Loc), va_P G.1 zw_cl (zw_l B k (va_up f x (.inr (ci, fs.set j v)))) H1 → H1.size = B + k → va_S A H0 H1 locs1 → W p l e R s m args below meth c H1 locs1 cells slots Q (F0 m (pc + 3) ls rest)) : W p l e R s m args below meth c H locs cells slots Q (F0 m pc ls (v :: .ref (B + x) :: rest)) := by
  obtain ⟨hx0, hb, hml, hown, hts⟩ := F
  have hap := va_apart (own := own) hts hin ty0 hty hnm hE.1 hc
  obtain ⟨r, h1, cell, q1, q2, q3, q4⟩ := hP x _ (by rw [zw_get hx, he])
  have hr : r = (C, Tb, N) := Option.some.inj (h1.symm.trans hc)
  subst hr
  obtain ⟨hSl, hfc, kC, hkC, hkind⟩ := hE.1.1 ci _ hc
  obtain ⟨cf, kf, fi, fd, hi, hsl⟩ := hSl j hj
  have hlay := hts _ (hin _ (u_in_lay hj))
  unfold u_lay at hlay
  rw [if_neg (by rw [hfin]; decide)] at hlay
  have hst := (u_facts hfc hkC (u_lays hts hin hj) hi).1
  have h6 := u_store hfc hkC hkind hlay hi hpd hn hfit
  refine W.putK hx0 hb (f := fd) ⟨hown, hts _ hl, ⟨_, _, _, by rw [hd] at hi; exact hi⟩, hst⟩ (by rw [q2]; exact h6) q1 q3 (by rw [hsl]; exact k2_hasslot (q4 j hj)) rfl rfl hdg fun H' e1 e2 e3 => ?_
  rw [hsl] at e1 ⊢
  have hnew : va_at G.1 zw_cl (B + x, .inr (ci, fs.set j v)) H' := ⟨_, hc, t_OB.to (V := updV (vp_V fs) j v) ⟨_, e1, q2, q3, t_set q4 hap hj v⟩ (fun z _ => vp_updV_set hlf v z)⟩
  exact kk H' _ (zx_set hP hnew e3) (by rw [e2]; exact hz) (hS.put e2 e3 hAx)
end ZXR2
/-! the first states -/
def zs_pt (x : Int32) : Int32 := if x < nI 1 then nI 4 else (if nI 16 < x then nI 4 else x)
def zs_0 (x : Int32) : zs_S := fun t _ _ => match t with
  | 0 => fun _ => x
  | 12 => upd (fun _ => 0) 0 (nI 1000)
  | 18 => fun k => match k with
    | 1 => nI 1
    | _ => 0
  | _ => fun _ => 0
def zt_0 (x : Int32) : zs_T := fun a => match a with
  | 0 => fun _ => x
  | 10 => upd (upd (upd (upd (upd (upd (fun _ => 0) 0 (nI 1)) 1 (nI 1)) 2 (nI 1)) 3 (nI 1)) 4 (nI 1)) 5 (nI 1)
  | 11 => upd (upd (upd (upd (upd (upd (fun _ => 0) 0 (nI 1)) 1 (nI 1)) 2 (nI 1)) 3 (nI 1)) 4 (nI 1)) 5 (nI 1)
  | 19 => upd (upd (upd (upd (upd (upd (upd (upd (fun _ => 0) 0 (nI 1000)) 6 (nI 1000)) 12 (nI 1000)) 18 (nI 1000)) 24 (nI 1000)) 30 (nI 1000)) 36 (nI 1000)) 42 (nI 1000)
  | _ => fun _ => 0
def zx_rf (a d n : Nat) : Nat → Option Nat := fun j => if j < n then some (a + d * j) else none
theorem zx_rf0 (a d : Nat) : (fun _ => none : Nat → Option Nat) = zx_rf a d 0 := by
  funext j
  simp [zx_rf]
theorem zx_rfs {a d n n' v : Nat} (h : v = a + d * n) (hn : n' = n + 1) : va_up (zx_rf a d n) n (some v) = zx_rf a d n' := by
  subst hn
  funext j
  unfold zx_rf
  by_cases hj : j = n
  · subst hj
    rw [va_up_self, if_pos (Nat.lt_succ_self _), h]
  · rw [va_up_ne _ _ hj]
    by_cases h1 : j < n
    · rw [if_pos h1, if_pos (by omega)]
    · rw [if_neg h1, if_neg (by omega)]
theorem zx_ne {k a b : Nat} (h : a ≠ b) : k + a ≠ k + b := fun q => h (Nat.add_left_cancel q)
theorem zx_neL {k b : Nat} (h : 0 < b) : k ≠ k + b := Nat.ne_of_lt (Nat.lt_add_of_pos_right h)
theorem zx_neR {k b : Nat} (h : 0 < b) : k + b ≠ k := Nat.ne_of_gt (Nat.lt_add_of_pos_right h)
theorem zx_lt {k a b : Nat} (h : a < b) : k + a < k + b := Nat.add_lt_add_left h k
theorem zx_lt0 {k b : Nat} (h : 0 < b) : k < k + b := Nat.lt_add_of_pos_right h
theorem zx_leK {b k a : Nat} : b + k ≤ b + (k + a) := Nat.add_le_add_left (Nat.le_add_right k a) b
theorem zx_leC {b k a : Nat} (h : k ≤ a) : b + k ≤ b + a := Nat.add_le_add_left h b
theorem zx_rv {b k a m d n : Nat} (h : m = a + d * n) : b + (k + m) = b + (k + a) + d * n := by omega
theorem zx_rv0 {b a m d n : Nat} (h : m = a + d * n) : b + m = b + a + d * n := by omega
