/-! the states, and the pictures of the two systems' cells -/
abbrev zs_S : Type := Nat → Nat → Nat → Nat → Int32
def zs_u (S : zs_S) (t i j k : Nat) (v : Int32) : zs_S := fun t' i' j' k' => if t' = t ∧ i' = i ∧ j' = j ∧ k' = k then v else S t' i' j' k'
theorem zs_us {S : zs_S} {t i j k : Nat} {v : Int32} : zs_u S t i j k v t i j k = v := by simp [zs_u]
theorem zs_un {S : zs_S} {t i j k t' i' j' k' : Nat} {v : Int32} (h : ¬ (t' = t ∧ i' = i ∧ j' = j ∧ k' = k)) : zs_u S t i j k v t' i' j' k' = S t' i' j' k' := by simp only [zs_u, if_neg h]
theorem zs_ut {S : zs_S} {t i j k t' i' j' k' : Nat} {v : Int32} (h : ¬ t' = t) : zs_u S t i j k v t' i' j' k' = S t' i' j' k' := zs_un (fun q => h q.1)
theorem zs_uk {S : zs_S} {t i j k t' i' j' k' : Nat} {v : Int32} (h : ¬ k' = k) : zs_u S t i j k v t' i' j' k' = S t' i' j' k' := zs_un (fun q => h q.2.2.2)
theorem zs_ucell {S : zs_S} {t i j k : Nat} {v : Int32} : zs_u S t i j k v t i j = upd (S t i j) k v := by
  funext k'
  by_cases h : k' = k
  · subst h
    rw [zs_us, pk_us]
  · rw [zs_uk h, pk_un h]
theorem zs_uother {S : zs_S} {t i j k t' i' j' : Nat} {v : Int32} (h : ¬ (t' = t ∧ i' = i ∧ j' = j)) : zs_u S t i j k v t' i' j' = S t' i' j' := by
  funext k'
  exact zs_un (fun q => h ⟨q.1, q.2.1, q.2.2.1⟩)
abbrev zs_T : Type := Nat → Nat → Int32
def zs_w (T : zs_T) (x k : Nat) (v : Int32) : zs_T := fun x' k' => if x' = x ∧ k' = k then v else T x' k'
theorem zs_ws {T : zs_T} {x k : Nat} {v : Int32} : zs_w T x k v x k = v := by simp [zs_w]
theorem zs_wn {T : zs_T} {x k x' k' : Nat} {v : Int32} (h : ¬ (x' = x ∧ k' = k)) : zs_w T x k v x' k' = T x' k' := by simp only [zs_w, if_neg h]
theorem zs_wx {T : zs_T} {x k x' k' : Nat} {v : Int32} (h : ¬ x' = x) : zs_w T x k v x' k' = T x' k' := zs_wn (fun q => h q.1)
theorem zs_wk {T : zs_T} {x k x' k' : Nat} {v : Int32} (h : ¬ k' = k) : zs_w T x k v x' k' = T x' k' := zs_wn (fun q => h q.2)
theorem zs_wcell {T : zs_T} {x k : Nat} {v : Int32} : zs_w T x k v x = upd (T x) k v := by
  funext k'
  by_cases h : k' = k
  · subst h
    rw [zs_ws, pk_us]
  · rw [zs_wk h, pk_un h]
theorem zs_wother {T : zs_T} {x k x' : Nat} {v : Int32} (h : ¬ x' = x) : zs_w T x k v x' = T x' := by
  funext k'
  exact zs_wx h
/-- where a cell of the class lies: its kind, its ledger, its number there -/
def zp_o (t i j : Nat) : Nat := match t with
  | 0 => 0
  | 1 => 1
  | 2 => 2 + 87 * i
  | 3 => 3 + 87 * i + (if j = 0 then 0 else 17 + 3 * j)
  | 4 => 4 + 87 * i + (if j = 0 then 0 else 17 + 3 * j)
  | 5 => 5 + 87 * i + (if j = 0 then 0 else 17 + 3 * j)
  | 6 => 6 + 87 * i
  | 7 => 7 + 87 * i
  | 8 => 8 + 87 * i
  | 9 => 9 + 87 * i
  | 10 => 10 + 87 * i
  | 11 => 11 + 87 * i
  | 12 => 12 + 87 * i + j
  | 13 => 16 + 87 * i
  | 14 => 17 + 87 * i + j
  | 15 => 20 + 87 * i
  | 16 => 21 + 87 * i
  | 17 => 22 + 87 * i
  | 18 => 47 + 87 * i + 14 * j
  | 19 => 48 + 87 * i + 14 * j
  | _ => 49 + 87 * i + 14 * (j / 12) + j % 12
def zp_ni (t : Nat) : Nat := match t with
  | 0 => 1
  | 1 => 1
  | _ => 2
def zp_nj (t : Nat) : Nat := match t with
  | 3 => 9
  | 4 => 9
  | 5 => 9
  | 12 => 4
  | 14 => 3
  | 18 => 3
  | 19 => 3
  | 20 => 36
  | _ => 1
def zp_k (t i j : Nat) : Prop := t < 21 ∧ i < zp_ni t ∧ j < zp_nj t
def zp_d (x : Nat) : Nat × Nat × Nat :=
  if x < 2 then (x, 0, 0) else
  if (x - 2) % 87 < 10 then (2 + (x - 2) % 87, (x - 2) / 87, 0) else
  if (x - 2) % 87 < 14 then (12, (x - 2) / 87, (x - 2) % 87 - 10) else
  if (x - 2) % 87 < 15 then (13, (x - 2) / 87, 0) else
  if (x - 2) % 87 < 18 then (14, (x - 2) / 87, (x - 2) % 87 - 15) else
  if (x - 2) % 87 < 21 then ((x - 2) % 87 - 3, (x - 2) / 87, 0) else
  if (x - 2) % 87 < 45 then (3 + ((x - 2) % 87 - 21) % 3, (x - 2) / 87, 1 + ((x - 2) % 87 - 21) / 3) else
  if ((x - 2) % 87 - 45) % 14 < 2 then (18 + ((x - 2) % 87 - 45) % 14, (x - 2) / 87, ((x - 2) % 87 - 45) / 14) else
  (20, (x - 2) / 87, 12 * (((x - 2) % 87 - 45) / 14) + (((x - 2) % 87 - 45) % 14 - 2))
theorem zp_do0 : ∀ t, t < 21 → ∀ i, i < zp_ni t → ∀ j, j < zp_nj t → zp_d (zp_o t i j) = (t, i, j) ∧ zp_o t i j < 176 := by decide +kernel
theorem zp_od : ∀ x, x < 176 → zp_o (zp_d x).1 (zp_d x).2.1 (zp_d x).2.2 = x := by decide +kernel
theorem zp_do {t i j : Nat} (h : zp_k t i j) : zp_d (zp_o t i j) = (t, i, j) := (zp_do0 t h.1 i h.2.1 j h.2.2).1
theorem zp_lt {t i j : Nat} (h : zp_k t i j) : zp_o t i j < 176 := (zp_do0 t h.1 i h.2.1 j h.2.2).2
/-- a cell of the class: numbers g, references that never change; G.2: the classes of arrays -/
def zp_c (G : zw_G) (B t i j : Nat) (g : Nat → Int32) : va_E := match t with
  | 0 => .inr (0, [.int (g 0), .ref (B + zp_o 1 0 0)])
  | 1 => .inl (G.2 2, 2, .inr (.inr (.inr (.inr (fun k => some (B + zp_o 2 k 0))))))
  | 2 => .inr (1, [.ref (B + zp_o 3 i 0), .ref (B + zp_o 6 i 0), .ref (B + zp_o 7 i 0), .ref (B + zp_o 8 i 0), .ref (B + zp_o 10 i 0), .ref (B + zp_o 17 i 0), .int (g 0)])
  | 3 => .inr (2, [.ref (B + zp_o 4 i j), .ref (B + zp_o 5 i j)])
  | 4 => .inl (G.2 0, 114, .inl g)
  | 5 => .inl (G.2 1, 114, .inl g)
  | 6 => .inl (G.2 3, 8, .inr (.inr (.inr (.inr (fun k => some (B + zp_o 3 i (k + 1)))))))
  | 7 => .inl (G.2 0, 114, .inl g)
  | 8 => .inr (3, [.ref (B + zp_o 9 i 0), .int (g 0)])
  | 9 => .inl (G.2 1, 513, .inl g)
  | 10 => .inr (4, [.ref (B + zp_o 11 i 0), .ref (B + zp_o 13 i 0), .ref (B + zp_o 15 i 0), .ref (B + zp_o 16 i 0), .int (g 0)])
  | 11 => .inl (G.2 6, 4, .inr (.inr (.inr (.inr (fun k => some (B + zp_o 12 i k))))))
  | 12 => .inl (G.2 0, 6, .inl g)
  | 13 => .inl (G.2 6, 3, .inr (.inr (.inr (.inr (fun k => some (B + zp_o 14 i k))))))
  | 14 => .inl (G.2 0, 6, .inl g)
  | 15 => .inl (G.2 0, 6, .inl g)
  | 16 => .inl (G.2 0, 6, .inl g)
  | 17 => .inl (G.2 4, 3, .inr (.inr (.inr (.inr (fun k => some (B + zp_o 18 i k))))))
  | 18 => .inr (5, [.ref (B + zp_o 19 i j), .int (g 0), .int (g 1)])
  | 19 => .inl (G.2 5, 12, .inr (.inr (.inr (.inr (fun k => some (B + zp_o 20 i (12 * j + k)))))))
  | _ => .inr (6, [.int (g 0), .int (g 1), .int (g 2), .int (g 3), .int (g 4), .int (g 5), .int (g 6)])
def zp_p (G : zw_G) (B : Nat) (S : zs_S) (x : Nat) : va_E := zp_c G B (zp_d x).1 (zp_d x).2.1 (zp_d x).2.2 (S (zp_d x).1 (zp_d x).2.1 (zp_d x).2.2)
theorem zp_at {G : zw_G} {B : Nat} {S : zs_S} {t i j : Nat} (h : zp_k t i j) : zp_p G B S (zp_o t i j) = zp_c G B t i j (S t i j) := by
  unfold zp_p
  rw [zp_do h]
theorem zp_up {G : zw_G} {B : Nat} {S : zs_S} {t i j k : Nat} {v : Int32} (h : zp_k t i j) : zw_l B 176 (va_up (zp_p G B S) (zp_o t i j) (zp_c G B t i j (upd (S t i j) k v))) = zw_l B 176 (zp_p G B (zs_u S t i j k v)) := by
  apply zw_cg
  intro x hx
  by_cases e : x = zp_o t i j
  · subst e
    rw [va_up_self, zp_at h, zs_ucell]
  · rw [va_up_ne _ _ e]
    unfold zp_p
    rw [zs_uother]
    intro q
    apply e
    rw [← zp_od x hx, q.1, q.2.1, q.2.2]
/-- the reference: one object, 25 arrays -/
def zq_n (x : Nat) : Nat := match x with
  | 1 => 2
  | 2 => 2200
  | 3 => 2
  | 4 => 16
  | 5 => 2048
  | 6 => 2048
  | 7 => 6
  | 8 => 6
  | 9 => 6
  | 10 => 6
  | 11 => 6
  | 12 => 78
  | 13 => 78
  | 14 => 78
  | 15 => 78
  | 16 => 78
  | 17 => 78
  | 18 => 78
  | 19 => 48
  | 20 => 36
  | 21 => 2
  | 22 => 12
  | 23 => 12
  | _ => 16
def zq_c (G : zw_G) (B x : Nat) (g : Nat → Int32) : va_E := match x with
  | 0 => .inr (7, [.int (g 0), .ref (B + 1), .ref (B + 2), .ref (B + 3), .ref (B + 4), .ref (B + 5), .ref (B + 6), .ref (B + 7), .ref (B + 8), .ref (B + 9), .ref (B + 10), .ref (B + 11), .ref (B + 12), .ref (B + 13), .ref (B + 14), .ref (B + 15), .ref (B + 16), .ref (B + 17), .ref (B + 18), .ref (B + 19), .ref (B + 20), .ref (B + 21), .ref (B + 22), .ref (B + 23), .ref (B + 24), .ref (B + 25)])
  | 2 => .inl (G.2 1, 2200, .inl g)
  | 8 => .inl (G.2 1, 6, .inl g)
  | x => .inl (G.2 0, zq_n x, .inl g)
def zq_p (G : zw_G) (B : Nat) (T : zs_T) (x : Nat) : va_E := zq_c G B x (T x)
theorem zq_up {G : zw_G} {B : Nat} {T : zs_T} {x k : Nat} {v : Int32} : zw_l B 26 (va_up (zq_p G B T) x (zq_c G B x (upd (T x) k v))) = zw_l B 26 (zq_p G B (zs_w T x k v)) := by
  apply zw_cg
  intro z _
  by_cases e : z = x
  · subst e
    rw [va_up_self]
    unfold zq_p
    rw [zs_wcell]
  · rw [va_up_ne _ _ e]
    unfold zq_p
    rw [zs_wother e]
