/-! the calls, one by one: same answers, and the states stay related -/
theorem zl_dv : ∀ s, s < 5 → ∀ o, o < 2 → zs_st (nI 2 * nI s + nI o) = nI s ∧ zs_or (nI 2 * nI s + nI o) = nI o := by decide +kernel
theorem zl_e7 {N : Nat} {S : zs_S} {T : zs_T} (h : zl_R N S T) {e : Nat} (he : e < 6) : T 7 e = nI 0 ∨ T 7 e = nI 1 ∨ T 7 e = nI 2 ∨ T 7 e = nI 3 ∨ T 7 e = nI 4 := by
  obtain ⟨hJ, hB, hkept, hkp, he', hn, hp, hr, ha, hpk, h1, h9, h12, k1, k2, k3, k4, kN⟩ := h
  obtain ⟨⟨s, hs, es⟩, _⟩ := k1 e he
  rw [es]
  match s, hs with
  | 0, _ => exact Or.inl rfl
  | 1, _ => exact Or.inr (Or.inl rfl)
  | 2, _ => exact Or.inr (Or.inr (Or.inl rfl))
  | 3, _ => exact Or.inr (Or.inr (Or.inr (Or.inl rfl)))
  | 4, _ => exact Or.inr (Or.inr (Or.inr (Or.inr rfl)))
theorem zl_e8 {N : Nat} {S : zs_S} {T : zs_T} (h : zl_R N S T) {e : Nat} (he : e < 6) : T 8 e = nI 0 ∨ T 8 e = nI 1 := by
  obtain ⟨hJ, hB, hkept, hkp, he', hn, hp, hr, ha, hpk, h1, h9, h12, k1, k2, k3, k4, kN⟩ := h
  rcases (k1 e he).2.1 with q | q
  · exact Or.inl q
  · exact Or.inr q
theorem zl_sto {N : Nat} {S : zs_S} {T : zs_T} (h : zl_R N S T) {i c : Nat} (hi : i < 2) (hc : c < 3) : zs_st (S 4 i 0 c) = T 7 (3 * i + c) ∧ zs_or (S 4 i 0 c) = T 8 (3 * i + c) := by
  have a := zl_e7 h (e := 3 * i + c) (by omega)
  have b := zl_e8 h (e := 3 * i + c) (by omega)
  rw [(h.2.2.2.2.1 i c hi hc).1]
  rcases a with a | a | a | a | a <;> rcases b with b | b <;> rw [a, b]
  · exact zl_dv 0 (by decide) 0 (by decide)
  · exact zl_dv 0 (by decide) 1 (by decide)
  · exact zl_dv 1 (by decide) 0 (by decide)
  · exact zl_dv 1 (by decide) 1 (by decide)
  · exact zl_dv 2 (by decide) 0 (by decide)
  · exact zl_dv 2 (by decide) 1 (by decide)
  · exact zl_dv 3 (by decide) 0 (by decide)
  · exact zl_dv 3 (by decide) 1 (by decide)
  · exact zl_dv 4 (by decide) 0 (by decide)
  · exact zl_dv 4 (by decide) 1 (by decide)
theorem zl_st {N : Nat} {S : zs_S} {T : zs_T} (h : zl_R N S T) {i c : Nat} (hi : i < 2) (hc : c < 3) : zs_st (S 4 i 0 c) = T 7 (3 * i + c) := (zl_sto h hi hc).1
theorem zl_or {N : Nat} {S : zs_S} {T : zs_T} (h : zl_R N S T) {i c : Nat} (hi : i < 2) (hc : c < 3) : zs_or (S 4 i 0 c) = T 8 (3 * i + c) := (zl_sto h hi hc).2
theorem zl_nx {N : Nat} {S : zs_S} {T : zs_T} (h : zl_R N S T) {i c : Nat} (hi : i < 2) (hc : c < 3) : zs_nx (S 4 i 0 (3 + c)) = T 10 (3 * i + c) := by
  obtain ⟨hJ, hB, hkept, hkp, he, hn, hp, hr, ha, hpk, h1, h9, h12, k1, k2, k3, k4, kN⟩ := h
  obtain ⟨_, _, _, ⟨n, hn1, hn2, en⟩, h80, _⟩ := k1 (3 * i + c) (by omega)
  rw [(hn i c hi hc).1]
  by_cases e : T 8 (3 * i + c) = 0
  · rw [if_pos e, h80 e]
    decide
  · rw [if_neg e]
    unfold zs_nx
    by_cases z : nI 1 < T 10 (3 * i + c)
    · rw [if_pos z]
    · rw [if_neg z]
      rw [en] at z ⊢
      have := mt (nI_ltI (a := 1) (b := n) (by decide) (by omega)).mpr z
      rw [show n = 1 by omega]
theorem zl_pvE {N : Nat} {S : zs_S} {T : zs_T} {i c : Nat} {x v : Int32} (h : zl_R N S T) (hi : i < 2) (hc : c < 3) : zs_pv S i (1 - i) x c v = zs_pf T i x (nI (4096 + c)) (nI 0) v := by
  rw [← (zl_ke c hc).1]
  exact zl_pv h hi (by omega)
theorem zl_pvN {N : Nat} {S : zs_S} {T : zs_T} {i c : Nat} {x v : Int32} (h : zl_R N S T) (hi : i < 2) (hc : c < 3) : zs_pv S i (1 - i) x (3 + c) v = zs_pf T i x (nI (8192 + c)) (nI 0) v := by
  rw [← (zl_ke c hc).2]
  exact zl_pv h hi (by omega)
theorem zl_pvP {N : Nat} {S : zs_S} {T : zs_T} {i c j : Nat} {x v : Int32} (h : zl_R N S T) (hi : i < 2) (hc : c < 3) (hj : j < 12) : zs_pv S i (1 - i) x (6 + 12 * c + j) v = zs_pf T i x (nI (12288 + 64 * c + (j + 1))) (nI 0) v := by
  rw [← (zl_kq c hc j hj).1]
  exact zl_pv h hi (by omega)
theorem zl_paR {N : Nat} {S : zs_S} {T : zs_T} {i c j : Nat} {x : Int32} (h : zl_R N S T) (hi : i < 2) (hc : c < 3) (hj : j < 12) : zs_pa S i (1 - i) x (42 + 12 * c + j) = zs_pf T i x (nI (16384 + 64 * c + (j + 1))) (nI 1) (nI 0) := by
  rw [← (zl_kq c hc j hj).2.1]
  exact zl_pa h hi (by omega)
theorem zl_pvA {N : Nat} {S : zs_S} {T : zs_T} {i c j : Nat} {x v : Int32} (h : zl_R N S T) (hi : i < 2) (hc : c < 3) (hj : j < 12) : zs_pv S i (1 - i) x (78 + 12 * c + j) v = zs_pf T i x (nI (20480 + 64 * c + (j + 1))) (nI 0) v := by
  rw [← (zl_kq c hc j hj).2.2]
  exact zl_pv h hi (by omega)
theorem zl_iff {α : Type} {p q : Prop} [Decidable p] [Decidable q] (h : p ↔ q) (a b : α) : (if p then a else b) = (if q then a else b) := by
  by_cases e : p
  · rw [if_pos e, if_pos (h.mp e)]
  · rw [if_neg e, if_neg (fun z => e (h.mpr z))]
/-- init -/
theorem zl_init {N : Nat} {S : zs_S} {T : zs_T} {i c : Nat} {w : Int32} (h : zl_R N S T) (hi : i < 2) (hc : c < 3) (hw : w = 0 ∨ w = 1) : zr_Ledger_startEnd S i c w = zr_Mo_init T i c w ∧ zl_R N (zu_Ledger_startEnd S i c w) (zu_Mo_init T i c w) := by
  unfold zr_Ledger_startEnd zr_Mo_init zu_Ledger_startEnd zu_Mo_init
  rw [zl_st h hi hc]
  by_cases e : T 7 (3 * i + c) = 0
  · rw [if_pos e, if_pos e, if_pos e, if_pos e]
    rcases hw with rfl | rfl
    · refine ⟨rfl, ?_⟩
      rw [if_pos rfl]
      exact zl_make (o := nI 0) h hi hc (Or.inl e) (Or.inl rfl) (Or.inl rfl)
    · refine ⟨rfl, ?_⟩
      rw [if_neg (by decide)]
      exact zl_make (o := nI 1) h hi hc (Or.inl e) (Or.inl rfl) (Or.inr rfl)
  · rw [if_neg e, if_neg e, if_neg e, if_neg e]
    exact ⟨rfl, h⟩
/-- attempt -/
theorem zl_attempt {N : Nat} {S : zs_S} {T : zs_T} {i c : Nat} {w x : Int32} (h : zl_R N S T) (hi : i < 2) (hc : c < 3) (hw : w = 0 ∨ w = 1) : zr_Ledger_tryEnd S i (1 - i) c w x = zr_Mo_attempt T i c w x ∧ zl_R N (zu_Ledger_tryEnd S i (1 - i) c w x) (zu_Mo_attempt T i c w x) := by
  unfold zr_Ledger_tryEnd zr_Mo_attempt zu_Ledger_tryEnd zu_Mo_attempt
  rw [zl_st h hi hc, zl_or h hi hc]
  simp only [zl_pvE h hi hc]
  have e7 := zl_e7 h (e := 3 * i + c) (by omega)
  have e8 := zl_e8 h (e := 3 * i + c) (by omega)
  have a1 : ∀ o, o = nI 0 ∨ o = nI 1 → (T 7 (3 * i + c) = 0 ∨ (T 7 (3 * i + c) = nI 1 ∧ T 8 (3 * i + c) = o)) → zl_R N (zs_u (zs_u (zs_u (zs_u S 4 i 0 c (nI 2 * nI 2 + o)) 5 i 0 c (nI 1)) 4 i 0 (3 + c) (if o = nI 1 then nI 1 else S 4 i 0 (3 + c))) 5 i 0 (3 + c) (if o = nI 1 then nI 1 else S 5 i 0 (3 + c))) (zs_w (zs_w T 7 (3 * i + c) (nI 2)) 8 (3 * i + c) o) := fun o ho h0 => zl_make (o := o) (z := nI 2) h hi hc h0 (Or.inr rfl) ho
  rcases hw with rfl | rfl
  · rw [show zs_fl 0 = nI 0 from rfl, show nI 2 * nI 1 + nI 0 = nI 2 + nI 0 from rfl]
    generalize zs_pf T i x (nI (4096 + c)) (nI 0) (nI 2 + nI 0) = P
    have b1 := a1 (nI 0) (Or.inl rfl)
    simp (decide := true) only [↓reduceIte] at b1
    rcases e7 with q | q | q | q | q
    · by_cases z : P = 0
      · simp (decide := true) only [q, z, ↓reduceIte]
        exact ⟨trivial, b1 (Or.inl q)⟩
      · simp (decide := true) only [q, z, ↓reduceIte]
        exact ⟨trivial, h⟩
    · rcases e8 with r | r
      · by_cases z : P = 0
        · simp (decide := true) only [q, r, z, ↓reduceIte]
          exact ⟨trivial, b1 (Or.inr ⟨q, r⟩)⟩
        · simp (decide := true) only [q, r, z, ↓reduceIte]
          exact ⟨trivial, h⟩
      · simp (decide := true) only [q, r, ↓reduceIte]
        exact ⟨trivial, h⟩
    · simp (decide := true) only [q, ↓reduceIte]
      exact ⟨trivial, h⟩
    · simp (decide := true) only [q, ↓reduceIte]
      exact ⟨trivial, h⟩
    · simp (decide := true) only [q, ↓reduceIte]
      exact ⟨trivial, h⟩
  · rw [show zs_fl 1 = nI 1 from rfl, show nI 2 * nI 1 + nI 1 = nI 2 + nI 1 from rfl]
    generalize zs_pf T i x (nI (4096 + c)) (nI 0) (nI 2 + nI 1) = P
    have b1 := a1 (nI 1) (Or.inr rfl)
    simp (decide := true) only [↓reduceIte] at b1
    rcases e7 with q | q | q | q | q
    · by_cases z : P = 0
      · simp (decide := true) only [q, z, ↓reduceIte]
        exact ⟨trivial, b1 (Or.inl q)⟩
      · simp (decide := true) only [q, z, ↓reduceIte]
        exact ⟨trivial, h⟩
    · rcases e8 with r | r
      · simp (decide := true) only [q, r, ↓reduceIte]
        exact ⟨trivial, h⟩
      · by_cases z : P = 0
        · simp (decide := true) only [q, r, z, ↓reduceIte]
          exact ⟨trivial, b1 (Or.inr ⟨q, r⟩)⟩
        · simp (decide := true) only [q, r, z, ↓reduceIte]
          exact ⟨trivial, h⟩
    · simp (decide := true) only [q, ↓reduceIte]
      exact ⟨trivial, h⟩
    · simp (decide := true) only [q, ↓reduceIte]
      exact ⟨trivial, h⟩
    · simp (decide := true) only [q, ↓reduceIte]
      exact ⟨trivial, h⟩
/-- open -/
theorem zl_follow {N : Nat} {S : zs_S} {T : zs_T} {i c : Nat} {x y z hh : Int32} (h : zl_R N S T) (hi : i < 2) (hc : c < 3) (hx : ¬ x = 0) (hz : z = nI 3 ∨ z = nI 4) : zr_Ledger_followEnd S i (1 - i) c hh x y z = (if T 7 (3 * i + c) = x then zs_pf T i hh (nI (4096 + c)) (nI 0) (nI 2 * y + T 8 (3 * i + c)) else (-2)) ∧ zl_R N (zu_Ledger_followEnd S i (1 - i) c hh x y z) (if T 7 (3 * i + c) = x then (if zs_pf T i hh (nI (4096 + c)) (nI 0) (nI 2 * y + T 8 (3 * i + c)) = 0 then zs_w T 7 (3 * i + c) z else T) else T) := by
  unfold zr_Ledger_followEnd zu_Ledger_followEnd
  rw [zl_st h hi hc, zl_or h hi hc, zl_pvE h hi hc]
  by_cases a : T 7 (3 * i + c) = x
  · rw [if_pos a, if_pos a, if_pos a, if_pos a]
    by_cases b : zs_pf T i hh (nI (4096 + c)) (nI 0) (nI 2 * y + T 8 (3 * i + c)) = 0
    · rw [if_pos b, if_pos b, if_pos b, b]
      exact ⟨rfl, zl_move h hi hc (by rw [a]; exact hx) hz⟩
    · rw [if_neg b, if_neg b, if_neg b]
      exact ⟨rfl, h⟩
  · rw [if_neg a, if_neg a, if_neg a, if_neg a]
    exact ⟨rfl, h⟩
theorem zl_flv {N : Nat} {S : zs_S} {T : zs_T} (h : zl_R N S T) {e : Nat} (he : e < 6) : zs_fl (T 8 e) = T 8 e := by
  rcases zl_e8 h he with q | q
  · rw [q]; decide
  · rw [q]; decide
theorem zl_open {N : Nat} {S : zs_S} {T : zs_T} {i c x : Nat} {hh : Int32} (h : zl_R N S T) (hi : i < 2) (hc : c < 3) (hx : x < 3) : zr_TL_open S i c (nI x) hh = zr_Mo_open T i c x hh ∧ zl_R N (zu_TL_open S i c (nI x) hh) (zu_Mo_open T i c x hh) := by
  have f8 := zl_flv h (e := 3 * i + c) (by omega)
  unfold zr_TL_open zu_TL_open zr_Mo_open zu_Mo_open
  rw [f8]
  have key : ∀ (a b : Int32) (P : Int32), (if P = 0 then nI 0 else P) = P := fun a b P => by
    by_cases z : P = 0
    · rw [if_pos z, z]; rfl
    · rw [if_neg z]
  match x, hx with
  | 0, _ =>
    have z := zl_follow (x := nI 1) (y := nI 2) (z := nI 3) (hh := hh) h hi hc (by decide) (Or.inl rfl)
    simp (decide := true) only [↓reduceIte]
    rw [key 0 0]
    exact z
  | 1, _ =>
    have z := zl_follow (x := nI 2) (y := nI 3) (z := nI 3) (hh := hh) h hi hc (by decide) (Or.inl rfl)
    simp (decide := true) only [↓reduceIte]
    rw [key 0 0]
    exact z
  | 2, _ =>
    have z := zl_follow (x := nI 3) (y := nI 4) (z := nI 4) (hh := hh) h hi hc (by decide) (Or.inr rfl)
    simp (decide := true) only [↓reduceIte]
    rw [key 0 0]
    exact z
theorem zl_openb {S : zs_S} {i c : Nat} {x hh : Int32} (hx : ¬ zs_v x 3) : zr_TL_open S i c x hh = (-1) ∧ zu_TL_open S i c x hh = S := by
  unfold zr_TL_open zu_TL_open
  have a : ¬ x = 0 := fun q => hx ⟨0, by decide, q⟩
  have b : ¬ x = 1 := fun q => hx ⟨1, by decide, q⟩
  have c : ¬ x = 2 := fun q => hx ⟨2, by decide, q⟩
  rw [if_neg a, if_neg a, if_neg b, if_neg b, if_neg c, if_neg c]
  exact ⟨rfl, rfl⟩
/-- close, end -/
theorem zl_close {N : Nat} {S : zs_S} {T : zs_T} {i c : Nat} (h : zl_R N S T) (hi : i < 2) (hc : c < 3) : zr_Ledger_closeEnd S i c = zr_Mo_close T i c ∧ zl_R N (zu_Ledger_closeEnd S i c) (zu_Mo_close T i c) := by
  unfold zr_Ledger_closeEnd zu_Ledger_closeEnd zr_Mo_close zu_Mo_close
  rw [zl_st h hi hc, zl_or h hi hc]
  by_cases a : T 7 (3 * i + c) = nI 3
  · simp only [if_pos a]
    exact ⟨trivial, zl_move h hi hc (by rw [a]; decide) (Or.inr rfl)⟩
  · simp only [if_neg a]
    exact ⟨trivial, h⟩
theorem zl_end {N : Nat} {S : zs_S} {T : zs_T} {i c : Nat} {x : Int32} (h : zl_R N S T) (hi : i < 2) (hc : c < 3) : zr_TL_end S i c x = zr_Mo_end T i c x := by
  unfold zr_TL_end zr_Mo_end
  rw [zl_st h hi hc, zl_or h hi hc, zl_nx h hi hc, zl_flv h (by omega), (h.2.2.2.2.2.2.2.2.2.2.1.2.2.1 i c hi hc).1, (h.2.2.2.2.2.2.2.2.2.2.1.2.2.1 i c hi hc).2]
  by_cases b : x < nI 0 ∨ nI 4 < x
  · rw [if_pos b, if_neg, if_neg, if_neg, if_neg, if_neg]
    all_goals
      rintro rfl
      revert b
      decide
  · rw [if_neg b]
    obtain ⟨j, hj, rfl⟩ := zs_vo (n := 4) (by decide) b
    match j, hj with
    | 0, _ => rfl
    | 1, _ => rfl
    | 2, _ => rfl
    | 3, _ => rfl
    | 4, _ => rfl
/-! mix is one to one in each argument -/
def zl_F (g : Int32) : Int32 := g ^^^ (g.toUInt32 >>> ((nI 15).toUInt32 &&& Int32.toUInt32 31)).toInt32
theorem zl_FB (g : Int32) : (zl_F g).toBitVec = g.toBitVec ^^^ (g.toBitVec >>> 15) := by
  unfold zl_F
  rw [show ((nI 15).toUInt32 &&& Int32.toUInt32 31) = 15 by decide]
  rw [Int32.toBitVec_xor]
  rfl
theorem zl_bv (b : BitVec 32) : (b ^^^ (b >>> 15)) ^^^ ((b ^^^ (b >>> 15)) >>> 15) ^^^ ((b ^^^ (b >>> 15)) >>> 30) = b := by
  apply BitVec.eq_of_getLsbD_eq
  intro i hi
  simp only [BitVec.getLsbD_xor, BitVec.getLsbD_ushiftRight]
  rw [show 15 + (30 + i) = 45 + i by omega, BitVec.getLsbD_of_ge b (45 + i) (by omega), show 15 + (15 + i) = 30 + i by omega]
  generalize b.getLsbD i = p
  generalize b.getLsbD (15 + i) = q
  generalize b.getLsbD (30 + i) = r
  cases p <;> cases q <;> cases r <;> rfl
theorem zl_Finj {a b : Int32} (h : zl_F a = zl_F b) : a = b := by
  have h2 : (zl_F a).toBitVec = (zl_F b).toBitVec := by rw [h]
  rw [zl_FB, zl_FB] at h2
  have h3 := zl_bv a.toBitVec
  rw [h2, zl_bv] at h3
  exact Int32.toBitVec_inj.mp h3.symm
theorem zl_minj {a b : Int32} (h : a * 73244475 = b * 73244475) : a = b := by
  have h2 : a * 73244475 * 295559667 = b * 73244475 * 295559667 := by rw [h]
  rw [Int32.mul_assoc, Int32.mul_assoc, show (73244475 : Int32) * 295559667 = 1 by decide +kernel, Int32.mul_one, Int32.mul_one] at h2
  exact h2
theorem zl_xinj {a b x : Int32} (h : a ^^^ x = b ^^^ x) : a = b := by
  have h2 : a ^^^ x ^^^ x = b ^^^ x ^^^ x := by rw [h]
  rw [Int32.xor_assoc, Int32.xor_assoc, Int32.xor_self, Int32.xor_zero, Int32.xor_zero] at h2
  exact h2
theorem zl_mixL {a b x : Int32} (h : zs_mix a x = zs_mix b x) : a = b := zl_xinj (zl_minj (zl_Finj h))
theorem zl_mixR {a x y : Int32} (h : zs_mix a x = zs_mix a y) : x = y := by
  have h2 := zl_minj (zl_Finj h)
  rw [Int32.xor_comm a x, Int32.xor_comm a y] at h2
  exact zl_xinj h2
theorem zl_add1 {a : Int32} (h : a + nI 1 = a) : False := by
  have h2 : -a + (a + nI 1) = -a + a := by rw [h]
  rw [← Int32.add_assoc, Int32.add_left_neg, Int32.zero_add] at h2
  exact absurd h2 (by decide)
theorem zl_mpne {T : zs_T} {q : Nat} {a : Int32} : ¬ zs_mp T q a = zs_mp T q (a + nI 1) := fun h => zl_add1 (zl_mixR (zl_mixL (zl_mixL (zl_mixL h)))).symm
/-! receive -/
theorem zl_w16 : ∀ u, u < 16 → nI 4 * nI (u / 4) + nI (u % 4) = nI u := by decide +kernel
theorem zl_pr {N : Nat} {S : zs_S} {T : zs_T} (h : zl_R N S T) {i c j : Nat} {x : Int32} (hi : i < 2) (hc : c < 3) (hj : j < 12) : zs_print (S 20 i (12 * c + j)) x = zs_mp T (13 * (3 * i + c) + (j + 1)) (T 13 (13 * (3 * i + c) + (j + 1)) + x) := by
  obtain ⟨hJ, hB, hkept, hkp, he, hn, hp, hr, ha, hpk, h1, h9, h12, k1, k2, k3, k4, kN⟩ := h
  have z := hpk i c j hi hc hj
  have m := (zs_JM hJ (q := 13 * (3 * i + c) + (j + 1)) (by omega)).2.1
  unfold zs_print zs_mp
  rw [z.1, z.2.1, z.2.2.1, z.2.2.2.1, z.2.2.2.2.1, z.2.2.2.2.2.1, zl_w16 _ m.2, ← m.1]
theorem zl_wrong {N : Nat} {S : zs_S} {T : zs_T} (h : zl_R N S T) {i c j : Nat} {x : Int32} (hi : i < 2) (hc : c < 3) (hj : j < 12) : ¬ zs_pf T i x (nI (12288 + 64 * c + (j + 1))) (nI 0) (zs_mp T (13 * (3 * (1 - i) + c) + (j + 1)) (T 13 (13 * (3 * (1 - i) + c) + (j + 1)) + nI 1)) = 0 := by
  rw [← (zl_kq c hc j hj).1, zl_pf h hi (by omega)]
  by_cases a : zs_hd S i x
  · rw [if_pos a]
    by_cases b : zs_kp S (1 - i) x
    · rw [if_pos b]
      by_cases d : S 5 (1 - i) (x.toNatClampNeg % 8 + 1) (6 + 12 * c + j) = 0
      · rw [if_pos d, if_pos (show nI 0 = 0 from rfl)]
        decide
      · rw [if_neg d, if_pos (show nI 0 = 0 from rfl), (h.2.2.2.1 (1 - i) (x.toNatClampNeg % 8) c j (by omega) (by omega) hc hj d).2, if_neg zl_mpne]
        decide
    · rw [if_neg b]
      decide
  · rw [if_neg a]
    decide
theorem zl_fv {ba ba' ch ch' : Nat → Int32} {x y : Int32} : ∀ (r k : Nat), (∀ z, k ≤ z → z < k + r → ba z = ba' z ∧ ch z = ch' z) → zs_fv ba ch x y k r = zs_fv ba' ch' x y k r
  | 0, _, _ => rfl
  | r + 1, k, h => by
    rw [zs_fvs, zs_fvs, (h k (by omega) (by omega)).1, (h k (by omega) (by omega)).2, zl_fv r (k + 1) (fun z h1 h2 => h z (by omega) (by omega))]
theorem zl_tkx {T : zs_T} {i c q u bk n x k : Nat} {a : Int32} (h1 : x ≠ 19) (h2 : x ≠ 20) (h3 : x ≠ 21) (h4 : x ≠ 22) (h5 : x ≠ 23) : zu_Mo_takes T i c q a u bk n x k = T x k := by
  unfold zu_Mo_takes
  repeat (first | with_reducible rfl | (with_reducible refine Eq.trans (zs_wx ?_) ?_) | assumption | (with_reducible refine zs_ifT ?_ ?_))
theorem zl_take {N : Nat} {S : zs_S} {T : zs_T} (h : zl_R N S T) {i c j : Nat} (hi : i < 2) (hc : c < 3) (hj : j < 12) (hs : j < zs_n (T 9 (3 * (1 - i) + c))) : zr_Bank_take S i (1 - i) (12 * c + j) c (zs_n (S 20 (1 - i) (12 * c + j) 3)) (zs_n (S 20 (1 - i) (12 * c + j) 5)) (zs_n (S 10 i 0 0)) = zr_Mo_takes T i c (13 * (3 * (1 - i) + c) + (j + 1)) (T 13 (13 * (3 * (1 - i) + c) + (j + 1))) (zs_n (T 14 (13 * (3 * (1 - i) + c) + (j + 1)))) (zs_n (T 16 (13 * (3 * (1 - i) + c) + (j + 1)))) (zs_n (T 21 i)) ∧ zl_R N (zu_Bank_take S i (1 - i) (12 * c + j) c (zs_n (S 20 (1 - i) (12 * c + j) 3)) (zs_n (S 20 (1 - i) (12 * c + j) 5)) (zs_n (S 10 i 0 0))) (zu_Mo_takes T i c (13 * (3 * (1 - i) + c) + (j + 1)) (T 13 (13 * (3 * (1 - i) + c) + (j + 1))) (zs_n (T 14 (13 * (3 * (1 - i) + c) + (j + 1)))) (zs_n (T 16 (13 * (3 * (1 - i) + c) + (j + 1)))) (zs_n (T 21 i))) := by
  have h' := h
  obtain ⟨hJ, hB, hkept, hkp, he, hn, hp, hr, ha, hpk, h1, h9, h12, k1, k2, k3, k4, kN⟩ := h
  have z := hpk (1 - i) c j (by omega) hc hj
  have m := zs_JM hJ (q := 13 * (3 * (1 - i) + c) + (j + 1)) (by omega)
  obtain ⟨am, am1, am2, ame⟩ := (k3 (1 - i) c j (by omega) hc hj).2.1 hs
  have v := zs_JV hJ hi
  have e10 : S 10 i 0 0 = T 21 i := (h1.2.1 i hi).2.2
  have fv : zs_fv (S 15 i 0) (S 16 i 0) (T 12 (13 * (3 * (1 - i) + c) + (j + 1))) (nI c) 1 (zs_n (T 21 i)) = zs_fv (fun z => T 22 (6 * i + z)) (fun z => T 23 (6 * i + z)) (T 12 (13 * (3 * (1 - i) + c) + (j + 1))) (nI c) 1 (zs_n (T 21 i)) := zl_fv _ _ (fun y y1 y2 => h1.2.2.2 i y hi (by omega))
  have fle := zs_fv_le (fun z => T 22 (6 * i + z)) (fun z => T 23 (6 * i + z)) (T 12 (13 * (3 * (1 - i) + c) + (j + 1))) (nI c) (zs_n (T 21 i)) 1
  unfold zr_Bank_take zu_Bank_take zr_Bank_takeBack zu_Bank_takeBack zr_Bank_takeVoucher zu_Bank_takeVoucher zr_Mo_takes zu_Mo_takes
  rw [e10, z.1, z.2.1, z.2.2.2.1, z.2.2.2.2.2.1, fv, show zs_n (nI (zs_n (T 14 (13 * (3 * (1 - i) + c) + (j + 1))) % 4)) = zs_n (T 14 (13 * (3 * (1 - i) + c) + (j + 1))) % 4 from nI_clamp (by omega)]
  generalize zs_fv (fun z => T 22 (6 * i + z)) (fun z => T 23 (6 * i + z)) (T 12 (13 * (3 * (1 - i) + c) + (j + 1))) (nI c) 1 (zs_n (T 21 i)) = F at fle ⊢
  by_cases u3 : zs_n (T 14 (13 * (3 * (1 - i) + c) + (j + 1))) % 4 = 3
  · simp only [u3, ↓reduceIte]
    exact ⟨trivial, h'⟩
  · have u3' : ¬ nI (zs_n (T 14 (13 * (3 * (1 - i) + c) + (j + 1))) % 4) = nI 3 := fun q => u3 ((nI_eq (by omega) (by decide)).mp q)
    simp only [u3, u3', ↓reduceIte]
    have hu4 : zs_n (T 14 (13 * (3 * (1 - i) + c) + (j + 1))) % 4 < 4 := by omega
    generalize zs_n (T 14 (13 * (3 * (1 - i) + c) + (j + 1))) % 4 = u at hu4 ⊢
    by_cases b : T 16 (13 * (3 * (1 - i) + c) + (j + 1)) ≤ 0
    · simp only [b, not_true_eq_false, ↓reduceIte]
      by_cases f : nI F = 0
      · simp only [f, ↓reduceIte]
        by_cases n5 : zs_n (T 21 i) = 5
        · simp only [n5, Nat.lt_irrefl, ↓reduceIte]
          exact ⟨trivial, h'⟩
        · have n5' : zs_n (T 21 i) < 5 := by omega
          simp only [n5, n5', ↓reduceIte]
          refine ⟨trivial, ?_⟩
          have R1 := zl_vouch (c := c) h' hi n5' rfl m.1
          have R2 := zl_purse (u := u) (k := zs_n (T 21 i) + 1) (v := T 19 (24 * i + 6 * u + (zs_n (T 21 i) + 1)) + T 13 (13 * (3 * (1 - i) + c) + (j + 1))) R1 hi hu4 (by omega) (by rw [zs_wx (by decide), zs_wx (by decide), zs_ws, show zs_n (nI (zs_n (T 21 i) + 1)) = zs_n (T 21 i) + 1 from nI_clamp (by omega)]; exact Nat.le_refl _)
          rw [h12.1 i u _ hi hu4 (by omega)]
          exact R2
      · simp only [f, ↓reduceIte]
        refine ⟨trivial, ?_⟩
        rw [h12.1 i u F hi hu4 (by omega)]
        exact zl_purse h' hi hu4 (by omega) (by omega)
    · simp only [b, not_false_eq_true, ↓reduceIte]
      have hb1 := zn_pos1 m.2.2.1 b
      have hb6 := m.2.2.2
      generalize hbk : zs_n (T 16 (13 * (3 * (1 - i) + c) + (j + 1))) = bk at hb1 hb6 ⊢
      rw [h12.2 i c (bk - 1) hi hc (by omega)]
      by_cases g : T 13 (13 * (3 * (1 - i) + c) + (j + 1)) ≤ T 20 (18 * i + 6 * c + (bk - 1))
      · simp only [g, ↓reduceIte]
        refine ⟨trivial, ?_⟩
        have hv : bk - 1 ≤ zs_n (T 21 i) := by
          apply Nat.le_of_not_lt
          intro q
          rw [(k4 i (bk - 1) hi (by omega) q).2 c hc, ame] at g
          exact nI_nle (by omega) (by omega) g
        rw [h12.1 i u (bk - 1) hi hu4 (by omega)]
        exact zl_purse (zl_escrow h' hi hc (by omega) hv) hi hu4 (by omega) (by rw [zs_wx (by decide)]; exact hv)
      · simp only [g, ↓reduceIte]
        exact ⟨trivial, h'⟩
theorem zl_note {N : Nat} {S : zs_S} {T : zs_T} {i c j : Nat} {a : Int32} (h : zl_R N S T) (hi : i < 2) (hc : c < 3) (hj : j < 12) (h7 : T 7 (3 * i + c) = nI 3) (hav : a = nI 1 ∨ a = nI 2) : zl_R N (zu_Ledger_noteReceived S i c j a) (if T 8 (3 * i + c) = 0 then zs_w T 18 (13 * (3 * (1 - i) + c) + (j + 1)) a else zs_w (zs_w T 18 (13 * (3 * (1 - i) + c) + (j + 1)) a) 10 (3 * i + c) (nI (j + 1 + 1))) := by
  unfold zu_Ledger_noteReceived
  rw [zl_or h hi hc]
  have h3 : ¬ T 7 (3 * i + c) < nI 3 := by rw [h7]; decide
  rcases zl_e8 h (e := 3 * i + c) (by omega) with q | q
  · rw [if_pos (show T 8 (3 * i + c) = 0 from q), if_neg (by rw [q]; decide)]
    exact zl_recU h hi hc hj q h3 hav
  · have q0 : ¬ T 8 (3 * i + c) = 0 := by rw [q]; decide
    rw [if_neg q0, if_pos q]
    exact zl_recO h hi hc hj q0 h3 hav
theorem zl_rcv {N : Nat} {S : zs_S} {T : zs_T} {i c j : Nat} (h : zl_R N S T) (hi : i < 2) (hc : c < 3) (hj : j < 12) : (zr_Ledger_isReceivable S i c j = 0) ↔ ¬ (if T 8 (3 * i + c) = 0 then T 18 (13 * (3 * (1 - i) + c) + (j + 1)) ≤ 0 else nI (j + 1) = T 10 (3 * i + c)) := by
  unfold zr_Ledger_isReceivable
  rw [zl_or h hi hc, zl_nx h hi hc, (h.2.2.2.2.2.2.2.1 i c j hi hc hj).2]
  have y := zl_18 h.2.2.2.2.2.2.2.2.2.2.2.2.2.2.1 hi hc hj
  rcases zl_e8 h (e := 3 * i + c) (by omega) with q | q
  · rw [if_pos (show T 8 (3 * i + c) = 0 from q), if_neg (by rw [q]; decide), if_pos (show T 8 (3 * i + c) = 0 from q), y]
    by_cases e : T 18 (13 * (3 * (1 - i) + c) + (j + 1)) = 0
    · rw [if_pos (zl_fl0.mpr e)]
      exact ⟨fun w => absurd w (by decide), fun w => absurd e w⟩
    · rw [if_neg (fun w => e (zl_fl0.mp w))]
      exact ⟨fun _ => e, fun _ => rfl⟩
  · have q0 : ¬ T 8 (3 * i + c) = 0 := by rw [q]; decide
    simp only [if_neg q0, if_pos q]
    by_cases e : nI (j + 1) = T 10 (3 * i + c)
    · rw [if_pos e]
      exact ⟨fun w => absurd w (by decide), fun w => absurd e w⟩
    · rw [if_neg e]
      exact ⟨fun _ => e, fun _ => rfl⟩
theorem zl_a0 {a : Int32} : a + nI 0 = a := Int32.add_zero a
theorem zl_receive {N : Nat} {S : zs_S} {T : zs_T} {i c j : Nat} {x w : Int32} (h : zl_R N S T) (hi : i < 2) (hc : c < 3) (hj : j < 12) (hs : j < zs_n (T 9 (3 * (1 - i) + c))) (hw : w = 0 ∨ w = 1) : zr_Ledger_receivePacket S i (1 - i) c j x w = zr_Mo_receive T i c j x w ∧ zl_R N (zu_Ledger_receivePacket S i (1 - i) c j x w) (zu_Mo_receive T i c j x w) := by
  have rc := zl_rcv h hi hc hj
  have t := zl_take h hi hc hj hs
  have e1 : S 2 i 0 0 = T 1 i := (h.2.2.2.2.2.2.2.2.2.2.1.2.1 i hi).1
  have e4 := (h.2.2.2.2.2.2.2.2.2.1 (1 - i) c j (by omega) hc hj).2.2.2.2.1
  unfold zr_Ledger_receivePacket zu_Ledger_receivePacket zr_Mo_receive zu_Mo_receive
  rw [zl_st h hi hc, e1, e4]
  by_cases a7 : T 7 (3 * i + c) = nI 3
  · simp only [if_pos a7]
    by_cases a15 : T 1 i < T 15 (13 * (3 * (1 - i) + c) + (j + 1))
    · simp only [if_pos a15]
      have main : ∀ Q, Q = zs_pf T i x (nI (12288 + 64 * c + (j + 1))) (nI 0) (zs_mp T (13 * (3 * (1 - i) + c) + (j + 1)) (T 13 (13 * (3 * (1 - i) + c) + (j + 1)) + zs_fl w)) → ((if w = 0 then (if zs_pv S i (1 - i) x (6 + 12 * c + j) (zs_print (S 20 (1 - i) (12 * c + j)) (nI 0)) = 0 then (if zr_Bank_take S i (1 - i) (12 * c + j) c (zs_n (S 20 (1 - i) (12 * c + j) 3)) (zs_n (S 20 (1 - i) (12 * c + j) 5)) (zs_n (S 10 i 0 0)) = 0 then (nI 2) else (nI 1)) else (zs_pv S i (1 - i) x (6 + 12 * c + j) (zs_print (S 20 (1 - i) (12 * c + j)) (nI 0)))) else (if zs_pv S i (1 - i) x (6 + 12 * c + j) (zs_print (S 20 (1 - i) (12 * c + j)) (nI 1)) = 0 then (if zr_Bank_take S i (1 - i) (12 * c + j) c (zs_n (S 20 (1 - i) (12 * c + j) 3)) (zs_n (S 20 (1 - i) (12 * c + j) 5)) (zs_n (S 10 i 0 0)) = 0 then (nI 2) else (nI 1)) else (zs_pv S i (1 - i) x (6 + 12 * c + j) (zs_print (S 20 (1 - i) (12 * c + j)) (nI 1))))) = (if Q = 0 then (if zr_Mo_takes T i c ((13 * ((3 * (1 - i)) + c)) + (j + 1)) ((T 13 ((13 * ((3 * (1 - i)) + c)) + (j + 1))) + (zs_fl w)) (zs_n (T 14 (13 * (3 * (1 - i) + c) + (j + 1)))) (zs_n (T 16 (13 * (3 * (1 - i) + c) + (j + 1)))) (zs_n (T 21 i)) = 0 then nI 2 else nI 1) else Q) ∧ zl_R N (if w = 0 then (if zs_pv S i (1 - i) x (6 + 12 * c + j) (zs_print (S 20 (1 - i) (12 * c + j)) (nI 0)) = 0 then (if zr_Bank_take S i (1 - i) (12 * c + j) c (zs_n (S 20 (1 - i) (12 * c + j) 3)) (zs_n (S 20 (1 - i) (12 * c + j) 5)) (zs_n (S 10 i 0 0)) = 0 then ((zu_Ledger_noteReceived (zu_Bank_take S i (1 - i) (12 * c + j) c (zs_n (S 20 (1 - i) (12 * c + j) 3)) (zs_n (S 20 (1 - i) (12 * c + j) 5)) (zs_n (S 10 i 0 0))) i c j (nI 2))) else ((zu_Ledger_noteReceived (zu_Bank_take S i (1 - i) (12 * c + j) c (zs_n (S 20 (1 - i) (12 * c + j) 3)) (zs_n (S 20 (1 - i) (12 * c + j) 5)) (zs_n (S 10 i 0 0))) i c j (nI 1)))) else (S)) else (if zs_pv S i (1 - i) x (6 + 12 * c + j) (zs_print (S 20 (1 - i) (12 * c + j)) (nI 1)) = 0 then (if zr_Bank_take S i (1 - i) (12 * c + j) c (zs_n (S 20 (1 - i) (12 * c + j) 3)) (zs_n (S 20 (1 - i) (12 * c + j) 5)) (zs_n (S 10 i 0 0)) = 0 then ((zu_Ledger_noteReceived (zu_Bank_take S i (1 - i) (12 * c + j) c (zs_n (S 20 (1 - i) (12 * c + j) 3)) (zs_n (S 20 (1 - i) (12 * c + j) 5)) (zs_n (S 10 i 0 0))) i c j (nI 2))) else ((zu_Ledger_noteReceived (zu_Bank_take S i (1 - i) (12 * c + j) c (zs_n (S 20 (1 - i) (12 * c + j) 3)) (zs_n (S 20 (1 - i) (12 * c + j) 5)) (zs_n (S 10 i 0 0))) i c j (nI 1)))) else (S))) (if Q = 0 then (if zr_Mo_takes T i c ((13 * ((3 * (1 - i)) + c)) + (j + 1)) ((T 13 ((13 * ((3 * (1 - i)) + c)) + (j + 1))) + (zs_fl w)) (zs_n (T 14 (13 * (3 * (1 - i) + c) + (j + 1)))) (zs_n (T 16 (13 * (3 * (1 - i) + c) + (j + 1)))) (zs_n (T 21 i)) = 0 then (if (zu_Mo_takes T i c ((13 * ((3 * (1 - i)) + c)) + (j + 1)) ((T 13 ((13 * ((3 * (1 - i)) + c)) + (j + 1))) + (zs_fl w)) (zs_n (T 14 (13 * (3 * (1 - i) + c) + (j + 1)))) (zs_n (T 16 (13 * (3 * (1 - i) + c) + (j + 1)))) (zs_n (T 21 i))) 8 ((3 * i) + c) = 0 then (zs_w (zu_Mo_takes T i c ((13 * ((3 * (1 - i)) + c)) + (j + 1)) ((T 13 ((13 * ((3 * (1 - i)) + c)) + (j + 1))) + (zs_fl w)) (zs_n (T 14 (13 * (3 * (1 - i) + c) + (j + 1)))) (zs_n (T 16 (13 * (3 * (1 - i) + c) + (j + 1)))) (zs_n (T 21 i))) 18 ((13 * ((3 * (1 - i)) + c)) + (j + 1)) (nI 2)) else (zs_w (zs_w (zu_Mo_takes T i c ((13 * ((3 * (1 - i)) + c)) + (j + 1)) ((T 13 ((13 * ((3 * (1 - i)) + c)) + (j + 1))) + (zs_fl w)) (zs_n (T 14 (13 * (3 * (1 - i) + c) + (j + 1)))) (zs_n (T 16 (13 * (3 * (1 - i) + c) + (j + 1)))) (zs_n (T 21 i))) 18 ((13 * ((3 * (1 - i)) + c)) + (j + 1)) (nI 2)) 10 ((3 * i) + c) (nI ((j + 1) + 1)))) else (if (zu_Mo_takes T i c ((13 * ((3 * (1 - i)) + c)) + (j + 1)) ((T 13 ((13 * ((3 * (1 - i)) + c)) + (j + 1))) + (zs_fl w)) (zs_n (T 14 (13 * (3 * (1 - i) + c) + (j + 1)))) (zs_n (T 16 (13 * (3 * (1 - i) + c) + (j + 1)))) (zs_n (T 21 i))) 8 ((3 * i) + c) = 0 then (zs_w (zu_Mo_takes T i c ((13 * ((3 * (1 - i)) + c)) + (j + 1)) ((T 13 ((13 * ((3 * (1 - i)) + c)) + (j + 1))) + (zs_fl w)) (zs_n (T 14 (13 * (3 * (1 - i) + c) + (j + 1)))) (zs_n (T 16 (13 * (3 * (1 - i) + c) + (j + 1)))) (zs_n (T 21 i))) 18 ((13 * ((3 * (1 - i)) + c)) + (j + 1)) (nI 1)) else (zs_w (zs_w (zu_Mo_takes T i c ((13 * ((3 * (1 - i)) + c)) + (j + 1)) ((T 13 ((13 * ((3 * (1 - i)) + c)) + (j + 1))) + (zs_fl w)) (zs_n (T 14 (13 * (3 * (1 - i) + c) + (j + 1)))) (zs_n (T 16 (13 * (3 * (1 - i) + c) + (j + 1)))) (zs_n (T 21 i))) 18 ((13 * ((3 * (1 - i)) + c)) + (j + 1)) (nI 1)) 10 ((3 * i) + c) (nI ((j + 1) + 1))))) else T)) := by
        intro Q hQ
        rw [zl_pvP h hi hc hj, zl_pvP h hi hc hj, zl_pr h (by omega) hc hj, zl_pr h (by omega) hc hj]
        rcases hw with rfl | rfl
        · rw [show zs_fl 0 = nI 0 from rfl] at hQ ⊢
          rw [← hQ]
          simp only [zl_a0]
          rw [t.1]
          simp only [↓reduceIte]
          by_cases q : Q = 0
          · simp only [if_pos q]
            have h7' : ∀ a, zu_Mo_takes T i c (13 * (3 * (1 - i) + c) + (j + 1)) a (zs_n (T 14 (13 * (3 * (1 - i) + c) + (j + 1)))) (zs_n (T 16 (13 * (3 * (1 - i) + c) + (j + 1)))) (zs_n (T 21 i)) 7 (3 * i + c) = nI 3 := fun a => (zl_tkx (by decide) (by decide) (by decide) (by decide) (by decide)).trans a7
            have n1 := zl_note (a := nI 1) t.2 hi hc hj (h7' _) (Or.inl rfl)
            have n2 := zl_note (a := nI 2) t.2 hi hc hj (h7' _) (Or.inr rfl)
            by_cases y : zr_Mo_takes T i c (13 * (3 * (1 - i) + c) + (j + 1)) (T 13 (13 * (3 * (1 - i) + c) + (j + 1))) (zs_n (T 14 (13 * (3 * (1 - i) + c) + (j + 1)))) (zs_n (T 16 (13 * (3 * (1 - i) + c) + (j + 1)))) (zs_n (T 21 i)) = 0
            · simp only [if_pos y]
              exact ⟨trivial, n2⟩
            · simp only [if_neg y]
              exact ⟨trivial, n1⟩
          · simp only [if_neg q]
            exact ⟨trivial, h⟩
        · rw [show zs_fl 1 = nI 1 from rfl] at hQ ⊢
          have q := zl_wrong (x := x) h hi hc hj
          rw [← hQ] at q ⊢
          simp (decide := true) only [if_neg q, ↓reduceIte]
          exact ⟨trivial, h⟩
      have m := main _ rfl
      rcases zl_e8 h (e := 3 * i + c) (by omega) with e8 | e8
      · have e80 : T 8 (3 * i + c) = 0 := e8
        rw [if_pos e80] at rc
        by_cases g : T 18 (13 * (3 * (1 - i) + c) + (j + 1)) ≤ 0
        · have rc' := mt rc.mp (fun q => q g)
          simp only [if_neg rc', if_pos e80, if_pos g, ite_self]
          exact m
        · have rc' := rc.mpr g
          simp only [if_pos rc', if_pos e80, if_neg g]
          exact ⟨trivial, h⟩
      · have e80 : ¬ T 8 (3 * i + c) = 0 := by rw [e8]; decide
        rw [if_neg e80] at rc
        by_cases g : nI (j + 1) = T 10 (3 * i + c)
        · have rc' := mt rc.mp (fun q => q g)
          simp only [if_neg rc', if_neg e80, if_pos g, ite_self]
          exact m
        · have rc' := rc.mpr g
          simp only [if_pos rc', if_neg e80, if_neg g]
          exact ⟨trivial, h⟩
    · simp only [if_neg a15]
      exact ⟨trivial, h⟩
  · simp only [if_neg a7]
    exact ⟨trivial, h⟩
