/-! words for the specs -/
def zs_mix (h x : Int32) : Int32 := (h ^^^ x) * 73244475 ^^^ (((h ^^^ x) * 73244475).toUInt32 >>> ((nI 15).toUInt32 &&& Int32.toUInt32 31)).toInt32
def zs_print (f : Nat → Int32) (x : Int32) : Int32 := zs_mix (zs_mix (zs_mix (zs_mix (zs_mix (nI 3) (f 0)) (f 1 + x)) (nI 4 * f 2 + f 3)) (f 4)) (f 5)
abbrev zs_n (x : Int32) : Nat := x.toNatClampNeg
abbrev zs_v (x : Int32) (n : Nat) : Prop := ∃ j : Nat, j < n ∧ x = nI j
abbrev zs_hd (S : zs_S) (i : Nat) (h : Int32) : Prop := ¬ h < nI 1 ∧ ¬ nI 512 < h ∧ ¬ S 9 i 0 h.toNatClampNeg = 0
abbrev zs_kp (S : zs_S) (i : Nat) (h : Int32) : Prop := ¬ h < nI 1 ∧ ¬ S 2 i 0 0 < h ∧ ¬ h ≤ S 2 i 0 0 - nI 8
abbrev zs_B (S : zs_S) : Prop := ∀ i j k, S 5 i j k = 0 ∨ S 5 i j k = 1
def zs_bb (ch ba : Nat → Int32) (k c : Nat) : Int32 := if nI k = 0 then nI 0 else (if ch k = nI c then nI 1 + ba k else nI 0)
def zs_st (v : Int32) : Int32 := v / nI 2
def zs_or (v : Int32) : Int32 := v - v / nI 2 * nI 2
def zs_nx (v : Int32) : Int32 := if nI 1 < v then v else nI 1
def zs_rc (S : zs_S) (i o : Nat) (h : Int32) : Int32 := if zs_hd S i h then (if zs_kp S o h then nI 0 else (-4)) else (-3)
def zs_pv (S : zs_S) (i o : Nat) (h : Int32) (k : Nat) (v : Int32) : Int32 := if zs_rc S i o h = 0 then (if S 5 o (h.toNatClampNeg % 8 + 1) k = 0 then (-5) else (if S 4 o (h.toNatClampNeg % 8 + 1) k = v then nI 0 else (-5))) else zs_rc S i o h
def zs_pa (S : zs_S) (i o : Nat) (h : Int32) (k : Nat) : Int32 := if zs_rc S i o h = 0 then (if S 5 o (h.toNatClampNeg % 8 + 1) k = 0 then nI 0 else (-5)) else zs_rc S i o h
/-- the voucher among k, .., k + r - 1 -/
def zs_fv (ba ch : Nat → Int32) (x y : Int32) (k : Nat) : Nat → Nat
  | 0 => 0
  | r + 1 => if ba k = x then (if ch k = y then k else zs_fv ba ch x y (k + 1) r) else zs_fv ba ch x y (k + 1) r
theorem zs_fv_le (ba ch : Nat → Int32) (x y : Int32) : ∀ (r k : Nat), zs_fv ba ch x y k r ≤ k + r - 1
  | 0, k => Nat.zero_le _
  | r + 1, k => by
    have ih := zs_fv_le ba ch x y r (k + 1)
    unfold zs_fv
    split
    · split
      · omega
      · omega
    · omega
/-- a packet's numbers are places -/
abbrev zs_PK (S : zs_S) (i j : Nat) : Prop := (S 20 i j 0 = nI (zs_n (S 20 i j 0)) ∧ zs_n (S 20 i j 0) < 6) ∧ (S 20 i j 2 = nI (zs_n (S 20 i j 2)) ∧ zs_n (S 20 i j 2) < 4) ∧ (S 20 i j 3 = nI (zs_n (S 20 i j 3)) ∧ zs_n (S 20 i j 3) < 4) ∧ (S 20 i j 5 = nI (zs_n (S 20 i j 5)) ∧ zs_n (S 20 i j 5) ≤ 6)
/-- the copy of the main store of ledger i, its first n slots, into its state j -/
def zs_cp (S : zs_S) (i j n : Nat) : zs_S := fun t i' j' k => if (t = 4 ∨ t = 5) ∧ i' = i ∧ j' = j ∧ k < n then S t i 0 k else S t i' j' k
theorem zs_cp0 {S : zs_S} {i j : Nat} : zs_cp S i j 0 = S := by
  funext t i' j' k
  simp [zs_cp]
theorem zs_cpn {S : zs_S} {i j n t i' j' k : Nat} (h4 : ¬ t = 4) (h5 : ¬ t = 5) : zs_cp S i j n t i' j' k = S t i' j' k := by
  simp [zs_cp, h4, h5]
theorem zs_cpj {S : zs_S} {i j n t i' j' k : Nat} (h : ¬ j' = j) : zs_cp S i j n t i' j' k = S t i' j' k := by
  simp [zs_cp, h]
theorem zs_cps {S : zs_S} {i j n : Nat} : zs_u (zs_u (zs_cp S i j n) 4 i j n (S 4 i 0 n)) 5 i j n (S 5 i 0 n) = zs_cp S i j (n + 1) := by
  funext t i' j' k
  by_cases h5 : t = 5 ∧ i' = i ∧ j' = j ∧ k = n
  · obtain ⟨rfl, rfl, rfl, rfl⟩ := h5
    simp [zs_u, zs_cp]
  · rw [zs_un h5]
    by_cases h4 : t = 4 ∧ i' = i ∧ j' = j ∧ k = n
    · obtain ⟨rfl, rfl, rfl, rfl⟩ := h4
      simp [zs_u, zs_cp]
    · rw [zs_un h4]
      unfold zs_cp
      by_cases h : (t = 4 ∨ t = 5) ∧ i' = i ∧ j' = j ∧ k < n
      · rw [if_pos h, if_pos ⟨h.1, h.2.1, h.2.2.1, Nat.lt_succ_of_lt h.2.2.2⟩]
      · rw [if_neg h, if_neg]
        rintro ⟨ht, hi, hj, hk⟩
        have hkn : ¬ k = n := by
          intro e
          rcases ht with rfl | rfl
          · exact h4 ⟨rfl, hi, hj, e⟩
          · exact h5 ⟨rfl, hi, hj, e⟩
        exact h ⟨ht, hi, hj, by omega⟩
theorem zs_idv {S : zs_S} {t i j k : Nat} {v : Int32} (h : S t i j k = v) : zs_u S t i j k v = S := by
  funext t' i' j' k'
  by_cases e : t' = t ∧ i' = i ∧ j' = j ∧ k' = k
  · obtain ⟨rfl, rfl, rfl, rfl⟩ := e
    rw [zs_us, h]
  · rw [zs_un e]
theorem zn_nn {p : Prop} (h : ¬ ¬ p) : p := Classical.byContradiction h
theorem zn_n0 {h : Int32} (h2 : ¬ h < nI 1) : ¬ h < 0 := fun z => h2 (Int32.lt_trans z (by decide))
theorem zn_le512 {q : Nat} (hq : q < 2 ^ 31) (h : ¬ nI 512 < nI q) : q ≤ 512 := by
  apply Nat.le_of_not_lt
  intro z
  exact h ((nI_ltI (by decide) hq).mpr z)
theorem zn_pos1 {x : Int32} {b : Nat} (h : x = nI b) (hn : ¬ x ≤ 0) : 1 ≤ b := by
  apply Nat.one_le_iff_ne_zero.mpr
  intro e
  subst e
  apply hn
  rw [h]
  decide
theorem zn_neT {x : Int32} {k : Int32} (h : ¬ x = k) : x.toInt ≠ k.toInt := fun q => h (Int32.toInt_inj.mp q)
theorem zs_vi {x : Int32} {n : Nat} (hn : n < 2 ^ 31) (h1 : ¬ x < 0) (h2 : ¬ nI n ≤ x) : zs_v x n := by
  rcases pk_ix x hn with h | h | ⟨j, hj, e⟩
  · exact absurd h h1
  · exact absurd h h2
  · exact ⟨j, hj, e⟩
theorem zs_kpq {S : zs_S} {i : Nat} {h : Int32} (z : zs_kp S i h) : ∃ q : Nat, q < 2 ^ 31 ∧ h = nI q := nI_of (zn_n0 z.1)
theorem zs_rch {S : zs_S} {i o : Nat} {h : Int32} (z : zs_rc S i o h = 0) : zs_hd S i h ∧ zs_kp S o h := by
  unfold zs_rc at z
  split at z
  · rename_i h1
    split at z
    · rename_i h2
      exact ⟨h1, h2⟩
    · exact absurd z (by decide)
  · exact absurd z (by decide)
theorem zs_rcq {S : zs_S} {i o : Nat} {h : Int32} (z : zs_rc S i o h = 0) : ∃ q : Nat, q < 2 ^ 31 ∧ h = nI q := nI_of (zn_n0 (zs_rch z).1.1)
/-- what a ledger's client learns; a new block -/
def zs_ln (S : zs_S) (i q : Nat) : zs_S := zs_u (zs_u S 9 i 0 q (nI 1)) 8 i 0 0 (if S 8 i 0 0 < nI q then nI q else S 8 i 0 0)
def zs_mb (S : zs_S) (i : Nat) : zs_S := zs_cp (zs_u S 2 i 0 0 (nI (zs_n (S 2 i 0 0) + 1))) i ((zs_n (S 2 i 0 0) + 1) % 8 + 1) 114
/-! the reference -/
theorem zs_idw {T : zs_T} {x k : Nat} {v : Int32} (h : T x k = v) : zs_w T x k v = T := by
  funext x' k'
  by_cases e : x' = x ∧ k' = k
  · obtain ⟨rfl, rfl⟩ := e
    rw [zs_ws, h]
  · rw [zs_wn e]
def zs_fl (w : Int32) : Int32 := if w = 0 then nI 0 else nI 1
/-- a key and its value are listed at ledger i's newest height -/
def zs_li (T : zs_T) (i : Nat) (y v : Int32) : zs_T := zs_w (zs_w (zs_w T 5 (128 * (8 * i + zs_n (T 1 i) % 8) + zs_n (T 4 (8 * i + zs_n (T 1 i) % 8))) y) 6 (128 * (8 * i + zs_n (T 1 i) % 8) + zs_n (T 4 (8 * i + zs_n (T 1 i) % 8))) v) 4 (8 * i + zs_n (T 1 i) % 8) (nI (zs_n (T 4 (8 * i + zs_n (T 1 i) % 8)) + 1))
def zs_mp (T : zs_T) (q : Nat) (x : Int32) : Int32 := zs_mix (zs_mix (zs_mix (zs_mix (zs_mix (nI 3) (T 12 q)) x) (T 14 q)) (T 15 q)) (T 16 q)
abbrev zs_mk (T : zs_T) (i : Nat) (h : Int32) : Prop := ¬ h < nI 1 ∧ ¬ T 1 i < h ∧ ¬ h ≤ T 1 i - nI 8
abbrev zs_mn (T : zs_T) (i : Nat) (h : Int32) : Prop := ¬ (h < nI 1 ∨ nI 1099 < h) ∧ ¬ T 2 (1100 * i + h.toNatClampNeg) = 0
abbrev zs_MP (T : zs_T) (q : Nat) : Prop := (T 12 q = nI (zs_n (T 12 q)) ∧ zs_n (T 12 q) < 6) ∧ (T 14 q = nI (zs_n (T 14 q)) ∧ zs_n (T 14 q) < 16) ∧ (T 16 q = nI (zs_n (T 16 q)) ∧ zs_n (T 16 q) ≤ 6)
def zs_jo (T : zs_T) (n : Nat) : zs_T := zs_w (zs_w T 24 (n - 2) (zs_mix (zs_mix (nI 2) (T 24 (n - 2))) (T 24 (n - 1)))) 25 (n - 2) (T 25 (n - 2) + T 25 (n - 1))
def zs_sg (x : Int32) : Int32 := (x &&& nI 1) + (x >>> (nI 1 &&& 31) &&& nI 1) + (x >>> (nI 2 &&& 31) &&& nI 1) + (x >>> (nI 3 &&& 31) &&& nI 1)
def zs_mw (T : zs_T) (i q : Nat) : zs_T := zs_w (zs_w T 2 (1100 * i + q) (nI 1)) 3 i (if nI q ≤ T 3 i then T 3 i else nI q)
def zs_mur (T : zs_T) (i : Nat) (h x w : Int32) : Int32 := if h < nI 1 ∨ T 1 (1 - i) < h then (-1) else (if w = 0 then (if nI 3 ≤ zs_sg x then nI 0 else (-6)) else (-6))
def zs_mus (T : zs_T) (i : Nat) (h x w : Int32) : zs_T := if h < nI 1 ∨ T 1 (1 - i) < h then T else (if w = 0 then (if nI 3 ≤ zs_sg x then zs_mw T i h.toNatClampNeg else T) else T)
theorem zn_ins {i a b : Nat} (h1 : a ≤ i) (h2 : i ≤ b) (hb : b < 2 ^ 31) : ¬ (nI i < nI a ∨ nI b < nI i) := by
  rintro (z | z)
  · have := (nI_ltI (by omega) (by omega)).mp z
    omega
  · have := (nI_ltI (by omega) (by omega)).mp z
    omega
theorem zn_ltle {x y : Int32} (h : y < x) (h2 : x ≤ y) : False := by
  have a := Int32.lt_iff_toInt_lt.mp h
  have b := Int32.le_iff_toInt_le.mp h2
  omega
theorem zn_nlelt {x y : Int32} (h : ¬ x ≤ y) : y < x := by
  apply Int32.lt_iff_toInt_lt.mpr
  have := mt Int32.le_iff_toInt_le.mpr h
  omega
theorem zs_vo {x : Int32} {n : Nat} (hn : n < 2 ^ 30) (h : ¬ (x < nI 0 ∨ nI n < x)) : zs_v x (n + 1) := by
  obtain ⟨j, hj, rfl⟩ := nI_of (x := x) (fun z => h (Or.inl z))
  refine ⟨j, ?_, rfl⟩
  apply Nat.lt_succ_of_le
  apply Nat.le_of_not_lt
  intro z
  exact h (Or.inr ((nI_ltI (by omega) hj).mpr z))
theorem zs_oq {x : Int32} {n : Nat} (hn : n < 2 ^ 30) (h : ¬ (x < nI 1 ∨ nI n < x)) : ∃ q : Nat, q ≤ n ∧ 1 ≤ q ∧ x = nI q := by
  obtain ⟨j, hj, rfl⟩ := nI_of (x := x) (zn_n0 (fun z => h (Or.inl z)))
  refine ⟨j, ?_, ?_, rfl⟩
  · apply Nat.le_of_not_lt
    intro z
    exact h (Or.inr ((nI_ltI (by omega) hj).mpr z))
  · apply Nat.le_of_not_lt
    intro z
    exact h (Or.inl ((nI_ltI hj (by decide)).mpr z))
theorem zs_oq2 {x y : Int32} (hy : y = nI (zs_n y)) (h2 : zs_n y ≤ 1000) (h : ¬ (x < nI 1 ∨ y < x)) : ∃ q : Nat, q ≤ 1000 ∧ 1 ≤ q ∧ x = nI q := by
  rw [hy] at h
  obtain ⟨q, a, b, e⟩ := zs_oq (by omega) h
  exact ⟨q, by omega, b, e⟩
theorem zs_fvs {ba ch : Nat → Int32} {x y : Int32} {k r : Nat} : zs_fv ba ch x y k (r + 1) = if ba k = x then (if ch k = y then k else zs_fv ba ch x y (k + 1) r) else zs_fv ba ch x y (k + 1) r := rfl
/-- the reference's search of a key among the listed ones -/
def zs_sc (ks vs : Nat → Int32) (y f v : Int32) (k : Nat) : Nat → Int32
  | 0 => if f = 0 then (-5) else nI 0
  | r + 1 => if ks k = y then (if f = 0 then (if vs k = v then nI 0 else (-5)) else (-5)) else zs_sc ks vs y f v (k + 1) r
theorem zs_sc0 {ks vs : Nat → Int32} {y f v : Int32} {k : Nat} : zs_sc ks vs y f v k 0 = if f = 0 then (-5) else nI 0 := rfl
theorem zs_scs {ks vs : Nat → Int32} {y f v : Int32} {k r : Nat} : zs_sc ks vs y f v k (r + 1) = if ks k = y then (if f = 0 then (if vs k = v then nI 0 else (-5)) else (-5)) else zs_sc ks vs y f v (k + 1) r := rfl
def zs_pf (T : zs_T) (i : Nat) (h y f v : Int32) : Int32 := if zs_mn T i h then (if zs_mk T (1 - i) h then zs_sc (T 5) (T 6) y f v (128 * (8 * (1 - i) + h.toNatClampNeg % 8)) (zs_n (T 4 (8 * (1 - i) + h.toNatClampNeg % 8))) else (-4)) else (-3)
theorem zs_mkq {T : zs_T} {i : Nat} {h : Int32} (z : zs_mk T i h) : ∃ q : Nat, q < 2 ^ 31 ∧ h = nI q := nI_of (zn_n0 z.1)
/-- the list of ledger i's newest height has at most b entries -/
abbrev zs_LT (T : zs_T) (i b : Nat) : Prop := (T 1 i = nI (zs_n (T 1 i)) ∧ zs_n (T 1 i) < 1000) ∧ (T 4 (8 * i + zs_n (T 1 i) % 8) = nI (zs_n (T 4 (8 * i + zs_n (T 1 i) % 8))) ∧ zs_n (T 4 (8 * i + zs_n (T 1 i) % 8)) ≤ b)
theorem zs_LTm {T : zs_T} {i b b' : Nat} (h : zs_LT T i b) (hb : b ≤ b') : zs_LT T i b' := ⟨h.1, h.2.1, Nat.le_trans h.2.2 hb⟩
theorem zs_li1 {T : zs_T} {i : Nat} {y v : Int32} {k : Nat} : zs_li T i y v 1 k = T 1 k := by
  unfold zs_li
  rw [zs_wx (by decide), zs_wx (by decide), zs_wx (by decide)]
theorem zs_LTl {T : zs_T} {i b : Nat} {y v : Int32} (h : zs_LT T i b) (hb : b ≤ 127) : zs_LT (zs_li T i y v) i (b + 1) := by
  have e1 : zs_li T i y v 1 i = T 1 i := zs_li1
  have e4 : zs_li T i y v 4 (8 * i + zs_n (T 1 i) % 8) = nI (zs_n (T 4 (8 * i + zs_n (T 1 i) % 8)) + 1) := by
    unfold zs_li
    rw [zs_ws]
  have hz := h.2.2
  unfold zs_LT
  rw [e1, e4, show zs_n (nI (zs_n (T 4 (8 * i + zs_n (T 1 i) % 8)) + 1)) = zs_n (T 4 (8 * i + zs_n (T 1 i) % 8)) + 1 from nI_clamp (by omega)]
  exact ⟨h.1, rfl, by omega⟩
/-- steps from k on, r of them -/
def zs_it (f : Nat → zs_T → zs_T) (T : zs_T) (k : Nat) : Nat → zs_T
  | 0 => T
  | r + 1 => zs_it f (f k T) (k + 1) r
theorem zs_its {f : Nat → zs_T → zs_T} {i : Nat} (hf : ∀ k b T, b ≤ 127 → zs_LT T i b → zs_LT (f k T) i (b + 1)) : ∀ (r k b : Nat) (T : zs_T), b + r ≤ 128 → zs_LT T i b → zs_LT (zs_it f T k r) i (b + r)
  | 0, _, _, _, _, h => h
  | r + 1, k, b, T, hb, h => by
    have := zs_its hf r (k + 1) (b + 1) (f k T) (by omega) (hf k b T (by omega) h)
    rw [show b + (r + 1) = b + 1 + r by omega]
    exact this
def zs_t1 (i c : Nat) (T : zs_T) : zs_T := if T 7 (3 * i + c) ≤ 0 then T else (if T 8 (3 * i + c) = 0 then zs_li T i (nI (4096 + c)) (nI 2 * T 7 (3 * i + c) + nI 0) else zs_li T i (nI (4096 + c)) (nI 2 * T 7 (3 * i + c) + nI 1))
def zs_t2 (i c : Nat) (T : zs_T) : zs_T := if T 7 (3 * i + c) ≤ 0 then T else (if T 8 (3 * i + c) = 0 then T else zs_li T i (nI (8192 + c)) (T 10 (3 * i + c)))
theorem zs_LT1 {T : zs_T} {i b c : Nat} (h : zs_LT T i b) (hb : b ≤ 127) : zs_LT (zs_t1 i c T) i (b + 1) := by
  unfold zs_t1
  split
  · exact zs_LTm h (by omega)
  · split
    · exact zs_LTl h hb
    · exact zs_LTl h hb
theorem zs_LT2 {T : zs_T} {i b c : Nat} (h : zs_LT T i b) (hb : b ≤ 127) : zs_LT (zs_t2 i c T) i (b + 1) := by
  unfold zs_t2
  split
  · exact zs_LTm h (by omega)
  · split
    · exact zs_LTm h (by omega)
    · exact zs_LTl h hb
def zs_tk0 (T : zs_T) (i : Nat) : zs_T := zs_w (zs_w T 1 i (nI (zs_n (T 1 i) + 1))) 4 (8 * i + (zs_n (T 1 i) + 1) % 8) (nI 0)
theorem zs_LT0 {T : zs_T} {i : Nat} (hh2 : zs_n (T 1 i) < 999) : zs_LT (zs_tk0 T i) i 0 := by
  have e1 : zs_tk0 T i 1 i = nI (zs_n (T 1 i) + 1) := by
    unfold zs_tk0
    rw [zs_wx (by decide), zs_ws]
  have en : zs_n (nI (zs_n (T 1 i) + 1)) = zs_n (T 1 i) + 1 := nI_clamp (by omega)
  have e4 : zs_tk0 T i 4 (8 * i + (zs_n (T 1 i) + 1) % 8) = nI 0 := by
    unfold zs_tk0
    rw [zs_ws]
  unfold zs_LT
  rw [e1, en, e4]
  exact ⟨⟨rfl, by omega⟩, rfl, Nat.le_refl _⟩
/-! the class's root -/
def zs_key (k : Nat) : Int32 := if 3 ≤ k then (if 6 ≤ k then nI (12288 + 4096 * ((k - 6) / 36) + 64 * ((k - 6) % 36 / 12) + ((k - 6) % 36 % 12 + 1)) else nI (8192 + k - 3)) else nI (4096 + k)
/-- ledger i's row of nodes holds g -/
def zs_nd (S : zs_S) (i : Nat) (g : Nat → Int32) : zs_S := fun t i' j' k => if t = 7 ∧ i' = i ∧ j' = 0 then g k else S t i' j' k
theorem zs_nd7 {S : zs_S} {i k : Nat} {g : Nat → Int32} : zs_nd S i g 7 i 0 k = g k := by simp [zs_nd]
theorem zs_ndt {S : zs_S} {i t i' j' k : Nat} {g : Nat → Int32} (h : ¬ t = 7) : zs_nd S i g t i' j' k = S t i' j' k := by simp [zs_nd, h]
theorem zs_nd0 {S : zs_S} {i : Nat} : zs_nd S i (S 7 i 0) = S := by
  funext t i' j' k
  unfold zs_nd
  split
  · rename_i h
    obtain ⟨rfl, rfl, rfl⟩ := h
    rfl
  · rfl
theorem zs_ndu {S : zs_S} {i n : Nat} {g : Nat → Int32} {v : Int32} : zs_u (zs_nd S i g) 7 i 0 n v = zs_nd S i (upd g n v) := by
  funext t i' j' k
  by_cases h : t = 7 ∧ i' = i ∧ j' = 0
  · obtain ⟨rfl, rfl, rfl⟩ := h
    rw [zs_nd7]
    by_cases hk : k = n
    · subst hk
      rw [zs_us, pk_us]
    · rw [zs_uk hk, zs_nd7, pk_un hk]
  · rw [zs_un (fun q => h ⟨q.1, q.2.1, q.2.2.1⟩)]
    simp only [zs_nd, if_neg h]
def zs_leaf (va : Nat → Int32) (k : Nat) : Int32 := zs_mix (zs_mix (nI 1) (zs_key k)) (va k)
/-- the leaves of the slots k, .., k + r - 1 that are there, laid from place n on: their number, the row -/
def zs_c1 (th : Nat → Int32) (n k : Nat) : Nat → Nat
  | 0 => n
  | r + 1 => if th k = 0 then zs_c1 th n (k + 1) r else zs_c1 th (n + 1) (k + 1) r
def zs_g1 (th va : Nat → Int32) (g : Nat → Int32) (n k : Nat) : Nat → Nat → Int32
  | 0 => g
  | r + 1 => if th k = 0 then zs_g1 th va g n (k + 1) r else zs_g1 th va (upd g n (zs_leaf va k)) (n + 1) (k + 1) r
theorem zs_c1s {th : Nat → Int32} {n k r : Nat} : zs_c1 th n k (r + 1) = if th k = 0 then zs_c1 th n (k + 1) r else zs_c1 th (n + 1) (k + 1) r := rfl
theorem zs_g1s {th va g : Nat → Int32} {n k r : Nat} : zs_g1 th va g n k (r + 1) = if th k = 0 then zs_g1 th va g n (k + 1) r else zs_g1 th va (upd g n (zs_leaf va k)) (n + 1) (k + 1) r := rfl
theorem zs_c1le {th : Nat → Int32} : ∀ (r n k : Nat), zs_c1 th n k r ≤ n + r
  | 0, n, k => Nat.le_refl _
  | r + 1, n, k => by
    have a := zs_c1le (th := th) r n (k + 1)
    have b := zs_c1le (th := th) r (n + 1) (k + 1)
    rw [zs_c1s]
    split <;> omega
/-- one pass at stride st, from place a on -/
def zs_g2 (g : Nat → Int32) (n st a : Nat) : Nat → Nat → Int32
  | 0 => g
  | f + 1 => if n ≤ a + st then g else zs_g2 (upd g a (zs_mix (zs_mix (nI 2) (g a)) (g (a + st)))) n st (a + 2 * st) f
theorem zs_g2s {g : Nat → Int32} {n st a f : Nat} : zs_g2 g n st a (f + 1) = if n ≤ a + st then g else zs_g2 (upd g a (zs_mix (zs_mix (nI 2) (g a)) (g (a + st)))) n st (a + 2 * st) f := rfl
def zs_g3 (g : Nat → Int32) (n st : Nat) : Nat → Nat → Int32
  | 0 => g
  | f + 1 => if n ≤ st then g else zs_g3 (zs_g2 g n st 0 n) n (st * 2) f
theorem zs_g3s {g : Nat → Int32} {n st f : Nat} : zs_g3 g n st (f + 1) = if n ≤ st then g else zs_g3 (zs_g2 g n st 0 n) n (st * 2) f := rfl
def zs_rn (th va g : Nat → Int32) : Nat → Int32 := if zs_c1 th 0 0 114 = 0 then zs_g1 th va g 0 0 114 else zs_g3 (zs_g1 th va g 0 0 114) (zs_c1 th 0 0 114) 1 (zs_c1 th 0 0 114)
def zs_rt (th va g : Nat → Int32) : Int32 := if zs_c1 th 0 0 114 = 0 then nI 0 else zs_rn th va g 0
def zs_ra (S : zs_S) (i : Nat) (h : Int32) : Int32 := if zs_kp S i h then zs_rt (S 5 i (h.toNatClampNeg % 8 + 1)) (S 4 i (h.toNatClampNeg % 8 + 1)) (S 7 i 0) else nI 0
def zs_rs (S : zs_S) (i : Nat) (h : Int32) : zs_S := if zs_kp S i h then zs_nd S i (zs_rn (S 5 i (h.toNatClampNeg % 8 + 1)) (S 4 i (h.toNatClampNeg % 8 + 1)) (S 7 i 0)) else S
theorem zn_z0 {n : Nat} (hn : n < 2 ^ 31) (h : nI n = 0) : n = 0 := (nI_eq hn (by decide)).mp h
theorem zn_z1 {n : Nat} (h : ¬ nI n = 0) : ¬ n = 0 := fun e => h (by rw [e]; rfl)
/-! the reference's root -/
def zs_q1 (T : zs_T) (n k : Nat) : zs_T := zs_w (zs_w T 24 n (zs_mix (zs_mix (nI 1) (T 5 k)) (T 6 k))) 25 n (nI 1)
def zs_jw : Nat → zs_T → zs_T × Nat
  | 0, T => (T, 0)
  | 1, T => (T, 1)
  | n + 2, T => if T 25 n = T 25 (n + 1) then zs_jw (n + 1) (zs_jo T (n + 2)) else (T, n + 2)
theorem zs_jw2 {n : Nat} {T : zs_T} : zs_jw (n + 2) T = if T 25 n = T 25 (n + 1) then zs_jw (n + 1) (zs_jo T (n + 2)) else (T, n + 2) := rfl
def zs_jf : Nat → zs_T → zs_T
  | 0, T => T
  | 1, T => T
  | n + 2, T => zs_jf (n + 1) (zs_jo T (n + 2))
theorem zs_jf2 {n : Nat} {T : zs_T} : zs_jf (n + 2) T = zs_jf (n + 1) (zs_jo T (n + 2)) := rfl
def zs_jn (n : Nat) : Nat := if n = 0 then 0 else 1
def zs_qa (T : zs_T) (n k : Nat) : Nat → zs_T × Nat
  | 0 => (T, n)
  | r + 1 => zs_qa (zs_jw (n + 1) (zs_q1 T n k)).1 (zs_jw (n + 1) (zs_q1 T n k)).2 (k + 1) r
theorem zs_qas {T : zs_T} {n k r : Nat} : zs_qa T n k (r + 1) = zs_qa (zs_jw (n + 1) (zs_q1 T n k)).1 (zs_jw (n + 1) (zs_q1 T n k)).2 (k + 1) r := rfl
theorem zs_jwle : ∀ (n : Nat) (T : zs_T), (zs_jw n T).2 ≤ n
  | 0, _ => Nat.le_refl _
  | 1, _ => Nat.le_refl _
  | n + 2, T => by
    rw [zs_jw2]
    split
    · have := zs_jwle (n + 1) (zs_jo T (n + 2))
      omega
    · exact Nat.le_refl _
theorem zs_jwk : ∀ (n : Nat) (T : zs_T) (x k : Nat), x ≠ 24 → x ≠ 25 → (zs_jw n T).1 x k = T x k
  | 0, _, _, _, _, _ => rfl
  | 1, _, _, _, _, _ => rfl
  | n + 2, T, x, k, h4, h5 => by
    rw [zs_jw2]
    split
    · rw [zs_jwk (n + 1) _ x k h4 h5]
      unfold zs_jo
      rw [zs_wx h5, zs_wx h4]
    · rfl
def zs_mrp (T : zs_T) (a : Nat) : zs_T × Nat := zs_qa T 0 (128 * a) (zs_n (T 4 a))
def zs_mr (T : zs_T) (i : Nat) (h : Int32) : Int32 := if zs_mk T i h then (if (zs_mrp T (8 * i + h.toNatClampNeg % 8)).2 = 0 then nI 0 else zs_jf (zs_mrp T (8 * i + h.toNatClampNeg % 8)).2 (zs_mrp T (8 * i + h.toNatClampNeg % 8)).1 24 0) else nI 0
def zs_ms (T : zs_T) (i : Nat) (h : Int32) : zs_T := if zs_mk T i h then zs_jf (zs_mrp T (8 * i + h.toNatClampNeg % 8)).2 (zs_mrp T (8 * i + h.toNatClampNeg % 8)).1 else T
theorem zn_jn {n : Nat} : nI (zs_jn n) = 0 ↔ n = 0 := by
  unfold zs_jn
  by_cases h : n = 0
  · simp [h]; decide
  · simp [h]; decide
/-! Integer.bitCount; update -/
def zs_sh (x k : Int32) : Int32 := (x.toUInt32 >>> (k.toUInt32 &&& Int32.toUInt32 31)).toInt32
def zs_b1 (x : Int32) : Int32 := x - (zs_sh x (nI 1) &&& 1431655765)
def zs_b2 (x : Int32) : Int32 := (x &&& 858993459) + (zs_sh x (nI 2) &&& 858993459)
def zs_b3 (x : Int32) : Int32 := (x + zs_sh x (nI 4)) &&& 252645135
def zs_b4 (x : Int32) : Int32 := x + zs_sh x (nI 8)
def zs_b5 (x : Int32) : Int32 := x + zs_sh x (nI 16)
def zs_bc (x : Int32) : Int32 := zs_b5 (zs_b4 (zs_b3 (zs_b2 (zs_b1 x)))) &&& nI 63
def zs_cur (S : zs_S) (i : Nat) (h x w : Int32) : Int32 := if h < nI 1 then (-1) else (if h ≤ S 2 (1 - i) 0 0 then (if w = 0 then (if nI 3 ≤ zs_bc (x &&& nI 15) then nI 0 else (-6)) else (-6)) else (-1))
def zs_cus (S : zs_S) (i : Nat) (h x w : Int32) : zs_S := if h < nI 1 then S else (if h ≤ S 2 (1 - i) 0 0 then (if w = 0 then (if nI 3 ≤ zs_bc (x &&& nI 15) then zs_ln S i h.toNatClampNeg else S) else S) else S)
theorem zs_uq {h y : Int32} (hh : y = nI (zs_n y)) (hh2 : zs_n y ≤ 512) (h9 : ¬ h < nI 1) (h24 : h ≤ y) : ∃ q : Nat, q ≤ 512 ∧ 1 ≤ q ∧ h = nI q := by
  refine Exists.imp (fun q hq => ⟨?_, hq.2.1, hq.2.2⟩) (zs_oq (x := h) (n := zs_n y) (by omega) ?_)
  · exact Nat.le_trans hq.1 hh2
  · rintro (z | z)
    · exact h9 z
    · rw [← hh] at z
      exact zn_ltle z h24
