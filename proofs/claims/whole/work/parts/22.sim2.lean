/-! acknowledge, timeout -/
theorem zl_wc {T : zs_T} {x y k l : Nat} {v u : Int32} (h : x ≠ y) : zs_w (zs_w T x k v) y l u = zs_w (zs_w T y l u) x k v := by
  funext a b
  by_cases e : a = y ∧ b = l
  · obtain ⟨rfl, rfl⟩ := e
    rw [zs_ws, zs_wx (Ne.symm h), zs_ws]
  · rw [zs_wn e]
    by_cases f : a = x ∧ b = k
    · obtain ⟨rfl, rfl⟩ := f
      rw [zs_ws, zs_ws]
    · rw [zs_wn f, zs_wn f, zs_wn e]
theorem zl_w11 {T : zs_T} {y k l : Nat} {v u : Int32} (h : 11 ≠ y) : zs_w (zs_w T 11 k v) y l u = zs_w (zs_w T y l u) 11 k v := zl_wc h
theorem zl_setl {N : Nat} {S : zs_S} {T : zs_T} {i c j : Nat} {x : Int32} (h : zl_R N S T) (hi : i < 2) (hc : c < 3) (hj : j < 12) (hs : j < zs_n (T 9 (3 * i + c))) (hx : x = nI 1) : zl_R N (zu_Ledger_settle S i c j x) (zs_w T 17 (13 * (3 * i + c) + (j + 1)) x) := by
  unfold zu_Ledger_settle
  rw [if_pos hx]
  exact zl_settle h hi hc hj hs (by rw [hx]; decide)
theorem zl_setr {N : Nat} {S : zs_S} {T : zs_T} {i c j : Nat} {x : Int32} (h : zl_R N S T) (hi : i < 2) (hc : c < 3) (hj : j < 12) (hs : j < zs_n (T 9 (3 * i + c))) (hx : ¬ x = nI 1) (hx0 : x ≠ 0) : zl_R N (zu_Ledger_settle S i c j x) (zs_w (zs_w (zs_w T 17 (13 * (3 * i + c) + (j + 1)) x) 19 (24 * i + 6 * (zs_n (T 14 (13 * (3 * i + c) + (j + 1))) / 4) + zs_n (T 12 (13 * (3 * i + c) + (j + 1)))) (T 19 (24 * i + 6 * (zs_n (T 14 (13 * (3 * i + c) + (j + 1))) / 4) + zs_n (T 12 (13 * (3 * i + c) + (j + 1)))) + T 13 (13 * (3 * i + c) + (j + 1)))) 20 (18 * i + 6 * c + zs_n (T 12 (13 * (3 * i + c) + (j + 1)))) (if T 16 (13 * (3 * i + c) + (j + 1)) = 0 then T 20 (18 * i + 6 * c + zs_n (T 12 (13 * (3 * i + c) + (j + 1)))) - T 13 (13 * (3 * i + c) + (j + 1)) else T 20 (18 * i + 6 * c + zs_n (T 12 (13 * (3 * i + c) + (j + 1)))))) := by
  have h' := h
  obtain ⟨hJ, hB, hkept, hkp, he, hn, hp, hr, ha, hpk, h1, h9, h12, k1, k2, k3, k4, kN⟩ := h
  have z := hpk i c j hi hc hj
  have m := zs_JM hJ (q := 13 * (3 * i + c) + (j + 1)) (by omega)
  have kv := (k3 i c j hi hc hj).1
  unfold zu_Ledger_settle
  rw [if_neg hx, z.1, z.2.1, z.2.2.1, z.2.2.2.2.2.1, show zs_n (nI (zs_n (T 14 (13 * (3 * i + c) + (j + 1))) / 4)) = zs_n (T 14 (13 * (3 * i + c) + (j + 1))) / 4 from nI_clamp (by omega)]
  have hu : zs_n (T 14 (13 * (3 * i + c) + (j + 1))) / 4 < 4 := by omega
  have hk := m.1.2
  rw [h12.1 i _ _ hi hu hk, h12.2 i c _ hi hc hk, zl_iff (zl_le0 (by omega) m.2.2.1)]
  have R1 := zl_settle h' hi hc hj hs hx0
  have R2 := zl_purse (v := T 19 (24 * i + 6 * (zs_n (T 14 (13 * (3 * i + c) + (j + 1))) / 4) + zs_n (T 12 (13 * (3 * i + c) + (j + 1)))) + T 13 (13 * (3 * i + c) + (j + 1))) R1 hi hu hk (by rw [zs_wx (by decide)]; exact kv)
  exact zl_escrow R2 hi hc hk (by rw [zs_wx (by decide), zs_wx (by decide)]; exact kv)
theorem zl_i2 {i : Nat} (hi : i < 2) : 1 - (1 - i) = i := by omega
theorem zl_ackn {N : Nat} {S : zs_S} {T : zs_T} {i c j : Nat} {x : Int32} (h : zl_R N S T) (hi : i < 2) (hc : c < 3) (hj : j < 12) (hs : j < zs_n (T 9 (3 * i + c))) : zr_Ledger_settleAnswered S i (1 - i) c j x = zr_Mo_acknowledge T i c j x ∧ zl_R N (zu_Ledger_settleAnswered S i (1 - i) c j x) (zu_Mo_acknowledge T i c j x) := by
  have h' := h
  obtain ⟨hJ, hB, hkept, hkp, he, hn, hp, hr, ha, hpk, h1, h9, h12, k1, k2, k3, k4, kN⟩ := h
  have z6 := (hpk i c j hi hc hj).2.2.2.2.2.2
  have an := ha (1 - i) c j (by omega) hc hj
  have v18 := (k2 (1 - i) c j (by omega) hc hj).1
  rw [zl_i2 hi] at an v18
  have e18 := (h1.2.2.1 i c hi hc).2
  unfold zr_Ledger_settleAnswered zu_Ledger_settleAnswered zr_Mo_acknowledge zu_Mo_acknowledge
  rw [zl_st h' hi hc, zl_or h' hi hc, z6, an.1, an.2, e18, zl_pvA h' hi hc hj]
  generalize hQ : zs_pf T i x (nI (20480 + 64 * c + (j + 1))) (nI 0) (T 18 (13 * (3 * i + c) + (j + 1))) = Q
  by_cases a7 : T 7 (3 * i + c) = nI 3
  · simp only [if_pos a7]
    by_cases a17 : T 17 (13 * (3 * i + c) + (j + 1)) = 0
    · simp only [if_pos a17]
      rcases zl_e8 h' (e := 3 * i + c) (by omega) with e8 | e8
      · have e80 : T 8 (3 * i + c) = 0 := e8
        have e81 : ¬ T 8 (3 * i + c) = nI 1 := by rw [e8]; decide
        simp only [if_pos e80, if_neg e81]
        rcases v18 with v | v | v
        · simp (decide := true) only [v, ↓reduceIte]
          exact ⟨trivial, h'⟩
        · by_cases q : Q = 0
          · have R := zl_setl h' hi hc hj hs rfl
            simp (decide := true) only [v, if_pos q, ↓reduceIte]
            exact ⟨trivial, R⟩
          · simp (decide := true) only [v, if_neg q, ↓reduceIte]
            exact ⟨trivial, h'⟩
        · by_cases q : Q = 0
          · have R := zl_setr (x := nI 2) h' hi hc hj hs (by decide) (by decide)
            simp (decide := true) only [v, if_pos q, ↓reduceIte]
            exact ⟨trivial, R⟩
          · simp (decide := true) only [v, if_neg q, ↓reduceIte]
            exact ⟨trivial, h'⟩
      · have e80 : ¬ T 8 (3 * i + c) = 0 := by rw [e8]; decide
        simp only [if_neg e80, if_pos e8]
        by_cases g : nI (j + 1) = T 11 (3 * i + c)
        · simp only [if_pos g]
          have A := zl_ack (v := nI (j + 1 + 1)) h' hi hc
          have hs' : j < zs_n (zs_w T 11 (3 * i + c) (nI (j + 1 + 1)) 9 (3 * i + c)) := by rw [zs_wx (by decide)]; exact hs
          rcases v18 with v | v | v
          · simp (decide := true) only [v, ↓reduceIte]
            exact ⟨trivial, h'⟩
          · by_cases q : Q = 0
            · have R := zl_setl A hi hc hj hs' rfl
              rw [zl_w11 (by decide)] at R
              simp (decide := true) only [v, if_pos q, ↓reduceIte]
              exact ⟨trivial, R⟩
            · simp (decide := true) only [v, if_neg q, ↓reduceIte]
              exact ⟨trivial, h'⟩
          · by_cases q : Q = 0
            · have R := zl_setr (x := nI 2) A hi hc hj hs' (by decide) (by decide)
              simp (discharger := decide) only [zs_wx] at R
              rw [zl_w11 (by decide), zl_w11 (by decide), zl_w11 (by decide)] at R
              simp (decide := true) only [v, if_pos q, ↓reduceIte]
              exact ⟨trivial, R⟩
            · simp (decide := true) only [v, if_neg q, ↓reduceIte]
              exact ⟨trivial, h'⟩
        · simp only [if_neg g, ite_self]
          exact ⟨trivial, h'⟩
    · simp only [if_neg a17, ite_self]
      exact ⟨trivial, h'⟩
  · simp only [if_neg a7]
    exact ⟨trivial, h'⟩
theorem zl_nr {N : Nat} {S : zs_S} {T : zs_T} {i c j : Nat} {x : Int32} (h : zl_R N S T) (hi : i < 2) (hc : c < 3) (hj : j < 12) : zr_Ledger_proveNotReceived S i (1 - i) c j x = zr_Mo_notReceived T i c j x := by
  unfold zr_Ledger_proveNotReceived zr_Mo_notReceived
  rw [zl_or h hi hc, zl_nx h (show 1 - i < 2 by omega) hc, zl_pvN h hi hc, zl_paR h hi hc hj]
  rcases zl_e8 h (e := 3 * i + c) (by omega) with e8 | e8
  · have e80 : T 8 (3 * i + c) = 0 := e8
    have e81 : ¬ T 8 (3 * i + c) = nI 1 := by rw [e8]; decide
    simp only [if_pos e80, if_neg e81]
  · have e80 : ¬ T 8 (3 * i + c) = 0 := by rw [e8]; decide
    simp only [if_neg e80, if_pos e8]
theorem zl_timeout {N : Nat} {S : zs_S} {T : zs_T} {i c j : Nat} {x w : Int32} (h : zl_R N S T) (hi : i < 2) (hc : c < 3) (hj : j < 12) (hs : j < zs_n (T 9 (3 * i + c))) (hw : w = 0 ∨ w = 1) : zr_Ledger_settleTimedOut S i (1 - i) c j x w = zr_Mo_timeout T i c j x w ∧ zl_R N (zu_Ledger_settleTimedOut S i (1 - i) c j x w) (zu_Mo_timeout T i c j x w) := by
  have h' := h
  obtain ⟨hJ, hB, hkept, hkp, he, hn, hp, hr, ha, hpk, h1, h9, h12, k1, k2, k3, k4, kN⟩ := h
  have z := hpk i c j hi hc hj
  have R := zl_setr (x := nI 3) h' hi hc hj hs (by decide) (by decide)
  have o8 := zl_or R hi hc
  have f8 := zl_flv h' (e := 3 * i + c) (by omega)
  simp (discharger := decide) only [zs_wx] at o8
  unfold zr_Ledger_settleTimedOut zu_Ledger_settleTimedOut zr_Mo_timeout zu_Mo_timeout
  simp only [z.2.2.2.2.1, z.2.2.2.2.2.2, zl_or h' hi hc, zl_nr h' hi hc hj, zl_pvE h' hi hc, o8, f8]
  rw [show nI 2 * nI 4 + T 8 (3 * i + c) = nI 8 + T 8 (3 * i + c) from rfl]
  generalize zs_pf T i x (nI (4096 + c)) (nI 0) (nI 8 + T 8 (3 * i + c)) = P
  generalize zr_Mo_notReceived T i c j x = Q
  have leaf : zl_R N (if T 8 (3 * i + c) = nI 1 then zs_u (zs_u (zu_Ledger_settle S i c j (nI 3)) 4 i 0 c (nI 2 * nI 4 + T 8 (3 * i + c))) 5 i 0 c (nI 1) else zu_Ledger_settle S i c j (nI 3)) (if T 8 (3 * i + c) = 0 then zs_w (zs_w (zs_w T 17 (13 * (3 * i + c) + (j + 1)) (nI 3)) 19 (24 * i + 6 * (zs_n (T 14 (13 * (3 * i + c) + (j + 1))) / 4) + zs_n (T 12 (13 * (3 * i + c) + (j + 1)))) (T 19 (24 * i + 6 * (zs_n (T 14 (13 * (3 * i + c) + (j + 1))) / 4) + zs_n (T 12 (13 * (3 * i + c) + (j + 1)))) + T 13 (13 * (3 * i + c) + (j + 1)))) 20 (18 * i + 6 * c + zs_n (T 12 (13 * (3 * i + c) + (j + 1)))) (if T 16 (13 * (3 * i + c) + (j + 1)) = 0 then T 20 (18 * i + 6 * c + zs_n (T 12 (13 * (3 * i + c) + (j + 1)))) - T 13 (13 * (3 * i + c) + (j + 1)) else T 20 (18 * i + 6 * c + zs_n (T 12 (13 * (3 * i + c) + (j + 1))))) else zs_w (zs_w (zs_w (zs_w T 17 (13 * (3 * i + c) + (j + 1)) (nI 3)) 19 (24 * i + 6 * (zs_n (T 14 (13 * (3 * i + c) + (j + 1))) / 4) + zs_n (T 12 (13 * (3 * i + c) + (j + 1)))) (T 19 (24 * i + 6 * (zs_n (T 14 (13 * (3 * i + c) + (j + 1))) / 4) + zs_n (T 12 (13 * (3 * i + c) + (j + 1)))) + T 13 (13 * (3 * i + c) + (j + 1)))) 20 (18 * i + 6 * c + zs_n (T 12 (13 * (3 * i + c) + (j + 1)))) (if T 16 (13 * (3 * i + c) + (j + 1)) = 0 then T 20 (18 * i + 6 * c + zs_n (T 12 (13 * (3 * i + c) + (j + 1)))) - T 13 (13 * (3 * i + c) + (j + 1)) else T 20 (18 * i + 6 * c + zs_n (T 12 (13 * (3 * i + c) + (j + 1)))))) 7 (3 * i + c) (nI 4)) := by
    rcases zl_e8 h' (e := 3 * i + c) (by omega) with e8 | e8
    · have e80 : T 8 (3 * i + c) = 0 := e8
      have e81 : ¬ T 8 (3 * i + c) = nI 1 := by rw [e8]; decide
      rw [if_pos e80, if_neg e81]
      exact R
    · have e80 : ¬ T 8 (3 * i + c) = 0 := by rw [e8]; decide
      rw [if_neg e80, if_pos e8]
      have h70 : ¬ T 7 (3 * i + c) = 0 := fun q => e80 ((k1 (3 * i + c) (by omega)).2.2.1 q)
      have M := zl_move (z := nI 4) R hi hc (by simp (discharger := decide) only [zs_wx]; exact h70) (Or.inr rfl)
      simp (discharger := decide) only [zs_wx] at M
      exact M
  by_cases a17 : T 17 (13 * (3 * i + c) + (j + 1)) = 0
  · simp only [if_pos a17]
    rcases hw with rfl | rfl
    · simp only [↓reduceIte, ite_self]
      by_cases b : T 15 (13 * (3 * i + c) + (j + 1)) ≤ x
      · simp only [if_pos b]
        by_cases q : Q = 0
        · simp only [if_pos q]
          exact ⟨trivial, leaf⟩
        · simp only [if_neg q]
          exact ⟨trivial, h'⟩
      · simp only [if_neg b]
        exact ⟨trivial, h'⟩
    · simp (decide := true) only [↓reduceIte, ite_self]
      by_cases p : P = 0
      · simp only [if_pos p]
        by_cases q : Q = 0
        · simp only [if_pos q]
          exact ⟨trivial, leaf⟩
        · simp only [if_neg q]
          exact ⟨trivial, h'⟩
      · simp only [if_neg p]
        exact ⟨trivial, h'⟩
  · simp only [if_neg a17]
    exact ⟨trivial, h'⟩
/-! send -/
theorem zl_c12 {S : zs_S} {t i j k a b d : Nat} {v u : Int32} (h : t ≠ 12) : zs_u (zs_u S t i j k v) 12 a b d u = zs_u (zs_u S 12 a b d u) t i j k v := by
  funext x y z w
  by_cases e : x = 12 ∧ y = a ∧ z = b ∧ w = d
  · obtain ⟨rfl, rfl, rfl, rfl⟩ := e
    rw [zs_us, zs_ut (Ne.symm h), zs_us]
  · rw [zs_un e]
    by_cases f : x = t ∧ y = i ∧ z = j ∧ w = k
    · obtain ⟨rfl, rfl, rfl, rfl⟩ := f
      rw [zs_us, zs_us]
    · rw [zs_un f, zs_un f, zs_un e]
theorem zl_c14 {S : zs_S} {t i j k a b d : Nat} {v u : Int32} (h : t ≠ 14) (_ : t ≠ 12) : zs_u (zs_u S t i j k v) 14 a b d u = zs_u (zs_u S 14 a b d u) t i j k v := by
  funext x y z w
  by_cases e : x = 14 ∧ y = a ∧ z = b ∧ w = d
  · obtain ⟨rfl, rfl, rfl, rfl⟩ := e
    rw [zs_us, zs_ut (Ne.symm h), zs_us]
  · rw [zs_un e]
    by_cases f : x = t ∧ y = i ∧ z = j ∧ w = k
    · obtain ⟨rfl, rfl, rfl, rfl⟩ := f
      rw [zs_us, zs_us]
    · rw [zs_un f, zs_un f, zs_un e]
theorem zl_send {N : Nat} {S : zs_S} {T : zs_T} {i c w k : Nat} {a : Int32} (h : zl_R N S T) (hi : i < 2) (hc : c < 3) (hw : w < 16) (hk : k < 6) (hkv : k ≤ zs_n (T 21 i)) (haa : ∃ x, 1 ≤ x ∧ x ≤ 1000 ∧ a = nI x) : zr_Ledger_sendPacket S i c w k a (S 0 0 0 0) = zr_Mo_send T i c w k a ∧ zl_R N (zu_Ledger_sendPacket S i c w k a (S 0 0 0 0)) (zu_Mo_send T i c w k a) := by
  have h' := h
  obtain ⟨hJ, hB, hkept, hkp, he, hn, hp, hr, ha, hpk, h1, h9, h12, k1, k2, k3, k4, kN⟩ := h
  have e9 := (h1.2.2.1 i c hi hc).1
  have s9 := zs_JS hJ (e := 3 * i + c) (by omega)
  have hw4 : w / 4 < 4 := by omega
  have k22 := zs_JK hJ (k := 6 * i + k) (by omega)
  have bb : zs_bb (S 16 i 0) (S 15 i 0) k c = if nI k ≤ 0 then nI 0 else (if T 23 (6 * i + k) = nI c then nI 1 + T 22 (6 * i + k) else nI 0) := by
    unfold zs_bb
    rw [(h1.2.2.2 i k hi hk).1, (h1.2.2.2 i k hi hk).2, zl_iff (zl_le0 (show k < 2 ^ 31 by omega) rfl)]
  unfold zr_Ledger_sendPacket zu_Ledger_sendPacket zr_Mo_send zu_Mo_send
  rw [zl_st h' hi hc, e9, h12.1 i (w / 4) k hi hw4 hk, h12.2 i c k hi hc hk, (h1.2.1 i hi).2.1, h1.1, bb]
  simp only [ite_self]
  by_cases a7 : T 7 (3 * i + c) = nI 3
  · simp only [if_pos a7]
    by_cases n12 : zs_n (T 9 (3 * i + c)) = 12
    · have n12' : 12 ≤ zs_n (T 9 (3 * i + c)) := by omega
      simp only [if_pos n12, if_pos n12', ite_self]
      exact ⟨trivial, h'⟩
    · have n12' : ¬ 12 ≤ zs_n (T 9 (3 * i + c)) := by omega
      simp only [if_neg n12, if_neg n12']
      by_cases p : T 19 (24 * i + 6 * (w / 4) + k) < a
      · have p' : ¬ a ≤ T 19 (24 * i + 6 * (w / 4) + k) := fun q => zn_ltle p q
        simp only [if_pos p, if_neg p']
        exact ⟨trivial, h'⟩
      · have p' : a ≤ T 19 (24 * i + 6 * (w / 4) + k) := by
          by_cases q : a ≤ T 19 (24 * i + 6 * (w / 4) + k)
          · exact q
          · exact absurd (zn_nlelt q) p
        simp only [if_neg p, if_pos p']
        refine ⟨trivial, ?_⟩
        have R1 := zl_purse (v := T 19 (24 * i + 6 * (w / 4) + k) - a) h' hi hw4 hk hkv
        have go : ∀ (T1 : zs_T) (x b : Int32), zl_R N (zs_u (zs_u S 12 i (w / 4) k (T 19 (24 * i + 6 * (w / 4) + k) - a)) 14 i c k x) T1 → T1 9 = T 9 → T1 21 = T 21 → b = nI (zs_n b) ∧ zs_n b ≤ 6 → zl_R N (zs_u (zs_u (zs_u (zs_u (zs_u (zs_u (zs_u (zs_u (zs_u (zs_u (zs_u S 20 i (12 * c + zs_n (T 9 (3 * i + c))) 0 (nI k)) 20 i (12 * c + zs_n (T 9 (3 * i + c))) 1 a) 20 i (12 * c + zs_n (T 9 (3 * i + c))) 2 (nI (w / 4))) 20 i (12 * c + zs_n (T 9 (3 * i + c))) 3 (nI (w % 4))) 20 i (12 * c + zs_n (T 9 (3 * i + c))) 4 (T 3 i + T 0 0)) 20 i (12 * c + zs_n (T 9 (3 * i + c))) 5 b) 18 i c 0 (nI (zs_n (T 9 (3 * i + c)) + 1))) 12 i (w / 4) k (T 19 (24 * i + 6 * (w / 4) + k) - a)) 14 i c k x) 4 i 0 (6 + 12 * c + zs_n (T 9 (3 * i + c))) (zs_print (zs_u (zs_u (zs_u (zs_u (zs_u (zs_u (zs_u (zs_u (zs_u S 20 i (12 * c + zs_n (T 9 (3 * i + c))) 0 (nI k)) 20 i (12 * c + zs_n (T 9 (3 * i + c))) 1 a) 20 i (12 * c + zs_n (T 9 (3 * i + c))) 2 (nI (w / 4))) 20 i (12 * c + zs_n (T 9 (3 * i + c))) 3 (nI (w % 4))) 20 i (12 * c + zs_n (T 9 (3 * i + c))) 4 (T 3 i + T 0 0)) 20 i (12 * c + zs_n (T 9 (3 * i + c))) 5 b) 18 i c 0 (nI (zs_n (T 9 (3 * i + c)) + 1))) 12 i (w / 4) k (T 19 (24 * i + 6 * (w / 4) + k) - a)) 14 i c k x 20 i (12 * c + zs_n (T 9 (3 * i + c)))) (nI 0))) 5 i 0 (6 + 12 * c + zs_n (T 9 (3 * i + c))) (nI 1)) (zs_w (zs_w (zs_w (zs_w (zs_w (zs_w T1 9 (3 * i + c) (nI (zs_n (T 9 (3 * i + c)) + 1))) 12 (13 * (3 * i + c) + (zs_n (T 9 (3 * i + c)) + 1)) (nI k)) 13 (13 * (3 * i + c) + (zs_n (T 9 (3 * i + c)) + 1)) a) 14 (13 * (3 * i + c) + (zs_n (T 9 (3 * i + c)) + 1)) (nI w)) 15 (13 * (3 * i + c) + (zs_n (T 9 (3 * i + c)) + 1)) (T 3 i + T 0 0)) 16 (13 * (3 * i + c) + (zs_n (T 9 (3 * i + c)) + 1)) b) := by
          intro T1 x b hR t9 t21 hb
          have P := zl_packet (n := zs_n (T 9 (3 * i + c))) (w := w) (l := T 3 i + T 0 0) hR hi hc (by rw [t9]) (by omega) hk (by rw [t21]; exact hkv) hw hb haa rfl
          have pr : zs_print (zs_u (zs_u (zs_u (zs_u (zs_u (zs_u (zs_u (zs_u (zs_u S 20 i (12 * c + zs_n (T 9 (3 * i + c))) 0 (nI k)) 20 i (12 * c + zs_n (T 9 (3 * i + c))) 1 a) 20 i (12 * c + zs_n (T 9 (3 * i + c))) 2 (nI (w / 4))) 20 i (12 * c + zs_n (T 9 (3 * i + c))) 3 (nI (w % 4))) 20 i (12 * c + zs_n (T 9 (3 * i + c))) 4 (T 3 i + T 0 0)) 20 i (12 * c + zs_n (T 9 (3 * i + c))) 5 b) 18 i c 0 (nI (zs_n (T 9 (3 * i + c)) + 1))) 12 i (w / 4) k (T 19 (24 * i + 6 * (w / 4) + k) - a)) 14 i c k x 20 i (12 * c + zs_n (T 9 (3 * i + c)))) (nI 0) = zs_mix (zs_mix (zs_mix (zs_mix (zs_mix (nI 3) (nI k)) a) (nI w)) (T 3 i + T 0 0)) b := by
            unfold zs_print
            simp (discharger := decide) only [zs_ut, zs_uk, zs_us]
            rw [zl_w16 w hw, zl_a0]
          rw [pr]
          simp (discharger := decide) only [zl_c12, zl_c14]
          exact P
        by_cases b0 : nI k ≤ 0
        · simp only [if_pos b0, if_pos (show nI 0 ≤ 0 from by decide)]
          exact go _ _ _ (zl_escrow R1 hi hc hk (by rw [zs_wx (by decide)]; exact hkv)) (by rw [zs_wother (by decide), zs_wother (by decide)]) (by rw [zs_wother (by decide), zs_wother (by decide)]) ⟨rfl, by decide⟩
        · simp only [if_neg b0]
          by_cases b1 : T 23 (6 * i + k) = nI c
          · have bp : ¬ nI 1 + T 22 (6 * i + k) ≤ 0 := by
              rw [k22.1, nI_add]
              exact nI_nle (by omega) (by omega)
            simp only [if_pos b1, if_neg bp]
            have E := zl_escrow (c := c) (v := T 20 (18 * i + 6 * c + k)) R1 hi hc hk (by rw [zs_wx (by decide)]; exact hkv)
            rw [zs_idw (T := zs_w T 19 (24 * i + 6 * (w / 4) + k) (T 19 (24 * i + 6 * (w / 4) + k) - a)) (x := 20) (zs_wx (by decide))] at E
            refine go _ _ _ E (by rw [zs_wother (by decide)]) (by rw [zs_wother (by decide)]) ?_
            rw [k22.1, nI_add, show zs_n (nI (1 + zs_n (T 22 (6 * i + k)))) = 1 + zs_n (T 22 (6 * i + k)) from nI_clamp (by omega)]
            exact ⟨rfl, by omega⟩
          · simp only [if_neg b1, if_pos (show nI 0 ≤ 0 from by decide)]
            exact go _ _ _ (zl_escrow R1 hi hc hk (by rw [zs_wx (by decide)]; exact hkv)) (by rw [zs_wother (by decide), zs_wother (by decide)]) (by rw [zs_wother (by decide), zs_wother (by decide)]) ⟨rfl, by decide⟩
  · simp only [if_neg a7]
    exact ⟨trivial, h'⟩
/-! signers -/
theorem zl_bit (b : BitVec 32) (s : Nat) (hs : s < 4) : (b.sshiftRight s) &&& 1#32 = ((b &&& 15#32).sshiftRight s) &&& 1#32 := by
  apply BitVec.eq_of_getLsbD_eq
  intro i hi
  simp only [BitVec.getLsbD_and, BitVec.getLsbD_sshiftRight]
  by_cases e : i = 0
  · subst e
    have h1 : (15#32).getLsbD (s + 0) = true := by
      match s, hs with
      | 0, _ => rfl
      | 1, _ => rfl
      | 2, _ => rfl
      | 3, _ => rfl
    rw [if_pos (by omega), if_pos (by omega), h1, Bool.and_true]
  · have h1 : (1#32).getLsbD i = false := by
      rw [BitVec.getLsbD_one]
      simp [e]
    rw [h1, Bool.and_false, Bool.and_false]
theorem zl_sg1 (x : Int32) : x &&& nI 1 = (x &&& nI 15) &&& nI 1 := by
  apply Int32.toBitVec_inj.mp
  have h := zl_bit x.toBitVec 0 (by decide)
  rw [Int32.toBitVec_and, Int32.toBitVec_and, Int32.toBitVec_and]
  rw [BitVec.sshiftRight_zero, BitVec.sshiftRight_zero] at h
  exact h
theorem zl_sgs (x : Int32) (s : Nat) (hs : s < 4) (hm : (nI s &&& 31).toBitVec.smod 32 = BitVec.ofNat 32 s) : x >>> (nI s &&& 31) &&& nI 1 = (x &&& nI 15) >>> (nI s &&& 31) &&& nI 1 := by
  apply Int32.toBitVec_inj.mp
  have h := zl_bit x.toBitVec s hs
  rw [Int32.toBitVec_and, Int32.toBitVec_and, Int32.toBitVec_shiftRight, Int32.toBitVec_shiftRight, hm, Int32.toBitVec_and]
  have e : (BitVec.ofNat 32 s).toNat = s := by
    rw [BitVec.toNat_ofNat]
    omega
  unfold BitVec.sshiftRight'
  rw [e]
  exact h
theorem zl_sg15 (x : Int32) : zs_sg x = zs_sg (x &&& nI 15) := by
  unfold zs_sg
  rw [zl_sg1 x, zl_sgs x 1 (by decide) (by decide), zl_sgs x 2 (by decide) (by decide), zl_sgs x 3 (by decide) (by decide)]
theorem zl_and15 (x : Int32) : ∃ j, j < 16 ∧ x &&& nI 15 = nI j := by
  refine ⟨(x &&& nI 15).toBitVec.toNat, ?_, ?_⟩
  · rw [Int32.toBitVec_and, BitVec.toNat_and]
    exact Nat.lt_of_le_of_lt Nat.and_le_right (by decide)
  · apply Int32.toBitVec_inj.mp
    show _ = BitVec.ofNat 32 _
    rw [BitVec.ofNat_toNat, BitVec.setWidth_eq]
theorem zl_bc16 : ∀ j, j < 16 → zs_bc (nI j) = zs_sg (nI j) := by decide +kernel
theorem zl_bc (x : Int32) : zs_bc (x &&& nI 15) = zs_sg x := by
  rw [zl_sg15]
  obtain ⟨j, hj, e⟩ := zl_and15 x
  rw [e]
  exact zl_bc16 j hj
theorem zl_update {N : Nat} {S : zs_S} {T : zs_T} {i : Nat} {h x w : Int32} (hR : zl_R N S T) (hi : i < 2) : zs_cur S i h x w = zs_mur T i h x w ∧ zl_R N (zs_cus S i h x w) (zs_mus T i h x w) := by
  have e1 : S 2 (1 - i) 0 0 = T 1 (1 - i) := (hR.2.2.2.2.2.2.2.2.2.2.1.2.1 (1 - i) (by omega)).1
  have j1 := zs_JH hR.1 (i := 1 - i) (by omega)
  unfold zs_cur zs_cus zs_mur zs_mus
  rw [zl_bc, e1]
  by_cases a : h < nI 1
  · have a' : h < nI 1 ∨ T 1 (1 - i) < h := Or.inl a
    simp only [if_pos a, if_pos a']
    exact ⟨trivial, hR⟩
  · simp only [if_neg a]
    by_cases b : h ≤ T 1 (1 - i)
    · have a' : ¬ (h < nI 1 ∨ T 1 (1 - i) < h) := fun q => q.elim a (fun z => zn_ltle z b)
      simp only [if_pos b, if_neg a']
      by_cases c : w = 0
      · simp only [if_pos c]
        by_cases d : nI 3 ≤ zs_sg x
        · simp only [if_pos d]
          obtain ⟨q, hq, _, rfl⟩ := zs_uq j1.1 j1.2 a b
          rw [nI_clamp (by omega)]
          exact ⟨trivial, zl_learn hR hi hq⟩
        · simp only [if_neg d]
          exact ⟨trivial, hR⟩
      · simp only [if_neg c]
        exact ⟨trivial, hR⟩
    · have a' : h < nI 1 ∨ T 1 (1 - i) < h := Or.inr (zn_nlelt b)
      simp only [if_neg b, if_pos a']
      exact ⟨trivial, hR⟩
