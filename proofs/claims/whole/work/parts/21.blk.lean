/-! proofs against kept states -/
theorem zl_cm {th : Nat → Int32} {x : Nat} : ∀ (r : Nat), zl_c th x ≤ zl_c th (x + r)
  | 0 => Nat.le_refl _
  | r + 1 => Nat.le_trans (zl_cm r) (by rw [← Nat.add_assoc, zl_cs]; exact Nat.le_add_right _ _)
theorem zl_cle {th : Nat → Int32} : ∀ (k : Nat), zl_c th k ≤ k
  | 0 => Nat.le_refl _
  | k + 1 => by
    have := zl_cle (th := th) k
    rw [zl_cs]
    split <;> omega
theorem zl_c0 {th : Nat → Int32} {x : Nat} (h : th x = 0) : zl_c th (x + 1) = zl_c th x := by rw [zl_cs, if_pos h]; rfl
theorem zl_c1 {th : Nat → Int32} {x : Nat} (h : ¬ th x = 0) : zl_c th (x + 1) = zl_c th x + 1 := by rw [zl_cs, if_neg h]
theorem zl_kinj : ∀ x, x < 114 → ∀ y, y < 114 → zs_key x = zs_key y → x = y := by decide +kernel
theorem zl_sA {th va ks vs : Nat → Int32} {p n k0 : Nat} {f v : Int32} (hL : zl_L th va ks vs p n) (hk : k0 < 114) : ∀ (r x : Nat), x + r = 114 → k0 < x → zs_sc ks vs (zs_key k0) f v (p + zl_c th x) (zl_c th 114 - zl_c th x) = if f = 0 then (-5) else nI 0
  | 0, x, hx, _ => by
    have e : x = 114 := by omega
    rw [e, Nat.sub_self, zs_sc0]
  | r + 1, x, hx, h0 => by
    have ih := zl_sA (f := f) (v := v) hL hk r (x + 1) (by omega) (by omega)
    by_cases e : th x = 0
    · rw [zl_c0 e] at ih
      exact ih
    · rw [zl_c1 e] at ih
      have hm : zl_c th (x + 1) ≤ zl_c th 114 := by
        have := zl_cm (th := th) (x := x + 1) r
        rw [show x + 1 + r = 114 by omega] at this
        exact this
      rw [zl_c1 e] at hm
      rw [show zl_c th 114 - zl_c th x = zl_c th 114 - (zl_c th x + 1) + 1 by omega, zs_scs, (hL.2 x (by omega) e).1, if_neg (fun q => absurd (zl_kinj x (by omega) k0 hk q) (by omega))]
      exact ih
theorem zl_sB {th va ks vs : Nat → Int32} {p n k0 : Nat} {f v : Int32} (hL : zl_L th va ks vs p n) (hk : k0 < 114) : ∀ (r x : Nat), x + r = 114 → x ≤ k0 → zs_sc ks vs (zs_key k0) f v (p + zl_c th x) (zl_c th 114 - zl_c th x) = if th k0 = 0 then (if f = 0 then (-5) else nI 0) else (if f = 0 then (if va k0 = v then nI 0 else (-5)) else (-5))
  | 0, x, hx, h0 => by omega
  | r + 1, x, hx, h0 => by
    by_cases e : th x = 0
    · by_cases e0 : x = k0
      · subst e0
        have ih := zl_sA (f := f) (v := v) hL hk r (x + 1) (by omega) (by omega)
        rw [zl_c0 e] at ih
        rw [if_pos e]
        exact ih
      · have ih := zl_sB (f := f) (v := v) hL hk r (x + 1) (by omega) (by omega)
        rw [zl_c0 e] at ih
        exact ih
    · have hm : zl_c th (x + 1) ≤ zl_c th 114 := by
        have := zl_cm (th := th) (x := x + 1) r
        rw [show x + 1 + r = 114 by omega] at this
        exact this
      rw [zl_c1 e] at hm
      rw [show zl_c th 114 - zl_c th x = zl_c th 114 - (zl_c th x + 1) + 1 by omega, zs_scs, (hL.2 x (by omega) e).1, (hL.2 x (by omega) e).2]
      by_cases e0 : x = k0
      · subst e0
        rw [if_pos rfl, if_neg e]
      · rw [if_neg (fun q => e0 (zl_kinj x (by omega) k0 hk q))]
        have ih := zl_sB (f := f) (v := v) hL hk r (x + 1) (by omega) (by omega)
        rw [zl_c1 e] at ih
        exact ih
theorem zl_s {th va ks vs : Nat → Int32} {p n k0 : Nat} {f v : Int32} (hL : zl_L th va ks vs p n) (hk : k0 < 114) : zs_sc ks vs (zs_key k0) f v p n = if th k0 = 0 then (if f = 0 then (-5) else nI 0) else (if f = 0 then (if va k0 = v then nI 0 else (-5)) else (-5)) := by
  have := zl_sB (f := f) (v := v) hL hk 114 0 (by omega) (by omega)
  rw [show zl_c th 0 = 0 from rfl, Nat.sub_zero, Nat.add_zero, ← hL.1] at this
  exact this
theorem zl_hd {N : Nat} {S : zs_S} {T : zs_T} {i : Nat} {x : Int32} (h : zl_R N S T) (hi : i < 2) : zs_hd S i x ↔ zs_mn T i x := by
  obtain ⟨hJ, hB, hkept, hkp, he, hn, hp, hr, ha, hpk, h1, h9, h12, k1, k2, k3, k4, kN⟩ := h
  unfold zs_hd zs_mn
  constructor
  · rintro ⟨a, b, c⟩
    obtain ⟨q, hq, rfl⟩ := nI_of (zn_n0 a)
    have hq5 := zn_le512 hq b
    rw [nI_clamp hq] at c ⊢
    rw [h9.1 i q hi hq5] at c
    refine ⟨?_, c⟩
    rintro (z | z)
    · exact a z
    · have := (nI_ltI (by decide) hq).mp z
      omega
  · rintro ⟨a, c⟩
    have a1 : ¬ x < nI 1 := fun z => a (Or.inl z)
    obtain ⟨q, hq, rfl⟩ := nI_of (zn_n0 a1)
    rw [nI_clamp hq] at c ⊢
    have hq2 : q < 1100 := by
      apply Nat.lt_of_not_le
      intro z
      exact a (Or.inr ((nI_ltI (by decide) hq).mpr (by omega)))
    have hq5 : q ≤ 512 := by
      apply Nat.le_of_not_lt
      intro z
      exact c (h9.2 i q hi z hq2)
    rw [h9.1 i q hi hq5]
    refine ⟨a1, fun z => ?_, c⟩
    have := (nI_ltI (by decide) hq).mp z
    omega
theorem zl_km {N : Nat} {S : zs_S} {T : zs_T} {i : Nat} {x : Int32} (h : zl_R N S T) (hi : i < 2) : zs_kp S i x ↔ zs_mk T i x := by
  obtain ⟨hJ, hB, hkept, hkp, he, hn, hp, hr, ha, hpk, h1, h9, h12, k1, k2, k3, k4, kN⟩ := h
  unfold zs_kp zs_mk
  rw [(h1.2.1 i hi).1]
theorem zl_pf {N : Nat} {S : zs_S} {T : zs_T} {i k : Nat} {x f v : Int32} (h : zl_R N S T) (hi : i < 2) (hk : k < 114) : zs_pf T i x (zs_key k) f v = if zs_hd S i x then (if zs_kp S (1 - i) x then (if S 5 (1 - i) (x.toNatClampNeg % 8 + 1) k = 0 then (if f = 0 then (-5) else nI 0) else (if f = 0 then (if S 4 (1 - i) (x.toNatClampNeg % 8 + 1) k = v then nI 0 else (-5)) else (-5))) else (-4)) else (-3) := by
  unfold zs_pf
  by_cases a : zs_hd S i x
  · rw [if_pos a, if_pos ((zl_hd h hi).mp a)]
    by_cases b : zs_kp S (1 - i) x
    · rw [if_pos b, if_pos ((zl_km h (by omega)).mp b)]
      exact zl_s (h.2.2.1 (1 - i) (x.toNatClampNeg % 8) (by omega) (by omega)) hk
    · rw [if_neg b, if_neg (fun q => b ((zl_km h (by omega)).mpr q))]
  · rw [if_neg a, if_neg (fun q => a ((zl_hd h hi).mpr q))]
theorem zl_pv {N : Nat} {S : zs_S} {T : zs_T} {i k : Nat} {x v : Int32} (h : zl_R N S T) (hi : i < 2) (hk : k < 114) : zs_pv S i (1 - i) x k v = zs_pf T i x (zs_key k) (nI 0) v := by
  rw [zl_pf h hi hk]
  unfold zs_pv zs_rc
  rw [if_pos (show nI 0 = 0 from rfl), if_pos (show nI 0 = 0 from rfl)]
  by_cases a : zs_hd S i x
  · rw [if_pos a, if_pos a]
    by_cases b : zs_kp S (1 - i) x
    · rw [if_pos b, if_pos b, if_pos (show nI 0 = 0 from rfl)]
    · rw [if_neg b, if_neg b, if_neg (by decide)]
  · rw [if_neg a, if_neg a, if_neg (by decide)]
theorem zl_pa {N : Nat} {S : zs_S} {T : zs_T} {i k : Nat} {x v : Int32} (h : zl_R N S T) (hi : i < 2) (hk : k < 114) : zs_pa S i (1 - i) x k = zs_pf T i x (zs_key k) (nI 1) v := by
  rw [zl_pf h hi hk]
  unfold zs_pa zs_rc
  rw [if_neg (show ¬ nI 1 = 0 by decide), if_neg (show ¬ nI 1 = 0 by decide)]
  by_cases a : zs_hd S i x
  · rw [if_pos a, if_pos a]
    by_cases b : zs_kp S (1 - i) x
    · rw [if_pos b, if_pos b, if_pos (show nI 0 = 0 from rfl)]
    · rw [if_neg b, if_neg b, if_neg (by decide)]
  · rw [if_neg a, if_neg a, if_neg (by decide)]
/-! a new block -/
theorem zl_ke : ∀ c, c < 3 → zs_key c = nI (4096 + c) ∧ zs_key (3 + c) = nI (8192 + c) := by decide +kernel
theorem zl_kq : ∀ c, c < 3 → ∀ j, j < 12 → zs_key (6 + 12 * c + j) = nI (12288 + 64 * c + (j + 1)) ∧ zs_key (42 + 12 * c + j) = nI (16384 + 64 * c + (j + 1)) ∧ zs_key (78 + 12 * c + j) = nI (20480 + 64 * c + (j + 1)) := by decide +kernel
def zl_P (T : zs_T) (th va : Nat → Int32) (i : Nat) (U : zs_T) (k : Nat) : Prop := (∀ x, x ≠ 4 → x ≠ 5 → x ≠ 6 → U x = zs_tk0 T i x) ∧ (∀ q, q ≠ 8 * i + (zs_n (T 1 i) + 1) % 8 → U 4 q = T 4 q) ∧ U 4 (8 * i + (zs_n (T 1 i) + 1) % 8) = nI (zl_c th k) ∧ (∀ q, q < 128 * (8 * i + (zs_n (T 1 i) + 1) % 8) ∨ 128 * (8 * i + (zs_n (T 1 i) + 1) % 8) + 128 ≤ q → U 5 q = T 5 q ∧ U 6 q = T 6 q) ∧ ∀ x, x < k → th x ≠ 0 → U 5 (128 * (8 * i + (zs_n (T 1 i) + 1) % 8) + zl_c th x) = zs_key x ∧ U 6 (128 * (8 * i + (zs_n (T 1 i) + 1) % 8) + zl_c th x) = va x
theorem zl_P0 {T : zs_T} {th va : Nat → Int32} {i : Nat} : zl_P T th va i (zs_tk0 T i) 0 := by
  refine ⟨fun _ _ _ _ => rfl, fun q hq => ?_, ?_, fun q _ => ⟨?_, ?_⟩, fun x hx => absurd hx (by omega)⟩
  · unfold zs_tk0
    rw [zs_wk hq, zs_wx (by decide)]
  · unfold zs_tk0
    rw [zs_ws]
    rfl
  · unfold zs_tk0
    rw [zs_wx (by decide), zs_wx (by decide)]
  · unfold zs_tk0
    rw [zs_wx (by decide), zs_wx (by decide)]
theorem zl_PT {T : zs_T} {th va : Nat → Int32} {i k : Nat} {U : zs_T} (h : zl_P T th va i U k) {x : Nat} (h1 : x ≠ 1) (h4 : x ≠ 4) (h5 : x ≠ 5) (h6 : x ≠ 6) : U x = T x := by
  rw [h.1 x h4 h5 h6]
  unfold zs_tk0
  rw [zs_wother h4, zs_wother h1]
theorem zl_Ps {T : zs_T} {th va : Nat → Int32} {i k : Nat} {U : zs_T} (hn : zs_n (T 1 i) < 512) (hk : k < 114) (h : zl_P T th va i U k) : zl_P T th va i (if th k = 0 then U else zs_li U i (zs_key k) (va k)) (k + 1) := by
  obtain ⟨h1, h2, h3, h4, h5⟩ := h
  by_cases e : th k = 0
  · rw [if_pos e]
    refine ⟨h1, h2, by rw [zl_c0 e]; exact h3, h4, fun x hx hx2 => ?_⟩
    by_cases ex : x = k
    · subst ex
      exact absurd e hx2
    · exact h5 x (by omega) hx2
  · rw [if_neg e]
    have hc := zl_cle (th := th) k
    have e1 : U 1 i = nI (zs_n (T 1 i) + 1) := by
      rw [h1 1 (by decide) (by decide) (by decide)]
      unfold zs_tk0
      rw [zs_wx (by decide), zs_ws]
    unfold zs_li
    rw [e1, show zs_n (nI (zs_n (T 1 i) + 1)) = zs_n (T 1 i) + 1 from nI_clamp (by omega), h3, show zs_n (nI (zl_c th k)) = zl_c th k from nI_clamp (by omega)]
    generalize hat : 8 * i + (zs_n (T 1 i) + 1) % 8 = a at h2 h3 h4 h5 ⊢
    unfold zl_P
    rw [hat]
    refine ⟨fun x x4 x5 x6 => ?_, fun q hq => ?_, ?_, fun q hq => ?_, fun x hx hx2 => ?_⟩
    · rw [zs_wother x4, zs_wother x6, zs_wother x5]
      exact h1 x x4 x5 x6
    · rw [zs_wk hq, zs_wx (by decide), zs_wx (by decide)]
      exact h2 q hq
    · rw [zs_ws, zl_c1 e]
    · simp (discharger := decide) only [zs_wx]
      rw [zs_wk (by omega), zs_wk (by omega), zs_wx (by decide)]
      exact h4 q hq
    · simp (discharger := decide) only [zs_wx]
      by_cases ex : x = k
      · subst ex
        rw [zs_ws, zs_ws]
        exact ⟨rfl, rfl⟩
      · have hm : zl_c th (x + 1) ≤ zl_c th k := by
          have := zl_cm (th := th) (x := x + 1) (k - (x + 1))
          rw [show x + 1 + (k - (x + 1)) = k by omega] at this
          exact this
        rw [zl_c1 hx2] at hm
        rw [zs_wk (by omega), zs_wk (by omega), zs_wx (by decide)]
        exact h5 x (by omega) hx2
theorem zl_Pit {T : zs_T} {th va : Nat → Int32} {i b : Nat} {f : Nat → zs_T → zs_T} (m : Nat) (hn : zs_n (T 1 i) < 512) (hb : b + m ≤ 114) (hf : ∀ c U, c < m → zl_P T th va i U (b + c) → f c U = if th (b + c) = 0 then U else zs_li U i (zs_key (b + c)) (va (b + c))) : ∀ (r c : Nat) (U : zs_T), c + r = m → zl_P T th va i U (b + c) → zl_P T th va i (zs_it f U c r) (b + m)
  | 0, c, U, hc, h => by
    have e : c = m := by omega
    subst e
    exact h
  | r + 1, c, U, hc, h => by
    have z := zl_Ps hn (by omega) h
    rw [← hf c U (by omega) h] at z
    exact zl_Pit m hn hb hf r (c + 1) (f c U) (by omega) z
theorem zl_fl0 {x : Int32} : zs_fl x = 0 ↔ x = 0 := by
  unfold zs_fl
  split
  · rename_i e
    exact ⟨fun _ => e, fun _ => rfl⟩
  · rename_i e
    exact ⟨fun q => absurd q (by decide), fun q => absurd q e⟩
theorem zl_le0 {x : Int32} {s : Nat} (hs : s < 2 ^ 31) (e : x = nI s) : x ≤ 0 ↔ x = 0 := by
  subst e
  have a := nI_leI hs (show 0 < 2 ^ 31 by decide)
  have b := nI_eq hs (show 0 < 2 ^ 31 by decide)
  have z : nI 0 = 0 := rfl
  rw [z] at a b
  rw [a, b]
  omega
theorem zl_f1 {N : Nat} {S : zs_S} {T U : zs_T} {i c k : Nat} (h : zl_R N S T) (hi : i < 2) (hc : c < 3) (hP : zl_P T (S 5 i 0) (S 4 i 0) i U k) : zs_t1 i c U = if S 5 i 0 c = 0 then U else zs_li U i (zs_key c) (S 4 i 0 c) := by
  obtain ⟨hJ, hB, hkept, hkp, he, hn, hp, hr, ha, hpk, h1, h9, h12, k1, k2, k3, k4, kN⟩ := h
  obtain ⟨⟨s, hs, es⟩, h8, _⟩ := k1 (3 * i + c) (by omega)
  have z := he i c hi hc
  unfold zs_t1
  rw [zl_PT hP (x := 7) (by decide) (by decide) (by decide) (by decide), zl_PT hP (x := 8) (by decide) (by decide) (by decide) (by decide), z.1, z.2, (zl_ke c hc).1]
  by_cases e : T 7 (3 * i + c) = 0
  · rw [if_pos ((zl_le0 (by omega) es).mpr e), if_pos (zl_fl0.mpr e)]
  · rw [if_neg (fun q => e ((zl_le0 (by omega) es).mp q)), if_neg (fun q => e (zl_fl0.mp q))]
    rcases h8 with q | q
    · rw [if_pos q, q]
      rfl
    · rw [q, if_neg (by decide)]
      rfl
theorem zl_f2 {N : Nat} {S : zs_S} {T U : zs_T} {i c k : Nat} (h : zl_R N S T) (hi : i < 2) (hc : c < 3) (hP : zl_P T (S 5 i 0) (S 4 i 0) i U k) : zs_t2 i c U = if S 5 i 0 (3 + c) = 0 then U else zs_li U i (zs_key (3 + c)) (S 4 i 0 (3 + c)) := by
  obtain ⟨hJ, hB, hkept, hkp, he, hn, hp, hr, ha, hpk, h1, h9, h12, k1, k2, k3, k4, kN⟩ := h
  obtain ⟨⟨s, hs, es⟩, h8, h70, _⟩ := k1 (3 * i + c) (by omega)
  have z := hn i c hi hc
  unfold zs_t2
  rw [zl_PT hP (x := 7) (by decide) (by decide) (by decide) (by decide), zl_PT hP (x := 8) (by decide) (by decide) (by decide) (by decide), zl_PT hP (x := 10) (by decide) (by decide) (by decide) (by decide), z.1, z.2, (zl_ke c hc).2]
  by_cases e : T 7 (3 * i + c) = 0
  · rw [if_pos ((zl_le0 (by omega) es).mpr e), if_pos (zl_fl0.mpr (h70 e))]
  · rw [if_neg (fun q => e ((zl_le0 (by omega) es).mp q))]
    by_cases e8 : T 8 (3 * i + c) = 0
    · rw [if_pos e8, if_pos (zl_fl0.mpr e8)]
    · rw [if_neg e8, if_neg (fun q => e8 (zl_fl0.mp q)), if_neg e8]
theorem zl_f3 {N : Nat} {S : zs_S} {T U : zs_T} {i c j k : Nat} (h : zl_R N S T) (hi : i < 2) (hc : c < 3) (hj : j < 12) (hP : zl_P T (S 5 i 0) (S 4 i 0) i U k) : zu_Mo_listPacket_w0 U i c j = if S 5 i 0 (6 + 12 * c + j) = 0 then U else zs_li U i (zs_key (6 + 12 * c + j)) (S 4 i 0 (6 + 12 * c + j)) := by
  obtain ⟨hJ, hB, hkept, hkp, he, hn, hp, hr, ha, hpk, h1, h9, h12, k1, k2, k3, k4, kN⟩ := h
  have z := hp i c j hi hc hj
  have s9 := zs_JS hJ (e := 3 * i + c) (by omega)
  have hlt : T 9 (3 * i + c) < nI (j + 1) ↔ ¬ j < zs_n (T 9 (3 * i + c)) := by
    have w := nI_ltI (a := zs_n (T 9 (3 * i + c))) (b := j + 1) (by omega) (by omega)
    rw [← s9.1] at w
    rw [w]
    omega
  unfold zu_Mo_listPacket_w0 zs_mp
  rw [zl_PT hP (x := 9) (by decide) (by decide) (by decide) (by decide), zl_PT hP (x := 17) (by decide) (by decide) (by decide) (by decide), zl_PT hP (x := 12) (by decide) (by decide) (by decide) (by decide), zl_PT hP (x := 13) (by decide) (by decide) (by decide) (by decide), zl_PT hP (x := 14) (by decide) (by decide) (by decide) (by decide), zl_PT hP (x := 15) (by decide) (by decide) (by decide) (by decide), zl_PT hP (x := 16) (by decide) (by decide) (by decide) (by decide), z.1, z.2, (zl_kq c hc j hj).1]
  by_cases e : j < zs_n (T 9 (3 * i + c))
  · rw [if_neg (fun q => hlt.mp q e)]
    by_cases e2 : T 17 (13 * (3 * i + c) + (j + 1)) = 0
    · rw [if_pos e2, if_pos (show j < zs_n (T 9 (3 * i + c)) ∧ T 17 (13 * (3 * i + c) + (j + 1)) = 0 from ⟨e, e2⟩), if_pos (show j < zs_n (T 9 (3 * i + c)) ∧ T 17 (13 * (3 * i + c) + (j + 1)) = 0 from ⟨e, e2⟩), if_neg (show ¬ nI 1 = 0 by decide)]
      rfl
    · rw [if_neg e2, if_neg (show ¬ (j < zs_n (T 9 (3 * i + c)) ∧ T 17 (13 * (3 * i + c) + (j + 1)) = 0) from fun q => e2 q.2), if_pos (show nI 0 = 0 from rfl)]
  · rw [if_pos (hlt.mpr e), if_neg (show ¬ (j < zs_n (T 9 (3 * i + c)) ∧ T 17 (13 * (3 * i + c) + (j + 1)) = 0) from fun q => e q.1), if_pos (show nI 0 = 0 from rfl)]
theorem zl_18 {T : zs_T} (k2 : zl_K2 T) {i c j : Nat} (hi : i < 2) (hc : c < 3) (hj : j < 12) : T 18 (13 * (3 * (1 - i) + c) + (j + 1)) ≤ 0 ↔ T 18 (13 * (3 * (1 - i) + c) + (j + 1)) = 0 := by
  rcases (k2 i c j hi hc hj).1 with q | q | q
  · rw [q]; decide
  · rw [q]; decide
  · rw [q]; decide
theorem zl_f4 {N : Nat} {S : zs_S} {T U : zs_T} {i c j k : Nat} (h : zl_R N S T) (hi : i < 2) (hc : c < 3) (hj : j < 12) (hP : zl_P T (S 5 i 0) (S 4 i 0) i U k) : zu_Mo_listPacket_w1 U i c j = if S 5 i 0 (42 + 12 * c + j) = 0 then U else zs_li U i (zs_key (42 + 12 * c + j)) (S 4 i 0 (42 + 12 * c + j)) := by
  obtain ⟨hJ, hB, hkept, hkp, he, hn, hp, hr, ha, hpk, h1, h9, h12, k1, k2, k3, k4, kN⟩ := h
  have z := hr i c j hi hc hj
  have y := zl_18 k2 hi hc hj
  unfold zu_Mo_listPacket_w1
  rw [zl_PT hP (x := 18) (by decide) (by decide) (by decide) (by decide), zl_PT hP (x := 8) (by decide) (by decide) (by decide) (by decide), z.1, z.2, (zl_kq c hc j hj).2.1]
  by_cases e : T 18 (13 * (3 * (1 - i) + c) + (j + 1)) = 0
  · rw [if_pos (y.mpr e), e, show zs_fl 0 = nI 0 from rfl]
    by_cases e8 : T 8 (3 * i + c) = 0
    · rw [if_pos e8, if_pos (show nI 0 = 0 from rfl)]
    · rw [if_neg e8, if_pos (show nI 0 = 0 from rfl)]
  · rw [if_neg (fun q => e (y.mp q)), show zs_fl (T 18 (13 * (3 * (1 - i) + c) + (j + 1))) = nI 1 from if_neg e]
    by_cases e8 : T 8 (3 * i + c) = 0
    · rw [if_pos e8, if_pos e8, if_neg (show ¬ nI 1 = 0 by decide)]
    · rw [if_neg e8, if_neg e8, if_pos (show nI 0 = 0 from rfl)]
theorem zl_f5 {N : Nat} {S : zs_S} {T U : zs_T} {i c j k : Nat} (h : zl_R N S T) (hi : i < 2) (hc : c < 3) (hj : j < 12) (hP : zl_P T (S 5 i 0) (S 4 i 0) i U k) : zu_Mo_listPacket_w2 U i c j = if S 5 i 0 (78 + 12 * c + j) = 0 then U else zs_li U i (zs_key (78 + 12 * c + j)) (S 4 i 0 (78 + 12 * c + j)) := by
  obtain ⟨hJ, hB, hkept, hkp, he, hn, hp, hr, ha, hpk, h1, h9, h12, k1, k2, k3, k4, kN⟩ := h
  have z := ha i c j hi hc hj
  have y := zl_18 k2 hi hc hj
  unfold zu_Mo_listPacket_w2
  rw [zl_PT hP (x := 18) (by decide) (by decide) (by decide) (by decide), z.1, z.2, (zl_kq c hc j hj).2.2]
  by_cases e : T 18 (13 * (3 * (1 - i) + c) + (j + 1)) = 0
  · rw [if_pos (y.mpr e), if_pos (zl_fl0.mpr e)]
  · rw [if_neg (fun q => e (y.mp q)), if_neg (fun q => e (zl_fl0.mp q))]
theorem zl_Ptk {N : Nat} {S : zs_S} {T : zs_T} {i : Nat} (h : zl_R N S T) (hi : i < 2) (hn : zs_n (T 1 i) < 512) : zl_P T (S 5 i 0) (S 4 i 0) i (zs_tk T i) 114 := by
  have p0 := zl_P0 (T := T) (th := S 5 i 0) (va := S 4 i 0) (i := i)
  have p1 := zl_Pit (b := 0) (f := zs_t1 i) 3 hn (by omega) (fun c U hc hP => by rw [Nat.zero_add]; exact zl_f1 h hi hc hP) 3 0 _ rfl p0
  have p2 := zl_Pit (b := 3) (f := zs_t2 i) 3 hn (by omega) (fun c U hc hP => zl_f2 h hi hc hP) 3 0 _ rfl p1
  have p3 := zl_Pit (b := 6) (f := fun j T => zu_Mo_listPacket_w0 T i 0 j) 12 hn (by omega) (fun j U hj hP => zl_f3 (c := 0) h hi (by omega) hj hP) 12 0 _ rfl p2
  have p4 := zl_Pit (b := 18) (f := fun j T => zu_Mo_listPacket_w0 T i 1 j) 12 hn (by omega) (fun j U hj hP => zl_f3 (c := 1) h hi (by omega) hj hP) 12 0 _ rfl p3
  have p5 := zl_Pit (b := 30) (f := fun j T => zu_Mo_listPacket_w0 T i 2 j) 12 hn (by omega) (fun j U hj hP => zl_f3 (c := 2) h hi (by omega) hj hP) 12 0 _ rfl p4
  have p6 := zl_Pit (b := 42) (f := fun j T => zu_Mo_listPacket_w1 T i 0 j) 12 hn (by omega) (fun j U hj hP => zl_f4 (c := 0) h hi (by omega) hj hP) 12 0 _ rfl p5
  have p7 := zl_Pit (b := 54) (f := fun j T => zu_Mo_listPacket_w1 T i 1 j) 12 hn (by omega) (fun j U hj hP => zl_f4 (c := 1) h hi (by omega) hj hP) 12 0 _ rfl p6
  have p8 := zl_Pit (b := 66) (f := fun j T => zu_Mo_listPacket_w1 T i 2 j) 12 hn (by omega) (fun j U hj hP => zl_f4 (c := 2) h hi (by omega) hj hP) 12 0 _ rfl p7
  have p9 := zl_Pit (b := 78) (f := fun j T => zu_Mo_listPacket_w2 T i 0 j) 12 hn (by omega) (fun j U hj hP => zl_f5 (c := 0) h hi (by omega) hj hP) 12 0 _ rfl p8
  have p10 := zl_Pit (b := 90) (f := fun j T => zu_Mo_listPacket_w2 T i 1 j) 12 hn (by omega) (fun j U hj hP => zl_f5 (c := 1) h hi (by omega) hj hP) 12 0 _ rfl p9
  exact zl_Pit (b := 102) (f := fun j T => zu_Mo_listPacket_w2 T i 2 j) 12 hn (by omega) (fun j U hj hP => zl_f5 (c := 2) h hi (by omega) hj hP) 12 0 _ rfl p10
theorem zl_blk0 {N : Nat} {S S' : zs_S} {T T' : zs_T} (h : zl_R N S T) (hT : ∀ x, x ≠ 1 → x ≠ 4 → x ≠ 5 → x ≠ 6 → T' x = T x) (hS : ∀ t, t ≠ 2 → t ≠ 4 → t ≠ 5 → S' t = S t) (hS4 : ∀ a, S' 4 a 0 = S 4 a 0) (hS5 : ∀ a, S' 5 a 0 = S 5 a 0) (J' : zs_J T') (B' : zs_B S') (hk : zl_kept S' T') (hkp' : zl_kp S' T) (h21 : ∀ a, a < 2 → S' 2 a 0 0 = T' 1 a) (hN : zl_N T' (N + 1)) : zl_R (N + 1) S' T' := by
  obtain ⟨hJ, hB, hkept, hkp, he, hn, hp, hr, ha, hpk, h1, h9, h12, k1, k2, k3, k4, kN⟩ := h
  refine ⟨J', B', hk, ?_, ?_, ?_, ?_, ?_, ?_, ?_, ?_, ?_, ?_, ?_, ?_, ?_, ?_, hN⟩
  · unfold zl_kp zs_mp at hkp' ⊢
    simp (discharger := decide) only [hT]
    exact hkp'
  · unfold zl_e
    simp (discharger := decide) only [hT, hS4, hS5]
    exact he
  · unfold zl_n
    simp (discharger := decide) only [hT, hS4, hS5]
    exact hn
  · unfold zl_p zs_mp at hp ⊢
    simp (discharger := decide) only [hT, hS4, hS5]
    exact hp
  · unfold zl_r
    simp (discharger := decide) only [hT, hS4, hS5]
    exact hr
  · unfold zl_a
    simp (discharger := decide) only [hT, hS4, hS5]
    exact ha
  · unfold zl_pk
    simp (discharger := decide) only [hT, hS]
    exact hpk
  · unfold zl_1
    simp (discharger := decide) only [hT, hS]
    exact ⟨h1.1, fun a q => ⟨h21 a q, (h1.2.1 a q).2⟩, h1.2.2⟩
  · unfold zl_9
    simp (discharger := decide) only [hT, hS]
    exact h9
  · unfold zl_12
    simp (discharger := decide) only [hT, hS]
    exact h12
  · unfold zl_K1
    simp (discharger := decide) only [hT]
    exact k1
  · unfold zl_K2
    simp (discharger := decide) only [hT]
    exact k2
  · unfold zl_K3
    simp (discharger := decide) only [hT]
    exact k3
  · unfold zl_K4
    simp (discharger := decide) only [hT]
    exact k4
theorem zl_mbk {S : zs_S} {i t i' a k : Nat} (ht : t = 4 ∨ t = 5) : zs_mb S i t i' (a + 1) k = if i' = i ∧ a = (zs_n (S 2 i 0 0) + 1) % 8 ∧ k < 114 then S t i 0 k else S t i' (a + 1) k := by
  have e2 : ∀ x y z, zs_u S 2 i 0 0 (nI (zs_n (S 2 i 0 0) + 1)) t x y z = S t x y z := fun x y z => zs_ut (by rcases ht with rfl | rfl <;> decide)
  unfold zs_mb zs_cp
  rw [e2, e2]
  by_cases e : i' = i ∧ a = (zs_n (S 2 i 0 0) + 1) % 8 ∧ k < 114
  · rw [if_pos e, if_pos ⟨ht, e.1, by omega, e.2.2⟩]
  · rw [if_neg e, if_neg (fun q => e ⟨q.2.1, by omega, q.2.2.2⟩)]
theorem zl_mb0 {S : zs_S} {i t i' : Nat} (ht : t = 4 ∨ t = 5) : zs_mb S i t i' 0 = S t i' 0 := by
  funext k
  unfold zs_mb
  rw [zs_cpj (by omega), zs_ut (by rcases ht with rfl | rfl <;> decide)]
theorem zl_Leq {th th' va va' ks ks' vs vs' : Nat → Int32} {p n n' : Nat} (h : zl_L th va ks vs p n) (e1 : ∀ x, x < 114 → th' x = th x) (e2 : ∀ x, x < 114 → va' x = va x) (e3 : ∀ x, x < 128 → ks' (p + x) = ks (p + x)) (e4 : ∀ x, x < 128 → vs' (p + x) = vs (p + x)) (en : n' = n) : zl_L th' va' ks' vs' p n' := by
  have hc : ∀ x, x ≤ 114 → zl_c th' x = zl_c th x := by
    intro x
    induction x with
    | zero => intro _; rfl
    | succ x ih =>
      intro hx
      rw [zl_cs, zl_cs, ih (by omega), e1 x (by omega)]
  refine ⟨by rw [en, hc 114 (by omega)]; exact h.1, fun x hx hx2 => ?_⟩
  rw [e1 x hx] at hx2
  have := zl_cle (th := th) x
  rw [hc x (by omega), e3 _ (by omega), e4 _ (by omega), e2 x hx]
  exact h.2 x hx hx2
theorem zl_blk {N : Nat} {S : zs_S} {T : zs_T} {i : Nat} (h : zl_R N S T) (hi : i < 2) (hn5 : zs_n (T 1 i) < 512) : zl_R (N + 1) (zs_mb S i) (zs_tk T i) := by
  have P := zl_Ptk h hi hn5
  have h' := h
  obtain ⟨hJ, hB, hkept, hkp, he, hn, hp, hr, ha, hpk, h1, h9, h12, k1, k2, k3, k4, kN⟩ := h
  have e2 : S 2 i 0 0 = T 1 i := (h1.2.1 i hi).1
  have mbk : ∀ t i' a k, t = 4 ∨ t = 5 → zs_mb S i t i' (a + 1) k = if i' = i ∧ a = (zs_n (T 1 i) + 1) % 8 ∧ k < 114 then S t i 0 k else S t i' (a + 1) k := fun t i' a k ht => by
    rw [← e2]
    exact zl_mbk ht
  refine zl_blk0 h' (fun x x1 x4 x5 x6 => zl_PT P x1 x4 x5 x6) (fun t t2 t4 t5 => ?_) (fun a => zl_mb0 (Or.inl rfl)) (fun a => zl_mb0 (Or.inr rfl)) (zs_Jtick hJ hn5) ?_ ?_ ?_ ?_ ?_
  · funext a b c
    exact zs_mbt t2 t4 t5
  · intro a b c
    cases b with
    | zero =>
      rw [zl_mb0 (Or.inr rfl)]
      exact hB a 0 c
    | succ b =>
      rw [mbk 5 a b c (Or.inr rfl)]
      split
      · exact hB i 0 c
      · exact hB a (b + 1) c
  · intro i' a hi' ha'
    by_cases e : i' = i ∧ a = (zs_n (T 1 i) + 1) % 8
    · obtain ⟨rfl, rfl⟩ := e
      obtain ⟨p1, p2, p3, p4, p5⟩ := P
      have L : zl_L (S 5 i' 0) (S 4 i' 0) (zs_tk T i' 5) (zs_tk T i' 6) (128 * (8 * i' + (zs_n (T 1 i') + 1) % 8)) (zs_n (zs_tk T i' 4 (8 * i' + (zs_n (T 1 i') + 1) % 8))) := by
        refine ⟨?_, p5⟩
        have := zl_cle (th := S 5 i' 0) 114
        rw [p3]
        exact nI_clamp (by omega)
      exact zl_Leq L (fun x hx => by rw [mbk 5 i' _ x (Or.inr rfl), if_pos ⟨rfl, rfl, hx⟩]) (fun x hx => by rw [mbk 4 i' _ x (Or.inl rfl), if_pos ⟨rfl, rfl, hx⟩]) (fun _ _ => rfl) (fun _ _ => rfl) rfl
    · obtain ⟨p1, p2, p3, p4, p5⟩ := P
      have ne : 8 * i' + a ≠ 8 * i + (zs_n (T 1 i) + 1) % 8 := fun q => e (by omega)
      exact zl_Leq (hkept i' a hi' ha') (fun x hx => by rw [mbk 5 i' _ x (Or.inr rfl), if_neg (fun q => e ⟨q.1, q.2.1⟩)]) (fun x hx => by rw [mbk 4 i' _ x (Or.inl rfl), if_neg (fun q => e ⟨q.1, q.2.1⟩)]) (fun x hx => (p4 _ (by omega)).1) (fun x hx => (p4 _ (by omega)).2) (by rw [p2 _ ne])
  · intro i' a c j x1 x2 x3 x4 x5
    rw [mbk 5 i' a _ (Or.inr rfl)] at x5
    rw [mbk 4 i' a _ (Or.inl rfl)]
    by_cases e : i' = i ∧ a = (zs_n (T 1 i) + 1) % 8 ∧ 6 + 12 * c + j < 114
    · rw [if_pos e] at x5 ⊢
      obtain ⟨rfl, _, _⟩ := e
      have z := hp i' c j x1 x3 x4
      rw [z.2] at x5
      rw [z.1]
      by_cases f : j < zs_n (T 9 (3 * i' + c)) ∧ T 17 (13 * (3 * i' + c) + (j + 1)) = 0
      · rw [if_pos f]
        exact ⟨f.1, rfl⟩
      · rw [if_neg f] at x5
        exact absurd rfl x5
    · rw [if_neg e] at x5 ⊢
      exact hkp i' a c j x1 x2 x3 x4 x5
  · intro a ha'
    rw [zs_mb2]
    by_cases e : a = i
    · subst e
      rw [if_pos rfl, zs_tk1s, e2]
    · rw [if_neg e, zs_tk1 e]
      exact (h1.2.1 a ha').1
  · intro a ha'
    by_cases e : a = i
    · subst e
      rw [zs_tk1s, show zs_n (nI (zs_n (T 1 a) + 1)) = zs_n (T 1 a) + 1 from nI_clamp (by omega)]
      have := kN a ha'
      omega
    · rw [zs_tk1 e]
      have := kN a ha'
      omega
