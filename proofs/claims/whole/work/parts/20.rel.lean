/-! class and reference: what their states have in common -/
def zl_c (th : Nat → Int32) : Nat → Nat
  | 0 => 0
  | k + 1 => zl_c th k + (if th k = 0 then 0 else 1)
theorem zl_cs {th : Nat → Int32} {k : Nat} : zl_c th (k + 1) = zl_c th k + (if th k = 0 then 0 else 1) := rfl
/-- n keys and values from place p on are those of the slots that are there -/
def zl_L (th va ks vs : Nat → Int32) (p n : Nat) : Prop := n = zl_c th 114 ∧ ∀ x, x < 114 → th x ≠ 0 → ks (p + zl_c th x) = zs_key x ∧ vs (p + zl_c th x) = va x
def zl_kept (S : zs_S) (T : zs_T) : Prop := ∀ i a, i < 2 → a < 8 → zl_L (S 5 i (a + 1)) (S 4 i (a + 1)) (T 5) (T 6) (128 * (8 * i + a)) (zs_n (T 4 (8 * i + a)))
def zl_kp (S : zs_S) (T : zs_T) : Prop := ∀ i a c j, i < 2 → a < 8 → c < 3 → j < 12 → S 5 i (a + 1) (6 + 12 * c + j) ≠ 0 → j < zs_n (T 9 (3 * i + c)) ∧ S 4 i (a + 1) (6 + 12 * c + j) = zs_mp T (13 * (3 * i + c) + (j + 1)) (T 13 (13 * (3 * i + c) + (j + 1)))
/-- an end's number and order, its number to come, the packets' prints, receipts, answers in the store -/
def zl_e (S : zs_S) (T : zs_T) : Prop := ∀ i c, i < 2 → c < 3 → S 4 i 0 c = nI 2 * T 7 (3 * i + c) + T 8 (3 * i + c) ∧ S 5 i 0 c = zs_fl (T 7 (3 * i + c))
def zl_n (S : zs_S) (T : zs_T) : Prop := ∀ i c, i < 2 → c < 3 → S 4 i 0 (3 + c) = (if T 8 (3 * i + c) = 0 then nI 0 else T 10 (3 * i + c)) ∧ S 5 i 0 (3 + c) = zs_fl (T 8 (3 * i + c))
def zl_p (S : zs_S) (T : zs_T) : Prop := ∀ i c j, i < 2 → c < 3 → j < 12 → S 4 i 0 (6 + 12 * c + j) = (if j < zs_n (T 9 (3 * i + c)) ∧ T 17 (13 * (3 * i + c) + (j + 1)) = 0 then zs_mp T (13 * (3 * i + c) + (j + 1)) (T 13 (13 * (3 * i + c) + (j + 1))) else nI 0) ∧ S 5 i 0 (6 + 12 * c + j) = (if j < zs_n (T 9 (3 * i + c)) ∧ T 17 (13 * (3 * i + c) + (j + 1)) = 0 then nI 1 else nI 0)
def zl_r (S : zs_S) (T : zs_T) : Prop := ∀ i c j, i < 2 → c < 3 → j < 12 → S 4 i 0 (42 + 12 * c + j) = (if T 8 (3 * i + c) = 0 then zs_fl (T 18 (13 * (3 * (1 - i) + c) + (j + 1))) else nI 0) ∧ S 5 i 0 (42 + 12 * c + j) = (if T 8 (3 * i + c) = 0 then zs_fl (T 18 (13 * (3 * (1 - i) + c) + (j + 1))) else nI 0)
def zl_a (S : zs_S) (T : zs_T) : Prop := ∀ i c j, i < 2 → c < 3 → j < 12 → S 4 i 0 (78 + 12 * c + j) = T 18 (13 * (3 * (1 - i) + c) + (j + 1)) ∧ S 5 i 0 (78 + 12 * c + j) = zs_fl (T 18 (13 * (3 * (1 - i) + c) + (j + 1)))
/-- the packets -/
def zl_pk (S : zs_S) (T : zs_T) : Prop := ∀ i c j, i < 2 → c < 3 → j < 12 → S 20 i (12 * c + j) 0 = T 12 (13 * (3 * i + c) + (j + 1)) ∧ S 20 i (12 * c + j) 1 = T 13 (13 * (3 * i + c) + (j + 1)) ∧ S 20 i (12 * c + j) 2 = nI (zs_n (T 14 (13 * (3 * i + c) + (j + 1))) / 4) ∧ S 20 i (12 * c + j) 3 = nI (zs_n (T 14 (13 * (3 * i + c) + (j + 1))) % 4) ∧ S 20 i (12 * c + j) 4 = T 15 (13 * (3 * i + c) + (j + 1)) ∧ S 20 i (12 * c + j) 5 = T 16 (13 * (3 * i + c) + (j + 1)) ∧ S 20 i (12 * c + j) 6 = T 17 (13 * (3 * i + c) + (j + 1))
/-- the single numbers -/
def zl_1 (S : zs_S) (T : zs_T) : Prop := S 0 0 0 0 = T 0 0 ∧ (∀ i, i < 2 → S 2 i 0 0 = T 1 i ∧ S 8 i 0 0 = T 3 i ∧ S 10 i 0 0 = T 21 i) ∧ (∀ i c, i < 2 → c < 3 → S 18 i c 0 = T 9 (3 * i + c) ∧ S 18 i c 1 = T 11 (3 * i + c)) ∧ (∀ i k, i < 2 → k < 6 → S 15 i 0 k = T 22 (6 * i + k) ∧ S 16 i 0 k = T 23 (6 * i + k))
def zl_9 (S : zs_S) (T : zs_T) : Prop := (∀ i q, i < 2 → q ≤ 512 → S 9 i 0 q = T 2 (1100 * i + q)) ∧ (∀ i q, i < 2 → 512 < q → q < 1100 → T 2 (1100 * i + q) = 0)
def zl_12 (S : zs_S) (T : zs_T) : Prop := (∀ i u k, i < 2 → u < 4 → k < 6 → S 12 i u k = T 19 (24 * i + 6 * u + k)) ∧ (∀ i c k, i < 2 → c < 3 → k < 6 → S 14 i c k = T 20 (18 * i + 6 * c + k))
/-- the reference's own -/
def zl_K1 (T : zs_T) : Prop := ∀ e, e < 6 → (∃ s, s ≤ 4 ∧ T 7 e = nI s) ∧ (T 8 e = 0 ∨ T 8 e = 1) ∧ (T 7 e = 0 → T 8 e = 0) ∧ (∃ n, 1 ≤ n ∧ n ≤ 13 ∧ T 10 e = nI n) ∧ (T 8 e = 0 → T 10 e = nI 1) ∧ (T 7 e < nI 3 → T 10 e = nI 1)
def zl_K2 (T : zs_T) : Prop := ∀ i c j, i < 2 → c < 3 → j < 12 → (T 18 (13 * (3 * (1 - i) + c) + (j + 1)) = 0 ∨ T 18 (13 * (3 * (1 - i) + c) + (j + 1)) = nI 1 ∨ T 18 (13 * (3 * (1 - i) + c) + (j + 1)) = nI 2) ∧ (T 7 (3 * i + c) < nI 3 → T 18 (13 * (3 * (1 - i) + c) + (j + 1)) = 0)
def zl_K3 (T : zs_T) : Prop := ∀ i c j, i < 2 → c < 3 → j < 12 → zs_n (T 12 (13 * (3 * i + c) + (j + 1))) ≤ zs_n (T 21 i) ∧ (j < zs_n (T 9 (3 * i + c)) → ∃ a, 1 ≤ a ∧ a ≤ 1000 ∧ T 13 (13 * (3 * i + c) + (j + 1)) = nI a) ∧ (zs_n (T 9 (3 * i + c)) ≤ j → T 17 (13 * (3 * i + c) + (j + 1)) = 0)
def zl_K4 (T : zs_T) : Prop := ∀ i k, i < 2 → k < 6 → zs_n (T 21 i) < k → (∀ u, u < 4 → T 19 (24 * i + 6 * u + k) = 0) ∧ (∀ c, c < 3 → T 20 (18 * i + 6 * c + k) = 0)
def zl_N (T : zs_T) (N : Nat) : Prop := ∀ i, i < 2 → zs_n (T 1 i) ≤ N
def zl_R (N : Nat) (S : zs_S) (T : zs_T) : Prop := zs_J T ∧ zs_B S ∧ zl_kept S T ∧ zl_kp S T ∧ zl_e S T ∧ zl_n S T ∧ zl_p S T ∧ zl_r S T ∧ zl_a S T ∧ zl_pk S T ∧ zl_1 S T ∧ zl_9 S T ∧ zl_12 S T ∧ zl_K1 T ∧ zl_K2 T ∧ zl_K3 T ∧ zl_K4 T ∧ zl_N T N
theorem zl_uT {S : zs_S} {t i j k t' i' j' : Nat} {v : Int32} (h : ¬ t' = t) : zs_u S t i j k v t' i' j' = S t' i' j' := zs_uother (fun q => h q.1)
theorem zl_u0 {S : zs_S} {t i k t' i' a : Nat} {v : Int32} : zs_u S t i 0 k v t' i' (a + 1) = S t' i' (a + 1) := zs_uother (fun q => absurd q.2.2 (Nat.succ_ne_zero a))
theorem zl_uk {S : zs_S} {t i j k i' j' k' : Nat} {v : Int32} (h : ¬ k' = k) : zs_u S t i j k v t i' j' k' = S t i' j' k' := zs_un (fun q => h q.2.2.2)
theorem zl_mp {T : zs_T} {x k q : Nat} {v y : Int32} (h1 : x ≠ 12) (h2 : x ≠ 14) (h3 : x ≠ 15) (h4 : x ≠ 16) : zs_mp (zs_w T x k v) q y = zs_mp T q y := by
  unfold zs_mp
  rw [zs_wx (Ne.symm h1), zs_wx (Ne.symm h2), zs_wx (Ne.symm h3), zs_wx (Ne.symm h4)]
theorem zl_mpk {T : zs_T} {x k q : Nat} {v y : Int32} (h : ¬ q = k) : zs_mp (zs_w T x k v) q y = zs_mp T q y := by
  unfold zs_mp
  rw [zs_wk h, zs_wk h, zs_wk h, zs_wk h]
theorem zl_B5 {S : zs_S} {i j k : Nat} {v : Int32} (hB : zs_B S) (hv : v = 0 ∨ v = 1) : zs_B (zs_u S 5 i j k v) := by
  intro a b c
  unfold zs_u
  split
  · exact hv
  · exact hB a b c
theorem zl_Bu {S : zs_S} {t i j k : Nat} {v : Int32} (hB : zs_B S) (ht : ¬ 5 = t) : zs_B (zs_u S t i j k v) := by
  intro a b c
  rw [zs_ut ht]
  exact hB a b c
theorem zl_f01 (x : Int32) : zs_fl x = 0 ∨ zs_fl x = 1 := by
  unfold zs_fl
  split
  · exact Or.inl rfl
  · exact Or.inr rfl
theorem zl_purse {N : Nat} {S : zs_S} {T : zs_T} {i u k : Nat} {v : Int32} (h : zl_R N S T) (hi : i < 2) (hu : u < 4) (hk : k < 6) (hkv : k ≤ zs_n (T 21 i)) : zl_R N (zs_u S 12 i u k v) (zs_w T 19 (24 * i + 6 * u + k) v) := by
  obtain ⟨hJ, hB, hkept, hkp, he, hn, hp, hr, ha, hpk, h1, h9, h12, k1, k2, k3, k4, kN⟩ := h
  refine ⟨(zs_Ju hJ (by decide) (by decide) (by decide) (by decide) (by decide) (by decide) (by decide) (by decide)), (fun i' j' k' => by simp (discharger := decide) only [zs_ut]; exact hB i' j' k'), (by unfold zl_kept; simp (discharger := decide) only [zs_ut, zs_wx, zl_uT, zl_u0, zs_wother, zl_mp]; exact hkept), (by unfold zl_kp; simp (discharger := decide) only [zs_ut, zs_wx, zl_uT, zl_u0, zs_wother, zl_mp]; exact hkp), (by unfold zl_e; simp (discharger := decide) only [zs_ut, zs_wx, zl_uT, zl_u0, zs_wother, zl_mp]; exact he), (by unfold zl_n; simp (discharger := decide) only [zs_ut, zs_wx, zl_uT, zl_u0, zs_wother, zl_mp]; exact hn), (by unfold zl_p; simp (discharger := decide) only [zs_ut, zs_wx, zl_uT, zl_u0, zs_wother, zl_mp]; exact hp), (by unfold zl_r; simp (discharger := decide) only [zs_ut, zs_wx, zl_uT, zl_u0, zs_wother, zl_mp]; exact hr), (by unfold zl_a; simp (discharger := decide) only [zs_ut, zs_wx, zl_uT, zl_u0, zs_wother, zl_mp]; exact ha), (by unfold zl_pk; simp (discharger := decide) only [zs_ut, zs_wx, zl_uT, zl_u0, zs_wother, zl_mp]; exact hpk), (by unfold zl_1; simp (discharger := decide) only [zs_ut, zs_wx, zl_uT, zl_u0, zs_wother, zl_mp]; exact h1), (by unfold zl_9; simp (discharger := decide) only [zs_ut, zs_wx, zl_uT, zl_u0, zs_wother, zl_mp]; exact h9), ?_, (by unfold zl_K1; simp (discharger := decide) only [zs_wx]; exact k1), (by unfold zl_K2; simp (discharger := decide) only [zs_wx]; exact k2), (by unfold zl_K3; simp (discharger := decide) only [zs_wx]; exact k3), ?_, (by unfold zl_N; simp (discharger := decide) only [zs_wx]; exact kN)⟩
  · refine ⟨fun i' u' k' a b c => ?_, fun i' c' k' a b c => by simp (discharger := decide) only [zs_ut, zs_wx]; exact h12.2 i' c' k' a b c⟩
    by_cases e : i' = i ∧ u' = u ∧ k' = k
    · obtain ⟨rfl, rfl, rfl⟩ := e
      rw [zs_us, zs_ws]
    · rw [zs_un (fun q => e q.2), zs_wk (fun q => e (by omega))]
      exact h12.1 i' u' k' a b c
  · intro i' k' a b hk'
    rw [zs_wx (by decide)] at hk'
    refine ⟨fun u' hu' => ?_, fun c' hc' => by rw [zs_wx (by decide)]; exact (k4 i' k' a b hk').2 c' hc'⟩
    rw [zs_wk (fun q => ?_)]
    · exact (k4 i' k' a b hk').1 u' hu'
    · obtain ⟨rfl, rfl⟩ : i' = i ∧ k' = k := by omega
      omega
theorem zl_escrow {N : Nat} {S : zs_S} {T : zs_T} {i c k : Nat} {v : Int32} (h : zl_R N S T) (hi : i < 2) (hc : c < 3) (hk : k < 6) (hkv : k ≤ zs_n (T 21 i)) : zl_R N (zs_u S 14 i c k v) (zs_w T 20 (18 * i + 6 * c + k) v) := by
  obtain ⟨hJ, hB, hkept, hkp, he, hn, hp, hr, ha, hpk, h1, h9, h12, k1, k2, k3, k4, kN⟩ := h
  refine ⟨(zs_Ju hJ (by decide) (by decide) (by decide) (by decide) (by decide) (by decide) (by decide) (by decide)), (fun i' j' k' => by simp (discharger := decide) only [zs_ut]; exact hB i' j' k'), (by unfold zl_kept; simp (discharger := decide) only [zs_ut, zs_wx, zl_uT, zl_u0, zs_wother, zl_mp]; exact hkept), (by unfold zl_kp; simp (discharger := decide) only [zs_ut, zs_wx, zl_uT, zl_u0, zs_wother, zl_mp]; exact hkp), (by unfold zl_e; simp (discharger := decide) only [zs_ut, zs_wx, zl_uT, zl_u0, zs_wother, zl_mp]; exact he), (by unfold zl_n; simp (discharger := decide) only [zs_ut, zs_wx, zl_uT, zl_u0, zs_wother, zl_mp]; exact hn), (by unfold zl_p; simp (discharger := decide) only [zs_ut, zs_wx, zl_uT, zl_u0, zs_wother, zl_mp]; exact hp), (by unfold zl_r; simp (discharger := decide) only [zs_ut, zs_wx, zl_uT, zl_u0, zs_wother, zl_mp]; exact hr), (by unfold zl_a; simp (discharger := decide) only [zs_ut, zs_wx, zl_uT, zl_u0, zs_wother, zl_mp]; exact ha), (by unfold zl_pk; simp (discharger := decide) only [zs_ut, zs_wx, zl_uT, zl_u0, zs_wother, zl_mp]; exact hpk), (by unfold zl_1; simp (discharger := decide) only [zs_ut, zs_wx, zl_uT, zl_u0, zs_wother, zl_mp]; exact h1), (by unfold zl_9; simp (discharger := decide) only [zs_ut, zs_wx, zl_uT, zl_u0, zs_wother, zl_mp]; exact h9), ?_, (by unfold zl_K1; simp (discharger := decide) only [zs_wx]; exact k1), (by unfold zl_K2; simp (discharger := decide) only [zs_wx]; exact k2), (by unfold zl_K3; simp (discharger := decide) only [zs_wx]; exact k3), ?_, (by unfold zl_N; simp (discharger := decide) only [zs_wx]; exact kN)⟩
  · refine ⟨fun i' c' k' a b c => by simp (discharger := decide) only [zs_ut, zs_wx]; exact h12.1 i' c' k' a b c, fun i' u' k' a b d => ?_⟩
    by_cases e : i' = i ∧ u' = c ∧ k' = k
    · obtain ⟨rfl, rfl, rfl⟩ := e
      rw [zs_us, zs_ws]
    · rw [zs_un (fun q => e q.2), zs_wk (fun q => e (by omega))]
      exact h12.2 i' u' k' a b d
  · intro i' k' a b hk'
    rw [zs_wx (by decide)] at hk'
    refine ⟨fun c' hc' => by rw [zs_wx (by decide)]; exact (k4 i' k' a b hk').1 c' hc', fun u' hu' => ?_⟩
    rw [zs_wk (fun q => ?_)]
    · exact (k4 i' k' a b hk').2 u' hu'
    · obtain ⟨rfl, rfl⟩ : i' = i ∧ k' = k := by omega
      omega
theorem zl_vouch {N : Nat} {S : zs_S} {T : zs_T} {i n c : Nat} {x : Int32} (h : zl_R N S T) (hi : i < 2) (hn5 : n < 5) (hv : zs_n (T 21 i) = n) (hx : x = nI (zs_n x) ∧ zs_n x < 6) : zl_R N (zs_u (zs_u (zs_u S 10 i 0 0 (nI (n + 1))) 15 i 0 (n + 1) x) 16 i 0 (n + 1) (nI c)) (zs_w (zs_w (zs_w T 21 i (nI (n + 1))) 22 (6 * i + (n + 1)) x) 23 (6 * i + (n + 1)) (nI c)) := by
  obtain ⟨hJ, hB, hkept, hkp, he, hn, hp, hr, ha, hpk, h1, h9, h12, k1, k2, k3, k4, kN⟩ := h
  refine ⟨(zs_Ju (zs_J22 (zs_J21 hJ (by omega)) hx) (by decide) (by decide) (by decide) (by decide) (by decide) (by decide) (by decide) (by decide)), (fun i' j' k' => by simp (discharger := decide) only [zs_ut]; exact hB i' j' k'), (by unfold zl_kept; simp (discharger := decide) only [zs_ut, zs_wx, zl_uT, zl_u0, zs_wother, zl_mp]; exact hkept), (by unfold zl_kp; simp (discharger := decide) only [zs_ut, zs_wx, zl_uT, zl_u0, zs_wother, zl_mp]; exact hkp), (by unfold zl_e; simp (discharger := decide) only [zs_ut, zs_wx, zl_uT, zl_u0, zs_wother, zl_mp]; exact he), (by unfold zl_n; simp (discharger := decide) only [zs_ut, zs_wx, zl_uT, zl_u0, zs_wother, zl_mp]; exact hn), (by unfold zl_p; simp (discharger := decide) only [zs_ut, zs_wx, zl_uT, zl_u0, zs_wother, zl_mp]; exact hp), (by unfold zl_r; simp (discharger := decide) only [zs_ut, zs_wx, zl_uT, zl_u0, zs_wother, zl_mp]; exact hr), (by unfold zl_a; simp (discharger := decide) only [zs_ut, zs_wx, zl_uT, zl_u0, zs_wother, zl_mp]; exact ha), (by unfold zl_pk; simp (discharger := decide) only [zs_ut, zs_wx, zl_uT, zl_u0, zs_wother, zl_mp]; exact hpk), ?_, (by unfold zl_9; simp (discharger := decide) only [zs_ut, zs_wx, zl_uT, zl_u0, zs_wother, zl_mp]; exact h9), (by unfold zl_12; simp (discharger := decide) only [zs_ut, zs_wx, zl_uT, zl_u0, zs_wother, zl_mp]; exact h12), (by unfold zl_K1; simp (discharger := decide) only [zs_wx]; exact k1), (by unfold zl_K2; simp (discharger := decide) only [zs_wx]; exact k2), ?_, ?_, (by unfold zl_N; simp (discharger := decide) only [zs_wx]; exact kN)⟩
  · refine ⟨by simp (discharger := decide) only [zs_ut, zs_wx]; exact h1.1, fun i' a => ⟨by simp (discharger := decide) only [zs_ut, zs_wx]; exact (h1.2.1 i' a).1, by simp (discharger := decide) only [zs_ut, zs_wx]; exact (h1.2.1 i' a).2.1, ?_⟩, by simp (discharger := decide) only [zs_ut, zs_wx]; exact h1.2.2.1, fun i' k' a b => ⟨?_, ?_⟩⟩
    · rw [zs_ut (by decide), zs_ut (by decide), zs_wx (by decide), zs_wx (by decide)]
      by_cases e : i' = i
      · subst e
        rw [zs_us, zs_ws]
      · rw [zs_un (fun q => e q.2.1), zs_wk e]
        exact (h1.2.1 i' a).2.2
    · rw [zs_ut (by decide), zs_wx (by decide)]
      by_cases e : i' = i ∧ k' = n + 1
      · obtain ⟨rfl, rfl⟩ := e
        rw [zs_us, zs_ws]
      · rw [zs_un (fun q => e ⟨q.2.1, q.2.2.2⟩), zs_wk (fun q => e (by omega)), zs_ut (by decide), zs_wx (by decide)]
        exact (h1.2.2.2 i' k' a b).1
    · by_cases e : i' = i ∧ k' = n + 1
      · obtain ⟨rfl, rfl⟩ := e
        rw [zs_us, zs_ws]
      · rw [zs_un (fun q => e ⟨q.2.1, q.2.2.2⟩), zs_wk (fun q => e (by omega)), zs_ut (by decide), zs_wx (by decide), zs_ut (by decide), zs_wx (by decide)]
        exact (h1.2.2.2 i' k' a b).2
  · intro i' c' j' a b d
    simp (discharger := decide) only [zs_wx]
    refine ⟨?_, (k3 i' c' j' a b d).2⟩
    have z := (k3 i' c' j' a b d).1
    by_cases e : i' = i
    · subst e
      rw [zs_ws, show zs_n (nI (n + 1)) = n + 1 from nI_clamp (by omega)]
      omega
    · rw [zs_wk e]
      exact z
  · intro i' k' a b hk'
    simp (discharger := decide) only [zs_wx] at hk' ⊢
    by_cases e : i' = i
    · subst e
      rw [zs_ws, show zs_n (nI (n + 1)) = n + 1 from nI_clamp (by omega)] at hk'
      exact k4 i' k' a b (by omega)
    · rw [zs_wk e] at hk'
      exact k4 i' k' a b hk'
theorem zl_settle {N : Nat} {S : zs_S} {T : zs_T} {i c j : Nat} {x : Int32} (h : zl_R N S T) (hi : i < 2) (hc : c < 3) (hj : j < 12) (hs : j < zs_n (T 9 (3 * i + c))) (hx : x ≠ 0) : zl_R N (zs_u (zs_u (zs_u S 20 i (12 * c + j) 6 x) 4 i 0 (6 + 12 * c + j) (nI 0)) 5 i 0 (6 + 12 * c + j) (nI 0)) (zs_w T 17 (13 * (3 * i + c) + (j + 1)) x) := by
  obtain ⟨hJ, hB, hkept, hkp, he, hn, hp, hr, ha, hpk, h1, h9, h12, k1, k2, k3, k4, kN⟩ := h
  refine ⟨(zs_Ju hJ (by decide) (by decide) (by decide) (by decide) (by decide) (by decide) (by decide) (by decide)), (zl_B5 (zl_Bu (zl_Bu hB (by decide)) (by decide)) (Or.inl rfl)), (by unfold zl_kept; simp (discharger := decide) only [zs_ut, zs_wx, zl_uT, zl_u0, zs_wother, zl_mp]; exact hkept), (by unfold zl_kp; simp (discharger := decide) only [zs_ut, zs_wx, zl_uT, zl_u0, zs_wother, zl_mp]; exact hkp), ?_, ?_, ?_, ?_, ?_, ?_, (by unfold zl_1; simp (discharger := decide) only [zs_ut, zs_wx, zl_uT, zl_u0, zs_wother, zl_mp]; exact h1), (by unfold zl_9; simp (discharger := decide) only [zs_ut, zs_wx, zl_uT, zl_u0, zs_wother, zl_mp]; exact h9), (by unfold zl_12; simp (discharger := decide) only [zs_ut, zs_wx, zl_uT, zl_u0, zs_wother, zl_mp]; exact h12), (by unfold zl_K1; simp (discharger := decide) only [zs_wx]; exact k1), (by unfold zl_K2; simp (discharger := decide) only [zs_wx]; exact k2), ?_, (by unfold zl_K4; simp (discharger := decide) only [zs_wx]; exact k4), (by unfold zl_N; simp (discharger := decide) only [zs_wx]; exact kN)⟩
  · intro i' c' a b
    rw [zs_ut (by decide), zs_uk (by omega), zs_ut (by decide), zs_uk (by omega), zs_ut (by decide), zs_ut (by decide), zs_wx (by decide), zs_wx (by decide)]
    exact he i' c' a b
  · intro i' c' a b
    rw [zs_ut (by decide), zs_uk (by omega), zs_ut (by decide), zs_uk (by omega), zs_ut (by decide), zs_ut (by decide), zs_wx (by decide), zs_wx (by decide)]
    exact hn i' c' a b
  · intro i' c' j' a b d
    by_cases e : i' = i ∧ c' = c ∧ j' = j
    · obtain ⟨rfl, rfl, rfl⟩ := e
      rw [zs_ut (by decide), zs_us, zs_us, zs_ws, if_neg (fun q => hx q.2), if_neg (fun q => hx q.2)]
      exact ⟨rfl, rfl⟩
    · have g : ∀ (Z : zs_S) (t : Nat) (v : Int32), zs_u Z t i 0 (6 + 12 * c + j) v t i' 0 (6 + 12 * c' + j') = Z t i' 0 (6 + 12 * c' + j') := fun Z t v => zs_un (fun q => e (by omega))
      simp (discharger := decide) only [zs_ut, zs_wx, zl_mp, g]
      rw [zs_wk (fun q => e (by omega))]
      exact hp i' c' j' a b d
  · intro i' c' j' a b d
    rw [zs_ut (by decide), zs_uk (by omega), zs_ut (by decide), zs_uk (by omega), zs_ut (by decide), zs_ut (by decide), zs_wx (by decide), zs_wx (by decide)]
    exact hr i' c' j' a b d
  · intro i' c' j' a b d
    rw [zs_ut (by decide), zs_uk (by omega), zs_ut (by decide), zs_uk (by omega), zs_ut (by decide), zs_ut (by decide), zs_wx (by decide)]
    exact ha i' c' j' a b d
  · intro i' c' j' a b d
    have z := hpk i' c' j' a b d
    simp (discharger := decide) only [zs_ut, zs_uk, zs_wx]
    refine ⟨z.1, z.2.1, z.2.2.1, z.2.2.2.1, z.2.2.2.2.1, z.2.2.2.2.2.1, ?_⟩
    by_cases e : i' = i ∧ c' = c ∧ j' = j
    · obtain ⟨rfl, rfl, rfl⟩ := e
      rw [zs_us, zs_ws]
    · rw [zs_un (fun q => e (by omega)), zs_wk (fun q => e (by omega))]
      exact z.2.2.2.2.2.2
  · intro i' c' j' a b d
    have z := k3 i' c' j' a b d
    simp (discharger := decide) only [zs_wx]
    refine ⟨z.1, z.2.1, fun q => ?_⟩
    rw [zs_wk (fun w => ?_)]
    · exact z.2.2 q
    · obtain ⟨rfl, rfl, rfl⟩ : i' = i ∧ c' = c ∧ j' = j := by omega
      omega
theorem zl_ack {N : Nat} {S : zs_S} {T : zs_T} {i c : Nat} {v : Int32} (h : zl_R N S T) (hi : i < 2) (hc : c < 3) : zl_R N (zs_u S 18 i c 1 v) (zs_w T 11 (3 * i + c) v) := by
  obtain ⟨hJ, hB, hkept, hkp, he, hn, hp, hr, ha, hpk, h1, h9, h12, k1, k2, k3, k4, kN⟩ := h
  refine ⟨(zs_Ju hJ (by decide) (by decide) (by decide) (by decide) (by decide) (by decide) (by decide) (by decide)), (fun i' j' k' => by simp (discharger := decide) only [zs_ut]; exact hB i' j' k'), (by unfold zl_kept; simp (discharger := decide) only [zs_ut, zs_wx, zl_uT, zl_u0, zs_wother, zl_mp]; exact hkept), (by unfold zl_kp; simp (discharger := decide) only [zs_ut, zs_wx, zl_uT, zl_u0, zs_wother, zl_mp]; exact hkp), (by unfold zl_e; simp (discharger := decide) only [zs_ut, zs_wx, zl_uT, zl_u0, zs_wother, zl_mp]; exact he), (by unfold zl_n; simp (discharger := decide) only [zs_ut, zs_wx, zl_uT, zl_u0, zs_wother, zl_mp]; exact hn), (by unfold zl_p; simp (discharger := decide) only [zs_ut, zs_wx, zl_uT, zl_u0, zs_wother, zl_mp]; exact hp), (by unfold zl_r; simp (discharger := decide) only [zs_ut, zs_wx, zl_uT, zl_u0, zs_wother, zl_mp]; exact hr), (by unfold zl_a; simp (discharger := decide) only [zs_ut, zs_wx, zl_uT, zl_u0, zs_wother, zl_mp]; exact ha), (by unfold zl_pk; simp (discharger := decide) only [zs_ut, zs_wx, zl_uT, zl_u0, zs_wother, zl_mp]; exact hpk), ?_, (by unfold zl_9; simp (discharger := decide) only [zs_ut, zs_wx, zl_uT, zl_u0, zs_wother, zl_mp]; exact h9), (by unfold zl_12; simp (discharger := decide) only [zs_ut, zs_wx, zl_uT, zl_u0, zs_wother, zl_mp]; exact h12), (by unfold zl_K1; simp (discharger := decide) only [zs_wx]; exact k1), (by unfold zl_K2; simp (discharger := decide) only [zs_wx]; exact k2), (by unfold zl_K3; simp (discharger := decide) only [zs_wx]; exact k3), (by unfold zl_K4; simp (discharger := decide) only [zs_wx]; exact k4), (by unfold zl_N; simp (discharger := decide) only [zs_wx]; exact kN)⟩
  · refine ⟨by simp (discharger := decide) only [zs_ut, zs_wx]; exact h1.1, by simp (discharger := decide) only [zs_ut, zs_wx]; exact h1.2.1, fun i' c' a b => ?_, by simp (discharger := decide) only [zs_ut, zs_wx]; exact h1.2.2.2⟩
    have z := h1.2.2.1 i' c' a b
    rw [zs_uk (by decide), zs_wx (by decide)]
    refine ⟨z.1, ?_⟩
    by_cases e : i' = i ∧ c' = c
    · obtain ⟨rfl, rfl⟩ := e
      rw [zs_us, zs_ws]
    · rw [zs_un (fun q => e ⟨q.2.1, q.2.2.1⟩), zs_wk (fun q => e (by omega))]
      exact z.2
theorem zl_recU {N : Nat} {S : zs_S} {T : zs_T} {i c j : Nat} {a : Int32} (h : zl_R N S T) (hi : i < 2) (hc : c < 3) (hj : j < 12) (h8 : T 8 (3 * i + c) = 0) (h7 : ¬ T 7 (3 * i + c) < nI 3) (hav : a = nI 1 ∨ a = nI 2) : zl_R N (zs_u (zs_u (zs_u (zs_u S 4 i 0 (42 + 12 * c + j) (nI 1)) 5 i 0 (42 + 12 * c + j) (nI 1)) 4 i 0 (78 + 12 * c + j) a) 5 i 0 (78 + 12 * c + j) (nI 1)) (zs_w T 18 (13 * (3 * (1 - i) + c) + (j + 1)) a) := by
  obtain ⟨hJ, hB, hkept, hkp, he, hn, hp, hr, ha, hpk, h1, h9, h12, k1, k2, k3, k4, kN⟩ := h
  refine ⟨(zs_Ju hJ (by decide) (by decide) (by decide) (by decide) (by decide) (by decide) (by decide) (by decide)), (zl_B5 (zl_Bu (zl_B5 (zl_Bu hB (by decide)) (Or.inr rfl)) (by decide)) (Or.inr rfl)), (by unfold zl_kept; simp (discharger := decide) only [zs_ut, zs_wx, zl_uT, zl_u0, zs_wother, zl_mp]; exact hkept), (by unfold zl_kp; simp (discharger := decide) only [zs_ut, zs_wx, zl_uT, zl_u0, zs_wother, zl_mp]; exact hkp), ?_, ?_, ?_, ?_, ?_, (by unfold zl_pk; simp (discharger := decide) only [zs_ut, zs_wx, zl_uT, zl_u0, zs_wother, zl_mp]; exact hpk), (by unfold zl_1; simp (discharger := decide) only [zs_ut, zs_wx, zl_uT, zl_u0, zs_wother, zl_mp]; exact h1), (by unfold zl_9; simp (discharger := decide) only [zs_ut, zs_wx, zl_uT, zl_u0, zs_wother, zl_mp]; exact h9), (by unfold zl_12; simp (discharger := decide) only [zs_ut, zs_wx, zl_uT, zl_u0, zs_wother, zl_mp]; exact h12), (by unfold zl_K1; simp (discharger := decide) only [zs_wx]; exact k1), ?_, (by unfold zl_K3; simp (discharger := decide) only [zs_wx]; exact k3), (by unfold zl_K4; simp (discharger := decide) only [zs_wx]; exact k4), (by unfold zl_N; simp (discharger := decide) only [zs_wx]; exact kN)⟩
  · intro i' c' a' b
    simp (discharger := omega) only [zs_ut, zs_uk, zs_wx, zl_mp]
    exact he i' c' a' b
  · intro i' c' a' b
    simp (discharger := omega) only [zs_ut, zs_uk, zs_wx, zl_mp]
    exact hn i' c' a' b
  · intro i' c' j' a' b d
    simp (discharger := omega) only [zs_ut, zs_uk, zs_wx, zl_mp]
    exact hp i' c' j' a' b d
  · intro i' c' j' a' b d
    simp (discharger := omega) only [zs_ut, zs_uk, zs_wx, zl_mp]
    by_cases e : i' = i ∧ c' = c ∧ j' = j
    · obtain ⟨rfl, rfl, rfl⟩ := e
      simp (discharger := omega) only [zs_ut, zs_uk, zs_us, zs_ws]
      rw [if_pos h8]
      rcases hav with rfl | rfl
      · decide
      · decide
    · have g : ∀ (Z : zs_S) (t : Nat) (v : Int32), zs_u Z t i 0 (42 + 12 * c + j) v t i' 0 (42 + 12 * c' + j') = Z t i' 0 (42 + 12 * c' + j') := fun Z t v => zs_un (fun q => e (by omega))
      simp (discharger := omega) only [zs_ut, zs_uk, g]
      rw [zs_wk (fun q => e (by omega))]
      exact hr i' c' j' a' b d
  · intro i' c' j' a' b d
    simp (discharger := omega) only [zs_ut, zs_uk, zs_wx, zl_mp]
    by_cases e : i' = i ∧ c' = c ∧ j' = j
    · obtain ⟨rfl, rfl, rfl⟩ := e
      simp (discharger := omega) only [zs_ut, zs_uk, zs_us, zs_ws]
      refine ⟨trivial, ?_⟩
      rcases hav with rfl | rfl
      · decide
      · decide
    · have g : ∀ (Z : zs_S) (t : Nat) (v : Int32), zs_u Z t i 0 (78 + 12 * c + j) v t i' 0 (78 + 12 * c' + j') = Z t i' 0 (78 + 12 * c' + j') := fun Z t v => zs_un (fun q => e (by omega))
      simp (discharger := omega) only [zs_ut, zs_uk, g]
      rw [zs_wk (fun q => e (by omega))]
      exact ha i' c' j' a' b d
  · intro i' c' j' a' b d
    simp (discharger := decide) only [zs_wx]
    have z := k2 i' c' j' a' b d
    by_cases e : i' = i ∧ c' = c ∧ j' = j
    · obtain ⟨rfl, rfl, rfl⟩ := e
      rw [zs_ws]
      exact ⟨Or.inr hav, fun q => absurd q h7⟩
    · rw [zs_wk (fun q => e (by omega))]
      exact z
theorem zl_recO {N : Nat} {S : zs_S} {T : zs_T} {i c j : Nat} {a : Int32} (h : zl_R N S T) (hi : i < 2) (hc : c < 3) (hj : j < 12) (h8 : ¬ T 8 (3 * i + c) = 0) (h7 : ¬ T 7 (3 * i + c) < nI 3) (hav : a = nI 1 ∨ a = nI 2) : zl_R N (zs_u (zs_u (zs_u (zs_u S 4 i 0 (3 + c) (nI (j + 1 + 1))) 5 i 0 (3 + c) (nI 1)) 4 i 0 (78 + 12 * c + j) a) 5 i 0 (78 + 12 * c + j) (nI 1)) (zs_w (zs_w T 18 (13 * (3 * (1 - i) + c) + (j + 1)) a) 10 (3 * i + c) (nI (j + 1 + 1))) := by
  obtain ⟨hJ, hB, hkept, hkp, he, hn, hp, hr, ha, hpk, h1, h9, h12, k1, k2, k3, k4, kN⟩ := h
  refine ⟨(zs_Ju (zs_Ju hJ (by decide) (by decide) (by decide) (by decide) (by decide) (by decide) (by decide) (by decide)) (by decide) (by decide) (by decide) (by decide) (by decide) (by decide) (by decide) (by decide)), (zl_B5 (zl_Bu (zl_B5 (zl_Bu hB (by decide)) (Or.inr rfl)) (by decide)) (Or.inr rfl)), (by unfold zl_kept; simp (discharger := decide) only [zs_ut, zs_wx, zl_uT, zl_u0, zs_wother, zl_mp]; exact hkept), (by unfold zl_kp; simp (discharger := decide) only [zs_ut, zs_wx, zl_uT, zl_u0, zs_wother, zl_mp]; exact hkp), ?_, ?_, ?_, ?_, ?_, (by unfold zl_pk; simp (discharger := decide) only [zs_ut, zs_wx, zl_uT, zl_u0, zs_wother, zl_mp]; exact hpk), (by unfold zl_1; simp (discharger := decide) only [zs_ut, zs_wx, zl_uT, zl_u0, zs_wother, zl_mp]; exact h1), (by unfold zl_9; simp (discharger := decide) only [zs_ut, zs_wx, zl_uT, zl_u0, zs_wother, zl_mp]; exact h9), (by unfold zl_12; simp (discharger := decide) only [zs_ut, zs_wx, zl_uT, zl_u0, zs_wother, zl_mp]; exact h12), ?_, ?_, (by unfold zl_K3; simp (discharger := decide) only [zs_wx]; exact k3), (by unfold zl_K4; simp (discharger := decide) only [zs_wx]; exact k4), (by unfold zl_N; simp (discharger := decide) only [zs_wx]; exact kN)⟩
  · intro i' c' a' b
    simp (discharger := omega) only [zs_ut, zs_uk, zs_wx, zl_mp]
    exact he i' c' a' b
  · intro i' c' a' b
    simp (discharger := omega) only [zs_ut, zs_uk, zs_wx, zl_mp]
    by_cases e : i' = i ∧ c' = c
    · obtain ⟨rfl, rfl⟩ := e
      simp (discharger := omega) only [zs_ut, zs_uk, zs_us, zs_ws]
      rw [if_neg h8]
      unfold zs_fl
      rw [if_neg h8]
      exact ⟨rfl, rfl⟩
    · have g : ∀ (Z : zs_S) (t : Nat) (v : Int32), zs_u Z t i 0 (3 + c) v t i' 0 (3 + c') = Z t i' 0 (3 + c') := fun Z t v => zs_un (fun q => e (by omega))
      simp (discharger := omega) only [zs_ut, zs_uk, g]
      rw [zs_wk (fun q => e (by omega))]
      exact hn i' c' a' b
  · intro i' c' j' a' b d
    simp (discharger := omega) only [zs_ut, zs_uk, zs_wx, zl_mp]
    exact hp i' c' j' a' b d
  · intro i' c' j' a' b d
    simp (discharger := omega) only [zs_ut, zs_uk, zs_wx, zl_mp]
    have z := hr i' c' j' a' b d
    by_cases e : i' = i ∧ c' = c
    · obtain ⟨rfl, rfl⟩ := e
      rw [if_neg h8] at z ⊢
      exact z
    · rw [zs_wk (fun q => e (by omega))]
      exact z
  · intro i' c' j' a' b d
    simp (discharger := omega) only [zs_ut, zs_uk, zs_wx, zl_mp]
    by_cases e : i' = i ∧ c' = c ∧ j' = j
    · obtain ⟨rfl, rfl, rfl⟩ := e
      simp (discharger := omega) only [zs_ut, zs_uk, zs_us, zs_ws]
      refine ⟨trivial, ?_⟩
      rcases hav with rfl | rfl
      · decide
      · decide
    · have g : ∀ (Z : zs_S) (t : Nat) (v : Int32), zs_u Z t i 0 (78 + 12 * c + j) v t i' 0 (78 + 12 * c' + j') = Z t i' 0 (78 + 12 * c' + j') := fun Z t v => zs_un (fun q => e (by omega))
      simp (discharger := omega) only [zs_ut, zs_uk, g]
      rw [zs_wk (fun q => e (by omega))]
      exact ha i' c' j' a' b d
  · intro e' he'
    simp (discharger := decide) only [zs_wx]
    have z := k1 e' he'
    by_cases e : e' = 3 * i + c
    · subst e
      rw [zs_ws]
      exact ⟨z.1, z.2.1, z.2.2.1, ⟨j + 1 + 1, by omega, by omega, rfl⟩, fun q => absurd q h8, fun q => absurd q h7⟩
    · rw [zs_wk e]
      exact z
  · intro i' c' j' a' b d
    simp (discharger := decide) only [zs_wx]
    have z := k2 i' c' j' a' b d
    by_cases e : i' = i ∧ c' = c ∧ j' = j
    · obtain ⟨rfl, rfl, rfl⟩ := e
      rw [zs_ws]
      exact ⟨Or.inr hav, fun q => absurd q h7⟩
    · rw [zs_wk (fun q => e (by omega))]
      exact z
theorem zl_move {N : Nat} {S : zs_S} {T : zs_T} {i c : Nat} {z : Int32} (h : zl_R N S T) (hi : i < 2) (hc : c < 3) (h0 : ¬ T 7 (3 * i + c) = 0) (hz : z = nI 3 ∨ z = nI 4) : zl_R N (zs_u (zs_u S 4 i 0 c (nI 2 * z + T 8 (3 * i + c))) 5 i 0 c (nI 1)) (zs_w T 7 (3 * i + c) z) := by
  obtain ⟨hJ, hB, hkept, hkp, he, hn, hp, hr, ha, hpk, h1, h9, h12, k1, k2, k3, k4, kN⟩ := h
  refine ⟨(zs_Ju hJ (by decide) (by decide) (by decide) (by decide) (by decide) (by decide) (by decide) (by decide)), (zl_B5 (zl_Bu hB (by decide)) (Or.inr rfl)), (by unfold zl_kept; simp (discharger := decide) only [zs_ut, zs_wx, zl_uT, zl_u0, zs_wother, zl_mp]; exact hkept), (by unfold zl_kp; simp (discharger := decide) only [zs_ut, zs_wx, zl_uT, zl_u0, zs_wother, zl_mp]; exact hkp), ?_, ?_, ?_, ?_, ?_, (by unfold zl_pk; simp (discharger := decide) only [zs_ut, zs_wx, zl_uT, zl_u0, zs_wother, zl_mp]; exact hpk), (by unfold zl_1; simp (discharger := decide) only [zs_ut, zs_wx, zl_uT, zl_u0, zs_wother, zl_mp]; exact h1), (by unfold zl_9; simp (discharger := decide) only [zs_ut, zs_wx, zl_uT, zl_u0, zs_wother, zl_mp]; exact h9), (by unfold zl_12; simp (discharger := decide) only [zs_ut, zs_wx, zl_uT, zl_u0, zs_wother, zl_mp]; exact h12), ?_, ?_, (by unfold zl_K3; simp (discharger := decide) only [zs_wx]; exact k3), (by unfold zl_K4; simp (discharger := decide) only [zs_wx]; exact k4), (by unfold zl_N; simp (discharger := decide) only [zs_wx]; exact kN)⟩
  · intro i' c' a b
    simp (discharger := omega) only [zs_ut, zs_uk, zs_wx, zl_mp]
    by_cases e : i' = i ∧ c' = c
    · obtain ⟨rfl, rfl⟩ := e
      simp (discharger := omega) only [zs_ut, zs_uk, zs_us, zs_ws]
      refine ⟨trivial, ?_⟩
      rcases hz with rfl | rfl
      · decide
      · decide
    · have g : ∀ (Z : zs_S) (t : Nat) (v : Int32), zs_u Z t i 0 (c) v t i' 0 (c') = Z t i' 0 (c') := fun Z t v => zs_un (fun q => e (by omega))
      simp (discharger := omega) only [zs_ut, zs_uk, g]
      rw [zs_wk (fun q => e (by omega))]
      exact he i' c' a b
  · intro i' c' a b
    simp (discharger := omega) only [zs_ut, zs_uk, zs_wx, zl_mp]
    exact hn i' c' a b
  · intro i' c' j' a b d
    simp (discharger := omega) only [zs_ut, zs_uk, zs_wx, zl_mp]
    exact hp i' c' j' a b d
  · intro i' c' j' a b d
    simp (discharger := omega) only [zs_ut, zs_uk, zs_wx, zl_mp]
    exact hr i' c' j' a b d
  · intro i' c' j' a b d
    simp (discharger := omega) only [zs_ut, zs_uk, zs_wx, zl_mp]
    exact ha i' c' j' a b d
  · intro e' he'
    simp (discharger := decide) only [zs_wx]
    have w := k1 e' he'
    by_cases e : e' = 3 * i + c
    · subst e
      rw [zs_ws]
      refine ⟨?_, w.2.1, fun q => absurd q ?_, w.2.2.2.1, w.2.2.2.2.1, fun q => absurd q ?_⟩
      · rcases hz with rfl | rfl
        · exact ⟨3, by decide, rfl⟩
        · exact ⟨4, by decide, rfl⟩
      · rcases hz with rfl | rfl
        · decide
        · decide
      · rcases hz with rfl | rfl
        · decide
        · decide
    · rw [zs_wk e]
      exact w
  · intro i' c' j' a b d
    simp (discharger := decide) only [zs_wx]
    have w := k2 i' c' j' a b d
    by_cases e : i' = i ∧ c' = c
    · obtain ⟨rfl, rfl⟩ := e
      rw [zs_ws]
      refine ⟨w.1, fun q => absurd q ?_⟩
      rcases hz with rfl | rfl
      · decide
      · decide
    · rw [zs_wk (fun q => e (by omega))]
      exact w
theorem zl_make {N : Nat} {S : zs_S} {T : zs_T} {i c : Nat} {z o : Int32} (h : zl_R N S T) (hi : i < 2) (hc : c < 3) (h0 : T 7 (3 * i + c) = 0 ∨ (T 7 (3 * i + c) = nI 1 ∧ T 8 (3 * i + c) = o)) (hz : z = nI 1 ∨ z = nI 2) (ho : o = nI 0 ∨ o = nI 1) : zl_R N (zs_u (zs_u (zs_u (zs_u S 4 i 0 c (nI 2 * z + o)) 5 i 0 c (nI 1)) 4 i 0 (3 + c) (if o = nI 1 then nI 1 else S 4 i 0 (3 + c))) 5 i 0 (3 + c) (if o = nI 1 then nI 1 else S 5 i 0 (3 + c))) (zs_w (zs_w T 7 (3 * i + c) z) 8 (3 * i + c) o) := by
  obtain ⟨hJ, hB, hkept, hkp, he, hn, hp, hr, ha, hpk, h1, h9, h12, k1, k2, k3, k4, kN⟩ := h
  have h3 : T 7 (3 * i + c) < nI 3 := by
    rcases h0 with q | q
    · rw [q]; decide
    · rw [q.1]; decide
  have h10 := (k1 (3 * i + c) (by omega)).2.2.2.2.2 h3
  have h18 : ∀ j, j < 12 → T 18 (13 * (3 * (1 - i) + c) + (j + 1)) = 0 := fun j hj => (k2 i c j hi hc hj).2 h3
  have h80 : o = nI 0 → T 8 (3 * i + c) = 0 := fun q => by
    rcases h0 with z | z
    · exact (k1 (3 * i + c) (by omega)).2.2.1 z
    · rw [z.2, q]; rfl
  refine ⟨(zs_Ju (zs_Ju hJ (by decide) (by decide) (by decide) (by decide) (by decide) (by decide) (by decide) (by decide)) (by decide) (by decide) (by decide) (by decide) (by decide) (by decide) (by decide) (by decide)), (zl_B5 (zl_Bu (zl_B5 (zl_Bu hB (by decide)) (Or.inr rfl)) (by decide)) (by split; exact Or.inr rfl; exact hB i 0 (3 + c))), (by unfold zl_kept; simp (discharger := decide) only [zs_ut, zs_wx, zl_uT, zl_u0, zs_wother, zl_mp]; exact hkept), (by unfold zl_kp; simp (discharger := decide) only [zs_ut, zs_wx, zl_uT, zl_u0, zs_wother, zl_mp]; exact hkp), ?_, ?_, ?_, ?_, ?_, (by unfold zl_pk; simp (discharger := decide) only [zs_ut, zs_wx, zl_uT, zl_u0, zs_wother, zl_mp]; exact hpk), (by unfold zl_1; simp (discharger := decide) only [zs_ut, zs_wx, zl_uT, zl_u0, zs_wother, zl_mp]; exact h1), (by unfold zl_9; simp (discharger := decide) only [zs_ut, zs_wx, zl_uT, zl_u0, zs_wother, zl_mp]; exact h9), (by unfold zl_12; simp (discharger := decide) only [zs_ut, zs_wx, zl_uT, zl_u0, zs_wother, zl_mp]; exact h12), ?_, ?_, (by unfold zl_K3; simp (discharger := decide) only [zs_wx]; exact k3), (by unfold zl_K4; simp (discharger := decide) only [zs_wx]; exact k4), (by unfold zl_N; simp (discharger := decide) only [zs_wx]; exact kN)⟩
  · intro i' c' a b
    simp (discharger := omega) only [zs_ut, zs_uk, zs_wx, zl_mp]
    by_cases e : i' = i ∧ c' = c
    · obtain ⟨rfl, rfl⟩ := e
      simp (discharger := omega) only [zs_ut, zs_uk, zs_us, zs_ws]
      refine ⟨trivial, ?_⟩
      rcases hz with rfl | rfl
      · decide
      · decide
    · have g : ∀ (Z : zs_S) (t : Nat) (v : Int32), zs_u Z t i 0 (c) v t i' 0 (c') = Z t i' 0 (c') := fun Z t v => zs_un (fun q => e (by omega))
      simp (discharger := omega) only [zs_ut, zs_uk, g]
      rw [zs_wk (fun q => e (by omega)), zs_wk (fun q => e (by omega))]
      exact he i' c' a b
  · intro i' c' a b
    simp (discharger := omega) only [zs_ut, zs_uk, zs_wx, zl_mp]
    by_cases e : i' = i ∧ c' = c
    · obtain ⟨rfl, rfl⟩ := e
      simp (discharger := omega) only [zs_ut, zs_uk, zs_us, zs_ws]
      have w := hn i' c' a b
      rcases ho with rfl | rfl
      · rw [if_neg (show ¬ nI 0 = nI 1 by decide), if_neg (show ¬ nI 0 = nI 1 by decide), w.1, w.2, h80 rfl, if_pos rfl, if_pos (show nI 0 = 0 from rfl)]
        exact ⟨rfl, rfl⟩
      · rw [if_pos rfl, if_pos rfl, if_neg (show ¬ nI 1 = 0 by decide), h10]
        exact ⟨rfl, rfl⟩
    · have g : ∀ (Z : zs_S) (t : Nat) (v : Int32), zs_u Z t i 0 (3 + c) v t i' 0 (3 + c') = Z t i' 0 (3 + c') := fun Z t v => zs_un (fun q => e (by omega))
      simp (discharger := omega) only [zs_ut, zs_uk, g]
      rw [zs_wk (fun q => e (by omega))]
      exact hn i' c' a b
  · intro i' c' j' a b d
    simp (discharger := omega) only [zs_ut, zs_uk, zs_wx, zl_mp]
    exact hp i' c' j' a b d
  · intro i' c' j' a b d
    simp (discharger := omega) only [zs_ut, zs_uk, zs_wx, zl_mp]
    have w := hr i' c' j' a b d
    by_cases e : i' = i ∧ c' = c
    · obtain ⟨rfl, rfl⟩ := e
      rw [w.1, w.2, h18 j' d, zs_ws]
      have z0 : zs_fl 0 = nI 0 := rfl
      rw [z0]
      exact ⟨by split <;> split <;> rfl, by split <;> split <;> rfl⟩
    · rw [zs_wk (fun q => e (by omega))]
      exact w
  · intro i' c' j' a b d
    simp (discharger := omega) only [zs_ut, zs_uk, zs_wx, zl_mp]
    exact ha i' c' j' a b d
  · intro e' he'
    simp (discharger := decide) only [zs_wx]
    have w := k1 e' he'
    by_cases e : e' = 3 * i + c
    · subst e
      rw [zs_ws, zs_ws]
      refine ⟨?_, ?_, fun q => absurd q ?_, w.2.2.2.1, fun _ => h10, fun _ => h10⟩
      · rcases hz with rfl | rfl
        · exact ⟨1, by decide, rfl⟩
        · exact ⟨2, by decide, rfl⟩
      · rcases ho with rfl | rfl
        · exact Or.inl rfl
        · exact Or.inr rfl
      · rcases hz with rfl | rfl
        · decide
        · decide
    · rw [zs_wk e, zs_wk e]
      exact w
  · intro i' c' j' a b d
    simp (discharger := decide) only [zs_wx]
    have w := k2 i' c' j' a b d
    by_cases e : i' = i ∧ c' = c
    · obtain ⟨rfl, rfl⟩ := e
      exact ⟨w.1, fun _ => h18 j' d⟩
    · rw [zs_wk (fun q => e (by omega))]
      exact w
theorem zl_learn {N : Nat} {S : zs_S} {T : zs_T} {i q : Nat} (h : zl_R N S T) (hi : i < 2) (hq : q ≤ 512) : zl_R N (zs_ln S i q) (zs_mw T i q) := by
  obtain ⟨hJ, hB, hkept, hkp, he, hn, hp, hr, ha, hpk, h1, h9, h12, k1, k2, k3, k4, kN⟩ := h
  unfold zs_ln zs_mw
  refine ⟨(zs_Ju (zs_Ju hJ (by decide) (by decide) (by decide) (by decide) (by decide) (by decide) (by decide) (by decide)) (by decide) (by decide) (by decide) (by decide) (by decide) (by decide) (by decide) (by decide)), (fun i' j' k' => by simp (discharger := decide) only [zs_ut]; exact hB i' j' k'), (by unfold zl_kept; simp (discharger := decide) only [zs_ut, zs_wx, zl_uT, zl_u0, zs_wother, zl_mp]; exact hkept), (by unfold zl_kp; simp (discharger := decide) only [zs_ut, zs_wx, zl_uT, zl_u0, zs_wother, zl_mp]; exact hkp), (by unfold zl_e; simp (discharger := decide) only [zs_ut, zs_wx, zl_uT, zl_u0, zs_wother, zl_mp]; exact he), (by unfold zl_n; simp (discharger := decide) only [zs_ut, zs_wx, zl_uT, zl_u0, zs_wother, zl_mp]; exact hn), (by unfold zl_p; simp (discharger := decide) only [zs_ut, zs_wx, zl_uT, zl_u0, zs_wother, zl_mp]; exact hp), (by unfold zl_r; simp (discharger := decide) only [zs_ut, zs_wx, zl_uT, zl_u0, zs_wother, zl_mp]; exact hr), (by unfold zl_a; simp (discharger := decide) only [zs_ut, zs_wx, zl_uT, zl_u0, zs_wother, zl_mp]; exact ha), (by unfold zl_pk; simp (discharger := decide) only [zs_ut, zs_wx, zl_uT, zl_u0, zs_wother, zl_mp]; exact hpk), ?_, ?_, (by unfold zl_12; simp (discharger := decide) only [zs_ut, zs_wx, zl_uT, zl_u0, zs_wother, zl_mp]; exact h12), (by unfold zl_K1; simp (discharger := decide) only [zs_wx]; exact k1), (by unfold zl_K2; simp (discharger := decide) only [zs_wx]; exact k2), (by unfold zl_K3; simp (discharger := decide) only [zs_wx]; exact k3), (by unfold zl_K4; simp (discharger := decide) only [zs_wx]; exact k4), (by unfold zl_N; simp (discharger := decide) only [zs_wx]; exact kN)⟩
  · refine ⟨by simp (discharger := decide) only [zs_ut, zs_wx]; exact h1.1, fun i' a => ?_, by simp (discharger := decide) only [zs_ut, zs_wx]; exact h1.2.2.1, by simp (discharger := decide) only [zs_ut, zs_wx]; exact h1.2.2.2⟩
    have z := h1.2.1 i' a
    simp (discharger := decide) only [zs_ut, zs_wx]
    refine ⟨z.1, ?_, z.2.2⟩
    by_cases e : i' = i
    · subst e
      rw [zs_us, zs_ws, z.2.1]
      by_cases w : T 3 i' < nI q
      · rw [if_pos w, if_neg (fun w2 => zn_ltle w w2)]
      · rw [if_neg w]
        by_cases w2 : nI q ≤ T 3 i'
        · rw [if_pos w2]
        · exact absurd (zn_nlelt w2) w
    · rw [zs_un (fun w => e w.2.1), zs_wk e]
      exact z.2.1
  · refine ⟨fun i' q' a b => ?_, fun i' q' a b c => ?_⟩
    · rw [zs_ut (by decide), zs_wx (by decide)]
      by_cases e : i' = i ∧ q' = q
      · obtain ⟨rfl, rfl⟩ := e
        rw [zs_us, zs_ws]
      · rw [zs_un (fun w => e ⟨w.2.1, w.2.2.2⟩), zs_wk (fun w => e (by omega))]
        exact h9.1 i' q' a b
    · rw [zs_wx (by decide), zs_wk (by omega)]
      exact h9.2 i' q' a b c
theorem zl_Jpk {T : zs_T} {e q n k w : Nat} {a l b : Int32} (hJ : zs_J T) (hn : n < 12) (hk : k < 6) (hw : w < 16) (hb : b = nI (zs_n b) ∧ zs_n b ≤ 6) : zs_J (zs_w (zs_w (zs_w (zs_w (zs_w (zs_w T 9 e (nI (n + 1))) 12 q (nI k)) 13 q a) 14 q (nI w)) 15 q l) 16 q b) := by
  refine ⟨?_, ?_, ?_, ?_, ?_, ?_⟩
  · simp (discharger := decide) only [zs_wx]
    exact hJ.1
  · simp (discharger := decide) only [zs_wx]
    exact hJ.2.1
  · intro e' he'
    simp (discharger := decide) only [zs_wx]
    by_cases z : e' = e
    · subst z
      rw [zs_ws, show zs_n (nI (n + 1)) = n + 1 from nI_clamp (by omega)]
      exact ⟨rfl, by omega⟩
    · rw [zs_wk z]
      exact hJ.2.2.1 e' he'
  · intro q' hq'
    have y := hJ.2.2.2.1 q' hq'
    unfold zs_MP at y ⊢
    simp (discharger := decide) only [zs_wx]
    by_cases z : q' = q
    · subst z
      rw [zs_ws, zs_ws, zs_ws, show zs_n (nI k) = k from nI_clamp (by omega), show zs_n (nI w) = w from nI_clamp (by omega)]
      exact ⟨⟨rfl, hk⟩, ⟨rfl, hw⟩, hb⟩
    · simp (discharger := first | decide | assumption) only [zs_wx, zs_wk]
      exact y
  · simp (discharger := decide) only [zs_wx]
    exact hJ.2.2.2.2.1
  · simp (discharger := decide) only [zs_wx]
    exact hJ.2.2.2.2.2
theorem zl_packet {N : Nat} {S : zs_S} {T : zs_T} {i c n k w : Nat} {a l b pr : Int32} (h : zl_R N S T) (hi : i < 2) (hc : c < 3) (hnn : zs_n (T 9 (3 * i + c)) = n) (hn12 : n < 12) (hk : k < 6) (hkv : k ≤ zs_n (T 21 i)) (hw : w < 16) (hb : b = nI (zs_n b) ∧ zs_n b ≤ 6) (haa : ∃ x, 1 ≤ x ∧ x ≤ 1000 ∧ a = nI x) (hpr : pr = zs_mix (zs_mix (zs_mix (zs_mix (zs_mix (nI 3) (nI k)) a) (nI w)) l) b) : zl_R N (zs_u (zs_u (zs_u (zs_u (zs_u (zs_u (zs_u (zs_u (zs_u S 20 i (12 * c + n) 0 (nI k)) 20 i (12 * c + n) 1 a) 20 i (12 * c + n) 2 (nI (w / 4))) 20 i (12 * c + n) 3 (nI (w % 4))) 20 i (12 * c + n) 4 l) 20 i (12 * c + n) 5 b) 18 i c 0 (nI (n + 1))) 4 i 0 (6 + 12 * c + n) pr) 5 i 0 (6 + 12 * c + n) (nI 1)) (zs_w (zs_w (zs_w (zs_w (zs_w (zs_w T 9 (3 * i + c) (nI (n + 1))) 12 (13 * (3 * i + c) + (n + 1)) (nI k)) 13 (13 * (3 * i + c) + (n + 1)) a) 14 (13 * (3 * i + c) + (n + 1)) (nI w)) 15 (13 * (3 * i + c) + (n + 1)) l) 16 (13 * (3 * i + c) + (n + 1)) b) := by
  obtain ⟨hJ, hB, hkept, hkp, he, hn, hp, hr, ha, hpk, h1, h9, h12, k1, k2, k3, k4, kN⟩ := h
  refine ⟨(zl_Jpk hJ hn12 hk hw hb), (zl_B5 (zl_Bu (zl_Bu (zl_Bu (zl_Bu (zl_Bu (zl_Bu (zl_Bu (zl_Bu hB (by decide)) (by decide)) (by decide)) (by decide)) (by decide)) (by decide)) (by decide)) (by decide)) (Or.inr rfl)), (by unfold zl_kept; simp (discharger := decide) only [zs_ut, zs_wx, zl_uT, zl_u0, zs_wother, zl_mp]; exact hkept), ?_, ?_, ?_, ?_, ?_, ?_, ?_, ?_, (by unfold zl_9; simp (discharger := decide) only [zs_ut, zs_wx, zl_uT, zl_u0, zs_wother, zl_mp]; exact h9), (by unfold zl_12; simp (discharger := decide) only [zs_ut, zs_wx, zl_uT, zl_u0, zs_wother, zl_mp]; exact h12), (by unfold zl_K1; simp (discharger := decide) only [zs_wx]; exact k1), (by unfold zl_K2; simp (discharger := decide) only [zs_wx]; exact k2), ?_, (by unfold zl_K4; simp (discharger := decide) only [zs_wx]; exact k4), (by unfold zl_N; simp (discharger := decide) only [zs_wx]; exact kN)⟩
  · intro i' a' c' j' x1 x2 x3 x4 x5
    simp (discharger := decide) only [zl_uT, zl_u0, zs_wx] at x5 ⊢
    have z := hkp i' a' c' j' x1 x2 x3 x4 x5
    by_cases e : i' = i ∧ c' = c
    · obtain ⟨rfl, rfl⟩ := e
      rw [zs_ws, show zs_n (nI (n + 1)) = n + 1 from nI_clamp (by omega)]
      have z1 := z.1
      refine ⟨by omega, ?_⟩
      rw [zl_mpk (by omega), zl_mpk (by omega), zl_mpk (by omega), zl_mpk (by omega), zl_mpk (by omega), zl_mp (by decide) (by decide) (by decide) (by decide), zs_wk (by omega)]
      exact z.2
    · rw [zs_wk (fun q => e (by omega)), zl_mpk (fun q => e (by omega)), zl_mpk (fun q => e (by omega)), zl_mpk (fun q => e (by omega)), zl_mpk (fun q => e (by omega)), zl_mpk (fun q => e (by omega)), zl_mp (by decide) (by decide) (by decide) (by decide), zs_wk (fun q => e (by omega))]
      exact z
  · intro i' c' a' b'
    simp (discharger := omega) only [zs_ut, zs_uk, zs_wx, zl_mp]
    exact he i' c' a' b'
  · intro i' c' a' b'
    simp (discharger := omega) only [zs_ut, zs_uk, zs_wx, zl_mp]
    exact hn i' c' a' b'
  · intro i' c' j' x1 x2 x3
    simp (discharger := decide) only [zs_ut, zs_wx]
    have z := hp i' c' j' x1 x2 x3
    by_cases e : i' = i ∧ c' = c ∧ j' = n
    · obtain ⟨rfl, rfl, rfl⟩ := e
      have h17 := (k3 i' c' j' x1 x2 x3).2.2 (by omega)
      simp (discharger := omega) only [zs_ut, zs_us, zs_ws]
      rw [show zs_n (nI (j' + 1)) = j' + 1 from nI_clamp (by omega), if_pos ⟨by omega, h17⟩, if_pos ⟨by omega, h17⟩, hpr]
      refine ⟨?_, rfl⟩
      unfold zs_mp
      simp (discharger := decide) only [zs_wx]
      rw [zs_ws, zs_ws, zs_ws, zs_ws]
    · have g : ∀ (Z : zs_S) (t : Nat) (v : Int32), zs_u Z t i 0 (6 + 12 * c + n) v t i' 0 (6 + 12 * c' + j') = Z t i' 0 (6 + 12 * c' + j') := fun Z t v => zs_un (fun q => e (by omega))
      simp (discharger := omega) only [zs_ut, g]
      rw [zl_mpk (fun q => e (by omega)), zl_mpk (fun q => e (by omega)), zl_mpk (fun q => e (by omega)), zl_mpk (fun q => e (by omega)), zl_mpk (fun q => e (by omega)), zl_mp (by decide) (by decide) (by decide) (by decide), zs_wk (k := 13 * (3 * i + c) + (n + 1)) (fun q => e (by omega))]
      by_cases f : i' = i ∧ c' = c
      · obtain ⟨rfl, rfl⟩ := f
        have hj : (j' < zs_n (nI (n + 1)) ∧ T 17 (13 * (3 * i' + c') + (j' + 1)) = 0) ↔ (j' < zs_n (T 9 (3 * i' + c')) ∧ T 17 (13 * (3 * i' + c') + (j' + 1)) = 0) := by
          rw [hnn, show zs_n (nI (n + 1)) = n + 1 from nI_clamp (by omega)]
          constructor
          · rintro ⟨q1, q2⟩
            exact ⟨by omega, q2⟩
          · rintro ⟨q1, q2⟩
            exact ⟨by omega, q2⟩
        rw [zs_ws]
        simp only [hj]
        exact z
      · rw [zs_wk (fun q => f (by omega))]
        exact z
  · intro i' c' j' a' b' d'
    simp (discharger := omega) only [zs_ut, zs_uk, zs_wx, zl_mp]
    exact hr i' c' j' a' b' d'
  · intro i' c' j' a' b' d'
    simp (discharger := omega) only [zs_ut, zs_uk, zs_wx, zl_mp]
    exact ha i' c' j' a' b' d'
  · intro i' c' j' x1 x2 x3
    simp (discharger := decide) only [zs_ut, zs_wx]
    have z := hpk i' c' j' x1 x2 x3
    by_cases e : i' = i ∧ c' = c ∧ j' = n
    · obtain ⟨rfl, rfl, rfl⟩ := e
      simp (discharger := decide) only [zs_uk, zs_us, zs_ws]
      rw [show zs_n (nI w) = w from nI_clamp (by omega)]
      exact ⟨trivial, trivial, rfl, rfl, trivial, trivial, z.2.2.2.2.2.2⟩
    · have g : ∀ y v k', ∀ Z : zs_S, zs_u Z 20 i (12 * c + n) y v 20 i' (12 * c' + j') k' = Z 20 i' (12 * c' + j') k' := fun y v k' Z => zs_un (fun q => e (by omega))
      simp only [g]
      have g2 : ∀ x v, ∀ Z : zs_T, zs_w Z x (13 * (3 * i + c) + (n + 1)) v x (13 * (3 * i' + c') + (j' + 1)) = Z x (13 * (3 * i' + c') + (j' + 1)) := fun x v Z => zs_wk (fun q => e (by omega))
      simp (discharger := decide) only [g2, zs_wx]
      exact z
  · refine ⟨by simp (discharger := decide) only [zs_ut, zs_wx]; exact h1.1, by simp (discharger := decide) only [zs_ut, zs_wx]; exact h1.2.1, fun i' c' a' b' => ?_, by simp (discharger := decide) only [zs_ut, zs_wx]; exact h1.2.2.2⟩
    have z := h1.2.2.1 i' c' a' b'
    simp (discharger := decide) only [zs_ut, zs_uk, zs_wx]
    refine ⟨?_, z.2⟩
    by_cases e : i' = i ∧ c' = c
    · obtain ⟨rfl, rfl⟩ := e
      rw [zs_us, zs_ws]
    · rw [zs_un (fun q => e ⟨q.2.1, q.2.2.1⟩), zs_wk (fun q => e (by omega))]
      exact z.1
  · intro i' c' j' x1 x2 x3
    simp (discharger := decide) only [zs_wx]
    have z := k3 i' c' j' x1 x2 x3
    by_cases e : i' = i ∧ c' = c ∧ j' = n
    · obtain ⟨rfl, rfl, rfl⟩ := e
      rw [zs_ws, zs_ws, zs_ws, show zs_n (nI k) = k from nI_clamp (by omega), show zs_n (nI (j' + 1)) = j' + 1 from nI_clamp (by omega)]
      exact ⟨hkv, fun _ => haa, fun q => absurd q (by omega)⟩
    · have g2 : ∀ x v, ∀ Z : zs_T, zs_w Z x (13 * (3 * i + c) + (n + 1)) v x (13 * (3 * i' + c') + (j' + 1)) = Z x (13 * (3 * i' + c') + (j' + 1)) := fun x v Z => zs_wk (fun q => e (by omega))
      simp (discharger := decide) only [g2, zs_wx]
      by_cases f : i' = i ∧ c' = c
      · obtain ⟨rfl, rfl⟩ := f
        rw [zs_ws, show zs_n (nI (n + 1)) = n + 1 from nI_clamp (by omega)]
        exact ⟨z.1, fun q => z.2.1 (by omega), fun q => z.2.2 (by omega)⟩
      · rw [zs_wk (fun q => f (by omega))]
        exact z
theorem zl_same {N : Nat} {S S' : zs_S} {T T' : zs_T} (h : zl_R N S T) (hS : ∀ t, t ≠ 7 → S' t = S t) (hT : ∀ x, x < 24 → T' x = T x) : zl_R N S' T' := by
  unfold zl_R zs_J zs_B zl_kept zl_kp zl_e zl_n zl_p zl_r zl_a zl_pk zl_1 zl_9 zl_12 zl_K1 zl_K2 zl_K3 zl_K4 zl_N zs_mp zs_MP at h ⊢
  simp (discharger := decide) only [hS, hT] at h ⊢
  exact h
