/-! what the class's states keep: the numbers that are places -/
def zs_I (S : zs_S) : Prop := zs_B S ∧ (∀ i, i < 2 → S 10 i 0 0 = nI (zs_n (S 10 i 0 0)) ∧ zs_n (S 10 i 0 0) ≤ 5) ∧ (∀ i c, i < 2 → c < 3 → S 18 i c 0 = nI (zs_n (S 18 i c 0)) ∧ zs_n (S 18 i c 0) ≤ 12) ∧ (∀ i j, i < 2 → j < 36 → zs_PK S i j) ∧ (∀ i, i < 2 → S 2 i 0 0 = nI (zs_n (S 2 i 0 0)) ∧ zs_n (S 2 i 0 0) ≤ 512) ∧ (∀ i k, i < 2 → k < 6 → S 15 i 0 k = nI (zs_n (S 15 i 0 k)) ∧ zs_n (S 15 i 0 k) < 6)
theorem zs_IB {S : zs_S} (h : zs_I S) : zs_B S := h.1
theorem zs_IV {S : zs_S} (h : zs_I S) {i : Nat} (hi : i < 2) : S 10 i 0 0 = nI (zs_n (S 10 i 0 0)) ∧ zs_n (S 10 i 0 0) ≤ 5 := h.2.1 i hi
theorem zs_IS {S : zs_S} (h : zs_I S) {i c : Nat} (hi : i < 2) (hc : c < 3) : S 18 i c 0 = nI (zs_n (S 18 i c 0)) ∧ zs_n (S 18 i c 0) ≤ 12 := h.2.2.1 i c hi hc
theorem zs_IP {S : zs_S} (h : zs_I S) {i j : Nat} (hi : i < 2) (hj : j < 36) : zs_PK S i j := h.2.2.2.1 i j hi hj
theorem zs_IH {S : zs_S} (h : zs_I S) {i : Nat} (hi : i < 2) : S 2 i 0 0 = nI (zs_n (S 2 i 0 0)) ∧ zs_n (S 2 i 0 0) ≤ 512 := h.2.2.2.2.1 i hi
theorem zs_IK {S : zs_S} (h : zs_I S) {i k : Nat} (hi : i < 2) (hk : k < 6) : S 15 i 0 k = nI (zs_n (S 15 i 0 k)) ∧ zs_n (S 15 i 0 k) < 6 := h.2.2.2.2.2 i k hi hk
theorem zs_Ic {S S' : zs_S} (h : zs_I S) (e5 : ∀ i j k, S' 5 i j k = 0 ∨ S' 5 i j k = 1) (e10 : ∀ i, i < 2 → S' 10 i 0 0 = nI (zs_n (S' 10 i 0 0)) ∧ zs_n (S' 10 i 0 0) ≤ 5) (e18 : ∀ i c, S' 18 i c 0 = S 18 i c 0) (e20 : ∀ i j k, k ≠ 6 → S' 20 i j k = S 20 i j k) (e2 : ∀ i, S' 2 i 0 0 = S 2 i 0 0) (e15 : ∀ i k, i < 2 → k < 6 → S' 15 i 0 k = nI (zs_n (S' 15 i 0 k)) ∧ zs_n (S' 15 i 0 k) < 6) : zs_I S' := by
  refine ⟨e5, e10, fun i c hi hc => ?_, fun i j hi hj => ?_, fun i hi => ?_, e15⟩
  · rw [e18]
    exact zs_IS h hi hc
  · unfold zs_PK
    rw [e20 i j 0 (by decide), e20 i j 2 (by decide), e20 i j 3 (by decide), e20 i j 5 (by decide)]
    exact zs_IP h hi hj
  · rw [e2]
    exact zs_IH h hi
/-- a write to a cell of no concern -/
theorem zs_Iu {S : zs_S} {t i j k : Nat} {v : Int32} (h : zs_I S) (h5 : t ≠ 5) (h10 : t ≠ 10) (h18 : t ≠ 18) (h20 : t ≠ 20) (h2 : t ≠ 2) (h15 : t ≠ 15) : zs_I (zs_u S t i j k v) := by
  refine zs_Ic h (fun a b c => ?_) (fun a ha => ?_) (fun a b => zs_ut (Ne.symm h18)) (fun a b c _ => zs_ut (Ne.symm h20)) (fun a => zs_ut (Ne.symm h2)) (fun a c ha hc => ?_)
  · rw [zs_ut (Ne.symm h5)]
    exact zs_IB h a b c
  · rw [zs_ut (Ne.symm h10)]
    exact zs_IV h ha
  · rw [zs_ut (Ne.symm h15)]
    exact zs_IK h ha hc
theorem zs_I5 {S : zs_S} {i j k : Nat} {v : Int32} (h : zs_I S) (hv : v = 0 ∨ v = 1) : zs_I (zs_u S 5 i j k v) := by
  refine zs_Ic h (fun a b c => ?_) (fun a ha => ?_) (fun a b => zs_ut (by decide)) (fun a b c _ => zs_ut (by decide)) (fun a => zs_ut (by decide)) (fun a c ha hc => ?_)
  · unfold zs_u
    split
    · exact hv
    · exact zs_IB h a b c
  · rw [zs_ut (by decide)]
    exact zs_IV h ha
  · rw [zs_ut (by decide)]
    exact zs_IK h ha hc
theorem zs_I6 {S : zs_S} {i j : Nat} {v : Int32} (h : zs_I S) : zs_I (zs_u S 20 i j 6 v) := by
  refine zs_Ic h (fun a b c => ?_) (fun a ha => ?_) (fun a b => zs_ut (by decide)) (fun a b c hc => zs_uk hc) (fun a => zs_ut (by decide)) (fun a c ha hc => ?_)
  · rw [zs_ut (by decide)]
    exact zs_IB h a b c
  · rw [zs_ut (by decide)]
    exact zs_IV h ha
  · rw [zs_ut (by decide)]
    exact zs_IK h ha hc
theorem zs_I1 {S : zs_S} {i j : Nat} {v : Int32} (h : zs_I S) : zs_I (zs_u S 18 i j 1 v) := by
  refine zs_Ic h (fun a b c => ?_) (fun a ha => ?_) (fun a b => zs_uk (by decide)) (fun a b c hc => zs_ut (by decide)) (fun a => zs_ut (by decide)) (fun a c ha hc => ?_)
  · rw [zs_ut (by decide)]
    exact zs_IB h a b c
  · rw [zs_ut (by decide)]
    exact zs_IV h ha
  · rw [zs_ut (by decide)]
    exact zs_IK h ha hc
theorem zs_I10 {S : zs_S} {i n : Nat} (h : zs_I S) (hn : n ≤ 5) : zs_I (zs_u S 10 i 0 0 (nI n)) := by
  refine zs_Ic h (fun a b c => ?_) (fun a ha => ?_) (fun a b => zs_ut (by decide)) (fun a b c hc => zs_ut (by decide)) (fun a => zs_ut (by decide)) (fun a c ha hc => ?_)
  · rw [zs_ut (by decide)]
    exact zs_IB h a b c
  · by_cases e : a = i
    · subst e
      rw [zs_us, show zs_n (nI n) = n from nI_clamp (by omega)]
      exact ⟨rfl, hn⟩
    · rw [zs_un (fun q => e q.2.1)]
      exact zs_IV h ha
  · rw [zs_ut (by decide)]
    exact zs_IK h ha hc
theorem zs_I15 {S : zs_S} {i k : Nat} {v : Int32} (h : zs_I S) (hv : v = nI (zs_n v) ∧ zs_n v < 6) : zs_I (zs_u S 15 i 0 k v) := by
  refine zs_Ic h (fun a b c => ?_) (fun a ha => ?_) (fun a b => zs_ut (by decide)) (fun a b c hc => zs_ut (by decide)) (fun a => zs_ut (by decide)) (fun a c ha hc => ?_)
  · rw [zs_ut (by decide)]
    exact zs_IB h a b c
  · rw [zs_ut (by decide)]
    exact zs_IV h ha
  · by_cases e : a = i ∧ c = k
    · obtain ⟨rfl, rfl⟩ := e
      rw [zs_us]
      exact hv
    · rw [zs_un (fun q => e ⟨q.2.1, q.2.2.2⟩)]
      exact zs_IK h ha hc
