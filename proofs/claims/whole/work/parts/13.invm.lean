/-! what the reference's states keep -/
def zs_J (T : zs_T) : Prop := (∀ q, T 4 q = nI (zs_n (T 4 q)) ∧ zs_n (T 4 q) ≤ 128) ∧ (∀ i, i < 2 → T 21 i = nI (zs_n (T 21 i)) ∧ zs_n (T 21 i) ≤ 5) ∧ (∀ e, e < 6 → T 9 e = nI (zs_n (T 9 e)) ∧ zs_n (T 9 e) ≤ 12) ∧ (∀ q, q < 78 → zs_MP T q) ∧ (∀ i, i < 2 → T 1 i = nI (zs_n (T 1 i)) ∧ zs_n (T 1 i) ≤ 512) ∧ (∀ k, k < 12 → T 22 k = nI (zs_n (T 22 k)) ∧ zs_n (T 22 k) < 6)
theorem zs_JZ {T : zs_T} (h : zs_J T) : ∀ q, T 4 q = nI (zs_n (T 4 q)) ∧ zs_n (T 4 q) ≤ 128 := h.1
theorem zs_JV {T : zs_T} (h : zs_J T) {i : Nat} (hi : i < 2) : T 21 i = nI (zs_n (T 21 i)) ∧ zs_n (T 21 i) ≤ 5 := h.2.1 i hi
theorem zs_JS {T : zs_T} (h : zs_J T) {e : Nat} (he : e < 6) : T 9 e = nI (zs_n (T 9 e)) ∧ zs_n (T 9 e) ≤ 12 := h.2.2.1 e he
theorem zs_JM {T : zs_T} (h : zs_J T) {q : Nat} (hq : q < 78) : zs_MP T q := h.2.2.2.1 q hq
theorem zs_JH {T : zs_T} (h : zs_J T) {i : Nat} (hi : i < 2) : T 1 i = nI (zs_n (T 1 i)) ∧ zs_n (T 1 i) ≤ 512 := h.2.2.2.2.1 i hi
theorem zs_JK {T : zs_T} (h : zs_J T) {k : Nat} (hk : k < 12) : T 22 k = nI (zs_n (T 22 k)) ∧ zs_n (T 22 k) < 6 := h.2.2.2.2.2 k hk
/-- a write to an array of no concern -/
theorem zs_Ju {T : zs_T} {x k : Nat} {v : Int32} (h : zs_J T) (h4 : x ≠ 4) (h21 : x ≠ 21) (h9 : x ≠ 9) (h12 : x ≠ 12) (h14 : x ≠ 14) (h16 : x ≠ 16) (h1 : x ≠ 1) (h22 : x ≠ 22) : zs_J (zs_w T x k v) := by
  refine ⟨fun q => ?_, fun i hi => ?_, fun e he => ?_, fun q hq => ?_, fun i hi => ?_, fun z hz => ?_⟩
  · rw [zs_wx (Ne.symm h4)]
    exact zs_JZ h q
  · rw [zs_wx (Ne.symm h21)]
    exact zs_JV h hi
  · rw [zs_wx (Ne.symm h9)]
    exact zs_JS h he
  · unfold zs_MP
    rw [zs_wx (Ne.symm h12), zs_wx (Ne.symm h14), zs_wx (Ne.symm h16)]
    exact zs_JM h hq
  · rw [zs_wx (Ne.symm h1)]
    exact zs_JH h hi
  · rw [zs_wx (Ne.symm h22)]
    exact zs_JK h hz
theorem zs_J21 {T : zs_T} {i n : Nat} (h : zs_J T) (hn : n ≤ 5) : zs_J (zs_w T 21 i (nI n)) := by
  refine ⟨fun q => ?_, fun a ha => ?_, fun e he => ?_, fun q hq => ?_, fun i hi => ?_, fun z hz => ?_⟩
  · rw [zs_wx (by decide)]
    exact zs_JZ h q
  · by_cases e : a = i
    · subst e
      rw [zs_ws, show zs_n (nI n) = n from nI_clamp (by omega)]
      exact ⟨rfl, hn⟩
    · rw [zs_wk e]
      exact zs_JV h ha
  · rw [zs_wx (by decide)]
    exact zs_JS h he
  · unfold zs_MP
    rw [zs_wx (by decide), zs_wx (by decide), zs_wx (by decide)]
    exact zs_JM h hq
  · rw [zs_wx (by decide)]
    exact zs_JH h hi
  · rw [zs_wx (by decide)]
    exact zs_JK h hz
theorem zs_J22 {T : zs_T} {k : Nat} {v : Int32} (h : zs_J T) (hv : v = nI (zs_n v) ∧ zs_n v < 6) : zs_J (zs_w T 22 k v) := by
  refine ⟨fun q => ?_, fun a ha => ?_, fun e he => ?_, fun q hq => ?_, fun i hi => ?_, fun z hz => ?_⟩
  · rw [zs_wx (by decide)]
    exact zs_JZ h q
  · rw [zs_wx (by decide)]
    exact zs_JV h ha
  · rw [zs_wx (by decide)]
    exact zs_JS h he
  · unfold zs_MP
    rw [zs_wx (by decide), zs_wx (by decide), zs_wx (by decide)]
    exact zs_JM h hq
  · rw [zs_wx (by decide)]
    exact zs_JH h hi
  · by_cases e : z = k
    · subst e
      rw [zs_ws]
      exact hv
    · rw [zs_wk e]
      exact zs_JK h hz
theorem zs_Jtk {T : zs_T} {i c q u bk n : Nat} {a : Int32} (h : zs_J T) (hq : q < 78) (hn : n ≤ 5) : zs_J (zu_Mo_takes T i c q a u bk n) := by
  have hk := (zs_JM h hq).1
  unfold zu_Mo_takes
  repeat (first | with_reducible assumption | decide | omega | (with_reducible refine zs_J22 ?_ hk) | (with_reducible refine zs_J21 ?_ ?_) | (with_reducible refine zs_Ju ?_ ?_ ?_ ?_ ?_ ?_ ?_ ?_ ?_) | split)
theorem zs_JrP {T : zs_T} {i c j : Nat} {h w : Int32} (hi : i < 2) (hc : c < 3) (hj : j < 12) (hJ : zs_J T) : zs_J (zu_Mo_receive T i c j h w) := by
  have hn := (zs_JV hJ hi).2
  have hq : 13 * (3 * (1 - i) + c) + (j + 1) < 78 := by omega
  unfold zu_Mo_receive
  repeat (first | with_reducible assumption | decide | omega | with_reducible exact zs_Jtk hJ hq hn | (with_reducible refine zs_Ju ?_ ?_ ?_ ?_ ?_ ?_ ?_ ?_ ?_) | split)
theorem zs_JrA {T : zs_T} {i c j : Nat} {h : Int32} (hi : i < 2) (hc : c < 3) (hj : j < 12) (hJ : zs_J T) : zs_J (zu_Mo_acknowledge T i c j h) := by
  unfold zu_Mo_acknowledge
  repeat (first | with_reducible assumption | decide | omega | (with_reducible refine zs_Ju ?_ ?_ ?_ ?_ ?_ ?_ ?_ ?_ ?_) | split)
theorem zs_JrT {T : zs_T} {i c j : Nat} {h w : Int32} (hi : i < 2) (hc : c < 3) (hj : j < 12) (hJ : zs_J T) : zs_J (zu_Mo_timeout T i c j h w) := by
  unfold zu_Mo_timeout
  repeat (first | with_reducible assumption | decide | omega | (with_reducible refine zs_Ju ?_ ?_ ?_ ?_ ?_ ?_ ?_ ?_ ?_) | split)
theorem zs_ifT {c : Prop} [Decidable c] {A B : zs_T} {x k : Nat} {v : Int32} (ha : A x k = v) (hb : B x k = v) : (if c then A else B) x k = v := by
  by_cases h : c
  · rw [if_pos h]; exact ha
  · rw [if_neg h]; exact hb
theorem zs_9tk {T : zs_T} {i c q u bk n k : Nat} {a : Int32} : zu_Mo_takes T i c q a u bk n 9 k = T 9 k := by
  unfold zu_Mo_takes
  repeat (first | with_reducible rfl | (with_reducible refine Eq.trans (zs_wx ?_) ?_) | decide | (with_reducible refine zs_ifT ?_ ?_))
theorem zs_9P {T : zs_T} {i c j k : Nat} {h w : Int32} : zu_Mo_receive T i c j h w 9 k = T 9 k := by
  unfold zu_Mo_receive
  repeat (first | with_reducible rfl | (with_reducible refine Eq.trans (zs_wx ?_) ?_) | decide | with_reducible exact zs_9tk | (with_reducible refine zs_ifT ?_ ?_))
theorem zs_9A {T : zs_T} {i c j k : Nat} {h : Int32} : zu_Mo_acknowledge T i c j h 9 k = T 9 k := by
  unfold zu_Mo_acknowledge
  repeat (first | with_reducible rfl | (with_reducible refine Eq.trans (zs_wx ?_) ?_) | decide | (with_reducible refine zs_ifT ?_ ?_))
theorem zs_9T {T : zs_T} {i c j k : Nat} {h w : Int32} : zu_Mo_timeout T i c j h w 9 k = T 9 k := by
  unfold zu_Mo_timeout
  repeat (first | with_reducible rfl | (with_reducible refine Eq.trans (zs_wx ?_) ?_) | decide | (with_reducible refine zs_ifT ?_ ?_))
