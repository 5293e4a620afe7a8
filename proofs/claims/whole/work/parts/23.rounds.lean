/-! relays and rounds -/
theorem zl_scv {ks vs : Nat → Int32} {y f v : Int32} : ∀ (r k : Nat), zs_sc ks vs y f v k r = 0 ∨ zs_sc ks vs y f v k r < 0
  | 0, k => by
    rw [zs_sc0]
    split
    · exact Or.inr (by decide)
    · exact Or.inl rfl
  | r + 1, k => by
    rw [zs_scs]
    split
    · split
      · split
        · exact Or.inl rfl
        · exact Or.inr (by decide)
      · exact Or.inr (by decide)
    · exact zl_scv r (k + 1)
theorem zl_pfv {T : zs_T} {i : Nat} {h y f v : Int32} : zs_pf T i h y f v = 0 ∨ zs_pf T i h y f v < 0 := by
  unfold zs_pf
  split
  · split
    · exact zl_scv _ _
    · exact Or.inr (by decide)
  · exact Or.inr (by decide)
theorem zl_nrv {T : zs_T} {i c j : Nat} {h : Int32} : zr_Mo_notReceived T i c j h = 0 ∨ zr_Mo_notReceived T i c j h < 0 := by
  unfold zr_Mo_notReceived
  split
  · exact zl_pfv
  · split
    · exact zl_pfv
    · exact Or.inr (by decide)
theorem zl_sgn {P : Int32} (h : P = 0 ∨ P < 0) (h0 : ¬ P = 0) : P < 0 := h.elim (fun q => absurd q h0) id
theorem zl_Pne {T : zs_T} {i c j : Nat} {h w : Int32} : ¬ zr_Mo_receive T i c j h w = 0 := by
  unfold zr_Mo_receive
  repeat (first | assumption | decide | split)
theorem zl_Ane {T : zs_T} {i c j : Nat} {h : Int32} : ¬ zr_Mo_acknowledge T i c j h = 0 := by
  unfold zr_Mo_acknowledge
  repeat (first | assumption | decide | split)
theorem zl_Tsg {T : zs_T} {i c j : Nat} {h w : Int32} : zr_Mo_timeout T i c j h w = 0 ∨ zr_Mo_timeout T i c j h w < 0 := by
  unfold zr_Mo_timeout
  repeat (first | exact Or.inl rfl | exact Or.inr (by decide) | exact zl_nrv | exact zl_pfv | split)
theorem zl_le {P : Int32} (h : ¬ P = 0) : ¬ P ≤ 0 ↔ ¬ P < 0 := by
  have a := Int32.lt_iff_toInt_lt (x := P) (y := 0)
  have b := Int32.le_iff_toInt_le (x := P) (y := 0)
  have c : ¬ P.toInt = (0 : Int32).toInt := fun q => h (Int32.toInt_inj.mp q)
  rw [a, b]
  omega
theorem zl_nlt {P : Int32} (h : P = 0 ∨ P < 0) : P = 0 ↔ ¬ P < 0 := by
  constructor
  · intro q
    rw [q]
    decide
  · intro q
    exact h.elim id (fun z => absurd z q)
theorem zl_1tk {T : zs_T} {i c q u bk n k : Nat} {a : Int32} : zu_Mo_takes T i c q a u bk n 1 k = T 1 k := zl_tkx (by decide) (by decide) (by decide) (by decide) (by decide)
theorem zl_1P {T : zs_T} {i c j k : Nat} {h w : Int32} : zu_Mo_receive T i c j h w 1 k = T 1 k := by
  unfold zu_Mo_receive
  repeat (first | with_reducible rfl | (with_reducible refine Eq.trans (zs_wx ?_) ?_) | decide | with_reducible exact zl_1tk | (with_reducible refine zs_ifT ?_ ?_))
theorem zl_1A {T : zs_T} {i c j k : Nat} {h : Int32} : zu_Mo_acknowledge T i c j h 1 k = T 1 k := by
  unfold zu_Mo_acknowledge
  repeat (first | with_reducible rfl | (with_reducible refine Eq.trans (zs_wx ?_) ?_) | decide | (with_reducible refine zs_ifT ?_ ?_))
theorem zl_1T {T : zs_T} {i c j k : Nat} {h w : Int32} : zu_Mo_timeout T i c j h w 1 k = T 1 k := by
  unfold zu_Mo_timeout
  repeat (first | with_reducible rfl | (with_reducible refine Eq.trans (zs_wx ?_) ?_) | decide | (with_reducible refine zs_ifT ?_ ?_))
theorem zl_21 {N : Nat} {S : zs_S} {T : zs_T} (h : zl_R N S T) {i : Nat} (hi : i < 2) : S 2 i 0 0 = T 1 i := (h.2.2.2.2.2.2.2.2.2.2.1.2.1 i hi).1
theorem zl_189 {N : Nat} {S : zs_S} {T : zs_T} (h : zl_R N S T) {i c : Nat} (hi : i < 2) (hc : c < 3) : S 18 i c 0 = T 9 (3 * i + c) := (h.2.2.2.2.2.2.2.2.2.2.1.2.2.1 i c hi hc).1
theorem zl_rP {N i c : Nat} {x : Int32} (hi : i < 2) (hc : c < 3) : ∀ (r j v : Nat) (S : zs_S) (T : zs_T), zl_R N S T → j + r ≤ zs_n (T 9 (3 * (1 - i) + c)) → T 1 (1 - i) = x → zs_rPM i (1 - i) c S j v r = zs_mPM i c x T j v r ∧ zl_R N (zs_rPS i (1 - i) c S j r) (zs_mPS i c x T j r) ∧ (∀ k, zs_mPS i c x T j r 9 k = T 9 k) ∧ (∀ k, zs_mPS i c x T j r 1 k = T 1 k)
  | 0, j, v, S, T, h, _, _ => ⟨rfl, h, fun _ => rfl, fun _ => rfl⟩
  | r + 1, j, v, S, T, h, hj, hx => by
    have j12 := (zs_JS h.1 (e := 3 * (1 - i) + c) (by omega)).2
    have st := zl_receive (i := i) (c := c) (j := j) (x := x) (w := nI 0) h hi hc (by omega) (by omega) (Or.inl rfl)
    have e2 : S 2 (1 - i) 0 0 = x := (zl_21 h (by omega)).trans hx
    rw [zs_rPMs, zs_rPSs, zs_mPMs, zs_mPSs, e2, st.1]
    have n9 : ∀ k, zu_Mo_receive T i c j x (nI 0) 9 k = T 9 k := fun k => zs_9P
    have n1 : ∀ k, zu_Mo_receive T i c j x (nI 0) 1 k = T 1 k := fun k => zl_1P
    have ih := fun v' => zl_rP (x := x) hi hc r (j + 1) v' _ _ st.2 (by rw [n9]; omega) (by rw [n1]; exact hx)
    have q : (if ¬ zr_Mo_receive T i c j x (nI 0) ≤ 0 then v + 1 else v) = if zr_Mo_receive T i c j x (nI 0) < 0 then v else v + 1 := by
      rw [zl_iff (zl_le zl_Pne)]
      by_cases z : zr_Mo_receive T i c j x (nI 0) < 0
      · rw [if_pos z, if_neg (fun y => y z)]
      · rw [if_neg z, if_pos z]
    rw [q]
    exact ⟨(ih _).1, (ih 0).2.1, fun k => ((ih 0).2.2.1 k).trans (n9 k), fun k => ((ih 0).2.2.2 k).trans (n1 k)⟩
theorem zl_RP {N i : Nat} {x : Int32} {S : zs_S} {T : zs_T} (h : zl_R N S T) (hi : i < 2) (hx : T 1 (1 - i) = x) : zs_RPM i (1 - i) S = zs_MPM i x T ∧ zl_R N (zs_RPS i (1 - i) S) (zs_MPS i x T) ∧ (∀ k, zs_MPS i x T 1 k = T 1 k) := by
  have a := fun v => zl_rP (c := 0) (x := x) hi (by decide) (zs_n (T 9 (3 * (1 - i) + 0))) 0 v S T h (by omega) hx
  have a2 := (a 0).2.1
  have b := fun v => zl_rP (c := 1) (x := x) hi (by decide) (zs_n (zs_mPS i 0 x T 0 (zs_n (T 9 (3 * (1 - i) + 0))) 9 (3 * (1 - i) + 1))) 0 v _ _ a2 (by omega) (by rw [(a 0).2.2.2]; exact hx)
  have b2 := (b 0).2.1
  have c := fun v => zl_rP (c := 2) (x := x) hi (by decide) (zs_n (zs_mPS i 1 x (zs_mPS i 0 x T 0 (zs_n (T 9 (3 * (1 - i) + 0)))) 0 (zs_n (zs_mPS i 0 x T 0 (zs_n (T 9 (3 * (1 - i) + 0))) 9 (3 * (1 - i) + 1))) 9 (3 * (1 - i) + 2))) 0 v _ _ b2 (by omega) (by rw [(b 0).2.2.2, (a 0).2.2.2]; exact hx)
  have s0 : zs_n (S 18 (1 - i) 0 0) = zs_n (T 9 (3 * (1 - i) + 0)) := by rw [zl_189 h (i := 1 - i) (c := 0) (by omega) (by decide)]
  have s1 : zs_n (zs_rPS i (1 - i) 0 S 0 (zs_n (T 9 (3 * (1 - i) + 0))) 18 (1 - i) 1 0) = zs_n (zs_mPS i 0 x T 0 (zs_n (T 9 (3 * (1 - i) + 0))) 9 (3 * (1 - i) + 1)) := by rw [zl_189 a2 (i := 1 - i) (c := 1) (by omega) (by decide)]
  have s2 : zs_n (zs_rPS i (1 - i) 1 (zs_rPS i (1 - i) 0 S 0 (zs_n (T 9 (3 * (1 - i) + 0)))) 0 (zs_n (zs_mPS i 0 x T 0 (zs_n (T 9 (3 * (1 - i) + 0))) 9 (3 * (1 - i) + 1))) 18 (1 - i) 2 0) = zs_n (zs_mPS i 1 x (zs_mPS i 0 x T 0 (zs_n (T 9 (3 * (1 - i) + 0)))) 0 (zs_n (zs_mPS i 0 x T 0 (zs_n (T 9 (3 * (1 - i) + 0))) 9 (3 * (1 - i) + 1))) 9 (3 * (1 - i) + 2)) := by rw [zl_189 b2 (i := 1 - i) (c := 2) (by omega) (by decide)]
  unfold zs_RPM zs_MPM zs_RPS zs_MPS
  rw [s0, s1, s2, (a 0).1, (b _).1, (c _).1]
  exact ⟨rfl, (c 0).2.1, fun k => (((c 0).2.2.2 k).trans ((b 0).2.2.2 k)).trans ((a 0).2.2.2 k)⟩
theorem zl_rA {N i c : Nat} {x : Int32} (hi : i < 2) (hc : c < 3) : ∀ (r j v : Nat) (S : zs_S) (T : zs_T), zl_R N S T → j + r ≤ zs_n (T 9 (3 * i + c)) → T 1 (1 - i) = x → zs_rAM i (1 - i) c S j v r = zs_mAM i c x T j v r ∧ zl_R N (zs_rAS i (1 - i) c S j r) (zs_mAS i c x T j r) ∧ (∀ k, zs_mAS i c x T j r 9 k = T 9 k) ∧ (∀ k, zs_mAS i c x T j r 1 k = T 1 k)
  | 0, j, v, S, T, h, _, _ => ⟨rfl, h, fun _ => rfl, fun _ => rfl⟩
  | r + 1, j, v, S, T, h, hj, hx => by
    have j12 := (zs_JS h.1 (e := 3 * i + c) (by omega)).2
    have st := zl_ackn (i := i) (c := c) (j := j) (x := x) h hi hc (by omega) (by omega)
    have e2 : S 2 (1 - i) 0 0 = x := (zl_21 h (by omega)).trans hx
    rw [zs_rAMs, zs_rASs, zs_mAMs, zs_mASs, e2, st.1]
    have n9 : ∀ k, zu_Mo_acknowledge T i c j x 9 k = T 9 k := fun k => zs_9A
    have n1 : ∀ k, zu_Mo_acknowledge T i c j x 1 k = T 1 k := fun k => zl_1A
    have ih := fun v' => zl_rA (x := x) hi hc r (j + 1) v' _ _ st.2 (by rw [n9]; omega) (by rw [n1]; exact hx)
    have q : (if ¬ zr_Mo_acknowledge T i c j x ≤ 0 then v + 1 else v) = if zr_Mo_acknowledge T i c j x < 0 then v else v + 1 := by
      rw [zl_iff (zl_le zl_Ane)]
      by_cases z : zr_Mo_acknowledge T i c j x < 0
      · rw [if_pos z, if_neg (fun y => y z)]
      · rw [if_neg z, if_pos z]
    rw [q]
    exact ⟨(ih _).1, (ih 0).2.1, fun k => ((ih 0).2.2.1 k).trans (n9 k), fun k => ((ih 0).2.2.2 k).trans (n1 k)⟩
theorem zl_RA {N i : Nat} {x : Int32} {S : zs_S} {T : zs_T} (h : zl_R N S T) (hi : i < 2) (hx : T 1 (1 - i) = x) : zs_RAM i (1 - i) S = zs_MAM i x T ∧ zl_R N (zs_RAS i (1 - i) S) (zs_MAS i x T) ∧ (∀ k, zs_MAS i x T 1 k = T 1 k) := by
  have a := fun v => zl_rA (c := 0) (x := x) hi (by decide) (zs_n (T 9 (3 * i + 0))) 0 v S T h (by omega) hx
  have a2 := (a 0).2.1
  have b := fun v => zl_rA (c := 1) (x := x) hi (by decide) (zs_n (zs_mAS i 0 x T 0 (zs_n (T 9 (3 * i + 0))) 9 (3 * i + 1))) 0 v _ _ a2 (by omega) (by rw [(a 0).2.2.2]; exact hx)
  have b2 := (b 0).2.1
  have c := fun v => zl_rA (c := 2) (x := x) hi (by decide) (zs_n (zs_mAS i 1 x (zs_mAS i 0 x T 0 (zs_n (T 9 (3 * i + 0)))) 0 (zs_n (zs_mAS i 0 x T 0 (zs_n (T 9 (3 * i + 0))) 9 (3 * i + 1))) 9 (3 * i + 2))) 0 v _ _ b2 (by omega) (by rw [(b 0).2.2.2, (a 0).2.2.2]; exact hx)
  have s0 : zs_n (S 18 (i) 0 0) = zs_n (T 9 (3 * i + 0)) := by rw [zl_189 h (i := i) (c := 0) (by omega) (by decide)]
  have s1 : zs_n (zs_rAS i (1 - i) 0 S 0 (zs_n (T 9 (3 * i + 0))) 18 (i) 1 0) = zs_n (zs_mAS i 0 x T 0 (zs_n (T 9 (3 * i + 0))) 9 (3 * i + 1)) := by rw [zl_189 a2 (i := i) (c := 1) (by omega) (by decide)]
  have s2 : zs_n (zs_rAS i (1 - i) 1 (zs_rAS i (1 - i) 0 S 0 (zs_n (T 9 (3 * i + 0)))) 0 (zs_n (zs_mAS i 0 x T 0 (zs_n (T 9 (3 * i + 0))) 9 (3 * i + 1))) 18 (i) 2 0) = zs_n (zs_mAS i 1 x (zs_mAS i 0 x T 0 (zs_n (T 9 (3 * i + 0)))) 0 (zs_n (zs_mAS i 0 x T 0 (zs_n (T 9 (3 * i + 0))) 9 (3 * i + 1))) 9 (3 * i + 2)) := by rw [zl_189 b2 (i := i) (c := 2) (by omega) (by decide)]
  unfold zs_RAM zs_MAM zs_RAS zs_MAS
  rw [s0, s1, s2, (a 0).1, (b _).1, (c _).1]
  exact ⟨rfl, (c 0).2.1, fun k => (((c 0).2.2.2 k).trans ((b 0).2.2.2 k)).trans ((a 0).2.2.2 k)⟩
theorem zl_rT {N i c : Nat} {x : Int32} (hi : i < 2) (hc : c < 3) : ∀ (r j v : Nat) (S : zs_S) (T : zs_T), zl_R N S T → j + r ≤ zs_n (T 9 (3 * i + c)) → T 1 (1 - i) = x → zs_rTM i (1 - i) c S j v r = zs_mTM i c x T j v r ∧ zl_R N (zs_rTS i (1 - i) c S j r) (zs_mTS i c x T j r) ∧ (∀ k, zs_mTS i c x T j r 9 k = T 9 k) ∧ (∀ k, zs_mTS i c x T j r 1 k = T 1 k)
  | 0, j, v, S, T, h, _, _ => ⟨rfl, h, fun _ => rfl, fun _ => rfl⟩
  | r + 1, j, v, S, T, h, hj, hx => by
    have j12 := (zs_JS h.1 (e := 3 * i + c) (by omega)).2
    have st := zl_timeout (i := i) (c := c) (j := j) (x := x) (w := nI 0) h hi hc (by omega) (by omega) (Or.inl rfl)
    have e2 : S 2 (1 - i) 0 0 = x := (zl_21 h (by omega)).trans hx
    rw [zs_rTMs, zs_rTSs, zs_mTMs, zs_mTSs, e2, st.1]
    have n9 : ∀ k, zu_Mo_timeout T i c j x (nI 0) 9 k = T 9 k := fun k => zs_9T
    have n1 : ∀ k, zu_Mo_timeout T i c j x (nI 0) 1 k = T 1 k := fun k => zl_1T
    have ih := fun v' => zl_rT (x := x) hi hc r (j + 1) v' _ _ st.2 (by rw [n9]; omega) (by rw [n1]; exact hx)
    have q : (if zr_Mo_timeout T i c j x (nI 0) = 0 then v + 1 else v) = if zr_Mo_timeout T i c j x (nI 0) < 0 then v else v + 1 := by
      rw [zl_iff (zl_nlt zl_Tsg)]
      by_cases z : zr_Mo_timeout T i c j x (nI 0) < 0
      · rw [if_pos z, if_neg (fun y => y z)]
      · rw [if_neg z, if_pos z]
    rw [q]
    exact ⟨(ih _).1, (ih 0).2.1, fun k => ((ih 0).2.2.1 k).trans (n9 k), fun k => ((ih 0).2.2.2 k).trans (n1 k)⟩
theorem zl_RT {N i : Nat} {x : Int32} {S : zs_S} {T : zs_T} (h : zl_R N S T) (hi : i < 2) (hx : T 1 (1 - i) = x) : zs_RTM i (1 - i) S = zs_MTM i x T ∧ zl_R N (zs_RTS i (1 - i) S) (zs_MTS i x T) ∧ (∀ k, zs_MTS i x T 1 k = T 1 k) := by
  have a := fun v => zl_rT (c := 0) (x := x) hi (by decide) (zs_n (T 9 (3 * i + 0))) 0 v S T h (by omega) hx
  have a2 := (a 0).2.1
  have b := fun v => zl_rT (c := 1) (x := x) hi (by decide) (zs_n (zs_mTS i 0 x T 0 (zs_n (T 9 (3 * i + 0))) 9 (3 * i + 1))) 0 v _ _ a2 (by omega) (by rw [(a 0).2.2.2]; exact hx)
  have b2 := (b 0).2.1
  have c := fun v => zl_rT (c := 2) (x := x) hi (by decide) (zs_n (zs_mTS i 1 x (zs_mTS i 0 x T 0 (zs_n (T 9 (3 * i + 0)))) 0 (zs_n (zs_mTS i 0 x T 0 (zs_n (T 9 (3 * i + 0))) 9 (3 * i + 1))) 9 (3 * i + 2))) 0 v _ _ b2 (by omega) (by rw [(b 0).2.2.2, (a 0).2.2.2]; exact hx)
  have s0 : zs_n (S 18 (i) 0 0) = zs_n (T 9 (3 * i + 0)) := by rw [zl_189 h (i := i) (c := 0) (by omega) (by decide)]
  have s1 : zs_n (zs_rTS i (1 - i) 0 S 0 (zs_n (T 9 (3 * i + 0))) 18 (i) 1 0) = zs_n (zs_mTS i 0 x T 0 (zs_n (T 9 (3 * i + 0))) 9 (3 * i + 1)) := by rw [zl_189 a2 (i := i) (c := 1) (by omega) (by decide)]
  have s2 : zs_n (zs_rTS i (1 - i) 1 (zs_rTS i (1 - i) 0 S 0 (zs_n (T 9 (3 * i + 0)))) 0 (zs_n (zs_mTS i 0 x T 0 (zs_n (T 9 (3 * i + 0))) 9 (3 * i + 1))) 18 (i) 2 0) = zs_n (zs_mTS i 1 x (zs_mTS i 0 x T 0 (zs_n (T 9 (3 * i + 0)))) 0 (zs_n (zs_mTS i 0 x T 0 (zs_n (T 9 (3 * i + 0))) 9 (3 * i + 1))) 9 (3 * i + 2)) := by rw [zl_189 b2 (i := i) (c := 2) (by omega) (by decide)]
  unfold zs_RTM zs_MTM zs_RTS zs_MTS
  rw [s0, s1, s2, (a 0).1, (b _).1, (c _).1]
  exact ⟨rfl, (c 0).2.1, fun k => (((c 0).2.2.2 k).trans ((b 0).2.2.2 k)).trans ((a 0).2.2.2 k)⟩
theorem zl_mus {N : Nat} {S : zs_S} {T : zs_T} {i : Nat} (h : zl_R N S T) (hi : i < 2) (h1 : 1 ≤ zs_n (T 1 (1 - i))) : zs_mur T i (T 1 (1 - i)) (nI 15) (nI 0) = nI 0 ∧ zs_mus T i (T 1 (1 - i)) (nI 15) (nI 0) = zs_mw T i (zs_n (T 1 (1 - i))) := by
  have j1 := zs_JH h.1 (i := 1 - i) (by omega)
  have a : ¬ (T 1 (1 - i) < nI 1 ∨ T 1 (1 - i) < T 1 (1 - i)) := by
    rintro (q | q)
    · rw [j1.1] at q
      have := (nI_ltI (by omega) (by decide)).mp q
      omega
    · exact Int32.lt_irrefl q
  unfold zs_mur zs_mus
  rw [if_neg a, if_neg a, if_pos (show nI 0 = 0 from rfl), if_pos (show nI 0 = 0 from rfl), if_pos (by decide), if_pos (by decide)]
  exact ⟨rfl, rfl⟩
theorem zl_mw1 {T : zs_T} {i q k : Nat} : zs_mw T i q 1 k = T 1 k := by
  unfold zs_mw
  rw [zs_wx (by decide), zs_wx (by decide)]
theorem zl_n0 (a b c d e f : Nat) : ((((((nI 0 + nI 0) + nI a) + nI b) + nI c) + nI d) + nI e) + nI f = nI ((((((0 + a) + b) + c) + d) + e) + f) := by
  rw [nI_add, nI_add, nI_add, nI_add, nI_add, nI_add, nI_add]
theorem zl_round {N : Nat} {S : zs_S} {T : zs_T} (h : zl_R N S T) (h0 : zs_n (T 1 0) < 512) (h1 : zs_n (T 1 1) < 512) : zr_TL_round S = zr_Mo_round T ∧ zl_R (N + 1) (zu_TL_round S) (zu_Mo_round T) := by
  have A0 := zl_blk h (i := 0) (by decide) h0
  have t1 : zs_tk T 0 1 1 = T 1 1 := zs_tk1 (by decide)
  have A1 := zl_blk A0 (i := 1) (by decide) (by rw [t1]; exact h1)
  have u0 : zs_tk (zs_tk T 0) 1 1 0 = nI (zs_n (T 1 0) + 1) := by rw [zs_tk1 (by decide), zs_tk1s]
  have u0' : zs_tk T 0 1 0 = nI (zs_n (T 1 0) + 1) := zs_tk1s
  have u1 : zs_tk (zs_tk T 0) 1 1 1 = nI (zs_n (T 1 1) + 1) := by rw [zs_tk1s, t1]
  have B : zl_R (N + 1) (zs_mb (zs_mb S 0) 1) (zs_tk (zs_tk T 0) 1) := by
    refine ⟨A1.1, A1.2.1, A1.2.2.1, A1.2.2.2.1, A1.2.2.2.2.1, A1.2.2.2.2.2.1, A1.2.2.2.2.2.2.1, A1.2.2.2.2.2.2.2.1, A1.2.2.2.2.2.2.2.2.1, A1.2.2.2.2.2.2.2.2.2.1, A1.2.2.2.2.2.2.2.2.2.2.1, A1.2.2.2.2.2.2.2.2.2.2.2.1, A1.2.2.2.2.2.2.2.2.2.2.2.2.1, A1.2.2.2.2.2.2.2.2.2.2.2.2.2.1, A1.2.2.2.2.2.2.2.2.2.2.2.2.2.2.1, A1.2.2.2.2.2.2.2.2.2.2.2.2.2.2.2.1, A1.2.2.2.2.2.2.2.2.2.2.2.2.2.2.2.2.1, ?_⟩
    have kN := h.2.2.2.2.2.2.2.2.2.2.2.2.2.2.2.2.2
    intro i hi
    match i, hi with
    | 0, _ =>
      rw [u0, show zs_n (nI (zs_n (T 1 0) + 1)) = zs_n (T 1 0) + 1 from nI_clamp (by omega)]
      have := kN 0 (by decide)
      omega
    | 1, _ =>
      rw [u1, show zs_n (nI (zs_n (T 1 1) + 1)) = zs_n (T 1 1) + 1 from nI_clamp (by omega)]
      have := kN 1 (by decide)
      omega
  generalize hU : zs_tk (zs_tk T 0) 1 = U at *
  generalize hV : zs_mb (zs_mb S 0) 1 = V at *
  have n1 : zs_n (U 1 1) = zs_n (T 1 1) + 1 := by rw [u1]; exact nI_clamp (by omega)
  have n0 : zs_n (U 1 0) = zs_n (T 1 0) + 1 := by rw [u0]; exact nI_clamp (by omega)
  have m0 := zl_mus (i := 0) B (by decide) (by show 1 ≤ zs_n (U 1 1); omega)
  have L0 := zl_learn (i := 0) (q := zs_n (U 1 1)) B (by decide) (by omega)
  have m1 := zl_mus (i := 1) L0 (by decide) (by rw [zl_mw1]; show 1 ≤ zs_n (U 1 0); omega)
  have L1 := zl_learn (i := 1) (q := zs_n (U 1 0)) L0 (by decide) (by omega)
  have m0a : zs_mur U 0 (U 1 1) (nI 15) (nI 0) = nI 0 := m0.1
  have m0b : zs_mus U 0 (U 1 1) (nI 15) (nI 0) = zs_mw U 0 (zs_n (U 1 1)) := m0.2
  have m1a : zs_mur (zs_mw U 0 (zs_n (U 1 1))) 1 (U 1 0) (nI 15) (nI 0) = nI 0 := by
    have := m1.1
    rw [zl_mw1] at this
    exact this
  have m1b : zs_mus (zs_mw U 0 (zs_n (U 1 1))) 1 (U 1 0) (nI 15) (nI 0) = zs_mw (zs_mw U 0 (zs_n (U 1 1))) 1 (zs_n (U 1 0)) := by
    have := m1.2
    rw [zl_mw1] at this
    exact this
  have v1 : V 2 1 0 0 = U 1 1 := zl_21 B (by decide)
  have v0 : zs_ln V 0 (zs_n (U 1 1)) 2 0 0 0 = U 1 0 := by rw [zs_ln2]; exact zl_21 B (by decide)
  generalize hW : zs_mw (zs_mw U 0 (zs_n (U 1 1))) 1 (zs_n (U 1 0)) = W at *
  have w1 : W 1 1 = U 1 1 := by rw [← hW, zl_mw1, zl_mw1]
  have w0 : W 1 0 = U 1 0 := by rw [← hW, zl_mw1, zl_mw1]
  generalize hX : zs_ln (zs_ln V 0 (zs_n (U 1 1))) 1 (zs_n (U 1 0)) = X at *
  have P0 := zl_RP (i := 0) (x := U 1 1) L1 (by decide) w1
  have C0 := zl_RA (i := 0) (x := U 1 1) P0.2.1 (by decide) (by rw [P0.2.2]; exact w1)
  have D0 := zl_RT (i := 0) (x := U 1 1) C0.2.1 (by decide) (by rw [C0.2.2, P0.2.2]; exact w1)
  have P1 := zl_RP (i := 1) (x := U 1 0) D0.2.1 (by decide) (by rw [D0.2.2, C0.2.2, P0.2.2]; exact w0)
  have C1 := zl_RA (i := 1) (x := U 1 0) P1.2.1 (by decide) (by rw [P1.2.2, D0.2.2, C0.2.2, P0.2.2]; exact w0)
  have D1 := zl_RT (i := 1) (x := U 1 0) C1.2.1 (by decide) (by rw [C1.2.2, P1.2.2, D0.2.2, C0.2.2, P0.2.2]; exact w0)
  unfold zr_TL_round zu_TL_round zr_Mo_round zu_Mo_round
  rw [hV, hU, v1, v0, hX, u0', ← u0, m0a, m0b, m1a, m1b, zl_n0]
  refine ⟨?_, D1.2.1⟩
  have p0 := P0.1
  have c0 := C0.1
  have d0 := D0.1
  have p1 := P1.1
  have c1 := C1.1
  have d1 := D1.1
  rw [← p0, ← c0, ← d0, ← p1, ← c1, ← d1]
