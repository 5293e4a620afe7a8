/-! blocks, headers, relays keep what the states keep -/
theorem zs_mb2 {S : zs_S} {i i' : Nat} : zs_mb S i 2 i' 0 0 = if i' = i then nI (zs_n (S 2 i 0 0) + 1) else S 2 i' 0 0 := by
  unfold zs_mb
  rw [zs_cpn (by decide) (by decide)]
  unfold zs_u
  by_cases h : i' = i
  · subst h
    rw [if_pos ⟨rfl, rfl, rfl, rfl⟩, if_pos rfl]
  · rw [if_neg (fun q => h q.2.1), if_neg h]
theorem zs_mbt {S : zs_S} {i t i' j' k' : Nat} (h2 : t ≠ 2) (h4 : t ≠ 4) (h5 : t ≠ 5) : zs_mb S i t i' j' k' = S t i' j' k' := by
  unfold zs_mb
  rw [zs_cpn h4 h5, zs_ut h2]
theorem zs_Imb {S : zs_S} {i : Nat} (h : zs_I S) (hn : zs_n (S 2 i 0 0) < 512) : zs_I (zs_mb S i) := by
  refine ⟨fun a b c => ?_, fun a ha => ?_, fun a c ha hc => ?_, fun a j ha hj => ?_, fun a ha => ?_, fun a k ha hk => ?_⟩
  · have key : ∀ a b c, zs_u S 2 i 0 0 (nI (zs_n (S 2 i 0 0) + 1)) 5 a b c = S 5 a b c := fun a b c => zs_ut (by decide)
    unfold zs_mb zs_cp
    split
    · rw [key]
      exact zs_IB h _ _ _
    · rw [key]
      exact zs_IB h _ _ _
  · rw [zs_mbt (by decide) (by decide) (by decide)]
    exact zs_IV h ha
  · rw [zs_mbt (by decide) (by decide) (by decide)]
    exact zs_IS h ha hc
  · unfold zs_PK
    rw [zs_mbt (by decide) (by decide) (by decide), zs_mbt (by decide) (by decide) (by decide), zs_mbt (by decide) (by decide) (by decide), zs_mbt (by decide) (by decide) (by decide)]
    exact zs_IP h ha hj
  · rw [zs_mb2]
    by_cases e : a = i
    · subst e
      rw [if_pos rfl, show zs_n (nI (zs_n (S 2 a 0 0) + 1)) = zs_n (S 2 a 0 0) + 1 from nI_clamp (by omega)]
      exact ⟨rfl, by omega⟩
    · rw [if_neg e]
      exact zs_IH h ha
  · rw [zs_mbt (by decide) (by decide) (by decide)]
    exact zs_IK h ha hk
theorem zs_Iln {S : zs_S} {i q : Nat} (h : zs_I S) : zs_I (zs_ln S i q) := by
  unfold zs_ln
  exact zs_Iu (zs_Iu h (by decide) (by decide) (by decide) (by decide) (by decide) (by decide)) (by decide) (by decide) (by decide) (by decide) (by decide) (by decide)
theorem zs_ln2 {S : zs_S} {i q a : Nat} : zs_ln S i q 2 a 0 0 = S 2 a 0 0 := by
  unfold zs_ln
  rw [zs_ut (by decide), zs_ut (by decide)]
/-- the two heights behind two new blocks -/
theorem zs_mq1 {S : zs_S} (h : zs_n (S 2 1 0 0) < 512) : 1 ≤ zs_n (zs_mb (zs_mb S 0) 1 2 1 0 0) := by
  rw [zs_mb2, if_pos rfl, zs_mb2, if_neg (by decide), show zs_n (nI (zs_n (S 2 1 0 0) + 1)) = zs_n (S 2 1 0 0) + 1 from nI_clamp (by omega)]
  omega
theorem zs_mq0 {S : zs_S} {q : Nat} (h : zs_n (S 2 0 0 0) < 512) : 1 ≤ zs_n (zs_ln (zs_mb (zs_mb S 0) 1) 0 q 2 0 0 0) := by
  rw [zs_ln2, zs_mb2, if_neg (by decide), zs_mb2, if_pos rfl, show zs_n (nI (zs_n (S 2 0 0 0) + 1)) = zs_n (S 2 0 0 0) + 1 from nI_clamp (by omega)]
  omega
theorem zs_RPI {i o : Nat} {S : zs_S} (hi : i < 2) (ho : o < 2) (h : zs_I S) : zs_I (zs_RPS i o S) := by
  have a := zs_rPI (c := 0) hi ho (by decide) (zs_n (S 18 o 0 0)) 0 S (Nat.le_trans (Nat.le_of_eq (Nat.zero_add _)) (zs_IS h ho (by decide)).2) h
  have b := zs_rPI (c := 1) hi ho (by decide) _ 0 _ (Nat.le_trans (Nat.le_of_eq (Nat.zero_add _)) (zs_IS a ho (c := 1) (by decide)).2) a
  exact zs_rPI (c := 2) hi ho (by decide) _ 0 _ (Nat.le_trans (Nat.le_of_eq (Nat.zero_add _)) (zs_IS b ho (c := 2) (by decide)).2) b
theorem zs_RAI {i o : Nat} {S : zs_S} (hi : i < 2) (ho : o < 2) (h : zs_I S) : zs_I (zs_RAS i o S) := by
  have a := zs_rAI (c := 0) hi ho (by decide) (zs_n (S 18 i 0 0)) 0 S (Nat.le_trans (Nat.le_of_eq (Nat.zero_add _)) (zs_IS h hi (by decide)).2) h
  have b := zs_rAI (c := 1) hi ho (by decide) _ 0 _ (Nat.le_trans (Nat.le_of_eq (Nat.zero_add _)) (zs_IS a hi (c := 1) (by decide)).2) a
  exact zs_rAI (c := 2) hi ho (by decide) _ 0 _ (Nat.le_trans (Nat.le_of_eq (Nat.zero_add _)) (zs_IS b hi (c := 2) (by decide)).2) b
theorem zs_RTI {i o : Nat} {S : zs_S} (hi : i < 2) (ho : o < 2) (h : zs_I S) : zs_I (zs_RTS i o S) := by
  have a := zs_rTI (c := 0) hi ho (by decide) (zs_n (S 18 i 0 0)) 0 S (Nat.le_trans (Nat.le_of_eq (Nat.zero_add _)) (zs_IS h hi (by decide)).2) h
  have b := zs_rTI (c := 1) hi ho (by decide) _ 0 _ (Nat.le_trans (Nat.le_of_eq (Nat.zero_add _)) (zs_IS a hi (c := 1) (by decide)).2) a
  exact zs_rTI (c := 2) hi ho (by decide) _ 0 _ (Nat.le_trans (Nat.le_of_eq (Nat.zero_add _)) (zs_IS b hi (c := 2) (by decide)).2) b
/-! the reference -/
theorem zs_Jli {T : zs_T} {i b : Nat} {y v : Int32} (h : zs_J T) (hL : zs_LT T i b) (hb : b ≤ 127) : zs_J (zs_li T i y v) := by
  unfold zs_li
  have h2 : zs_J (zs_w (zs_w T 5 (128 * (8 * i + zs_n (T 1 i) % 8) + zs_n (T 4 (8 * i + zs_n (T 1 i) % 8))) y) 6 (128 * (8 * i + zs_n (T 1 i) % 8) + zs_n (T 4 (8 * i + zs_n (T 1 i) % 8))) v) := zs_Ju (zs_Ju h (by decide) (by decide) (by decide) (by decide) (by decide) (by decide) (by decide) (by decide)) (by decide) (by decide) (by decide) (by decide) (by decide) (by decide) (by decide) (by decide)
  have hm := hL.2.2
  generalize zs_n (T 4 (8 * i + zs_n (T 1 i) % 8)) = mm at h2 hm ⊢
  generalize zs_w (zs_w T 5 (128 * (8 * i + zs_n (T 1 i) % 8) + mm) y) 6 (128 * (8 * i + zs_n (T 1 i) % 8) + mm) v = U at h2 ⊢
  generalize 8 * i + zs_n (T 1 i) % 8 = at'
  refine ⟨fun q => ?_, fun a ha => ?_, fun e he => ?_, fun q hq => ?_, fun a ha => ?_, fun z hz => ?_⟩
  · by_cases e : q = at'
    · subst e
      rw [zs_ws, show zs_n (nI (mm + 1)) = mm + 1 from nI_clamp (by omega)]
      exact ⟨rfl, by omega⟩
    · rw [zs_wk e]
      exact zs_JZ h2 q
  · rw [zs_wx (by decide)]
    exact zs_JV h2 ha
  · rw [zs_wx (by decide)]
    exact zs_JS h2 he
  · unfold zs_MP
    rw [zs_wx (by decide), zs_wx (by decide), zs_wx (by decide)]
    exact zs_JM h2 hq
  · rw [zs_wx (by decide)]
    exact zs_JH h2 ha
  · rw [zs_wx (by decide)]
    exact zs_JK h2 hz
theorem zs_itJ {f : Nat → zs_T → zs_T} {i : Nat} (hf : ∀ k b T, b ≤ 127 → zs_LT T i b → zs_LT (f k T) i (b + 1)) (hg : ∀ k b T, b ≤ 127 → zs_LT T i b → zs_J T → zs_J (f k T)) : ∀ (r k b : Nat) (T : zs_T), b + r ≤ 128 → zs_LT T i b → zs_J T → zs_J (zs_it f T k r)
  | 0, _, _, _, _, _, h => h
  | r + 1, k, b, T, hb, hL, h => zs_itJ hf hg r (k + 1) (b + 1) (f k T) (by omega) (hf k b T (by omega) hL) (hg k b T (by omega) hL h)
theorem zs_Jt1 {T : zs_T} {i b c : Nat} (hL : zs_LT T i b) (hb : b ≤ 127) (h : zs_J T) : zs_J (zs_t1 i c T) := by
  unfold zs_t1
  split
  · exact h
  · split
    · exact zs_Jli h hL hb
    · exact zs_Jli h hL hb
theorem zs_Jt2 {T : zs_T} {i b c : Nat} (hL : zs_LT T i b) (hb : b ≤ 127) (h : zs_J T) : zs_J (zs_t2 i c T) := by
  unfold zs_t2
  split
  · exact h
  · split
    · exact h
    · exact zs_Jli h hL hb
theorem zs_ifP {c : Prop} [Decidable c] {A B : zs_T} {P : zs_T → Prop} (ha : P A) (hb : P B) : P (if c then A else B) := by
  by_cases h : c
  · rw [if_pos h]; exact ha
  · rw [if_neg h]; exact hb
theorem zs_Jt3_0 {T : zs_T} {i b c j : Nat} (hL : zs_LT T i b) (hb : b ≤ 127) (h : zs_J T) : zs_J (zu_Mo_listPacket_w0 T i c j) := by
  unfold zu_Mo_listPacket_w0
  repeat (first | with_reducible assumption | with_reducible exact zs_Jli h hL hb | with_reducible refine zs_ifP (P := zs_J) ?_ ?_)
theorem zs_Jt3_1 {T : zs_T} {i b c j : Nat} (hL : zs_LT T i b) (hb : b ≤ 127) (h : zs_J T) : zs_J (zu_Mo_listPacket_w1 T i c j) := by
  unfold zu_Mo_listPacket_w1
  repeat (first | with_reducible assumption | with_reducible exact zs_Jli h hL hb | with_reducible refine zs_ifP (P := zs_J) ?_ ?_)
theorem zs_Jt3_2 {T : zs_T} {i b c j : Nat} (hL : zs_LT T i b) (hb : b ≤ 127) (h : zs_J T) : zs_J (zu_Mo_listPacket_w2 T i c j) := by
  unfold zu_Mo_listPacket_w2
  repeat (first | with_reducible assumption | with_reducible exact zs_Jli h hL hb | with_reducible refine zs_ifP (P := zs_J) ?_ ?_)
theorem zs_Jtk0 {T : zs_T} {i : Nat} (h : zs_J T) (hn : zs_n (T 1 i) < 512) : zs_J (zs_tk0 T i) := by
  unfold zs_tk0
  refine ⟨fun q => ?_, fun a ha => ?_, fun e he => ?_, fun q hq => ?_, fun a ha => ?_, fun z hz => ?_⟩
  · by_cases e : q = 8 * i + (zs_n (T 1 i) + 1) % 8
    · rw [e, zs_ws]
      exact ⟨rfl, by decide⟩
    · rw [zs_wk e, zs_wx (by decide)]
      exact zs_JZ h q
  · rw [zs_wx (by decide), zs_wx (by decide)]
    exact zs_JV h ha
  · rw [zs_wx (by decide), zs_wx (by decide)]
    exact zs_JS h he
  · unfold zs_MP
    rw [zs_wx (by decide), zs_wx (by decide), zs_wx (by decide), zs_wx (by decide), zs_wx (by decide), zs_wx (by decide)]
    exact zs_JM h hq
  · rw [zs_wx (by decide)]
    by_cases e : a = i
    · subst e
      rw [zs_ws, show zs_n (nI (zs_n (T 1 a) + 1)) = zs_n (T 1 a) + 1 from nI_clamp (by omega)]
      exact ⟨rfl, by omega⟩
    · rw [zs_wk e]
      exact zs_JH h ha
  · rw [zs_wx (by decide), zs_wx (by decide)]
    exact zs_JK h hz
theorem zs_Jtick {T : zs_T} {i : Nat} (h : zs_J T) (hn : zs_n (T 1 i) < 512) : zs_J (zs_tk T i) := by
  have hL0 : zs_LT (zs_tk0 T i) i 0 := zs_LT0 (by omega)
  have h0 := zs_Jtk0 h hn
  have h1 := zs_itJ (f := zs_t1 i) (fun k b T hb h => zs_LT1 h hb) (fun k b T hb hL h => zs_Jt1 hL hb h) 3 0 0 _ (by omega) hL0 h0
  have hL1 := zs_its (f := zs_t1 i) (fun k b T hb h => zs_LT1 h hb) 3 0 0 _ (by omega) hL0
  have h2 := zs_itJ (f := zs_t2 i) (fun k b T hb h => zs_LT2 h hb) (fun k b T hb hL h => zs_Jt2 hL hb h) 3 0 3 _ (by omega) hL1 h1
  have hL2 := zs_its (f := zs_t2 i) (fun k b T hb h => zs_LT2 h hb) 3 0 3 _ (by omega) hL1
  have h3 := zs_itJ (f := fun j T => zu_Mo_listPacket_w0 T i 0 j) (fun k b T hb h => zs_LT3_0 (c := 0) h hb) (fun k b T hb hL h => zs_Jt3_0 (c := 0) hL hb h) 12 0 6 _ (by omega) hL2 h2
  have hL3 := zs_its (f := fun j T => zu_Mo_listPacket_w0 T i 0 j) (fun k b T hb h => zs_LT3_0 (c := 0) h hb) 12 0 6 _ (by omega) hL2
  have h4 := zs_itJ (f := fun j T => zu_Mo_listPacket_w0 T i 1 j) (fun k b T hb h => zs_LT3_0 (c := 1) h hb) (fun k b T hb hL h => zs_Jt3_0 (c := 1) hL hb h) 12 0 18 _ (by omega) hL3 h3
  have hL4 := zs_its (f := fun j T => zu_Mo_listPacket_w0 T i 1 j) (fun k b T hb h => zs_LT3_0 (c := 1) h hb) 12 0 18 _ (by omega) hL3
  have h5 := zs_itJ (f := fun j T => zu_Mo_listPacket_w0 T i 2 j) (fun k b T hb h => zs_LT3_0 (c := 2) h hb) (fun k b T hb hL h => zs_Jt3_0 (c := 2) hL hb h) 12 0 30 _ (by omega) hL4 h4
  have hL5 := zs_its (f := fun j T => zu_Mo_listPacket_w0 T i 2 j) (fun k b T hb h => zs_LT3_0 (c := 2) h hb) 12 0 30 _ (by omega) hL4
  have h6 := zs_itJ (f := fun j T => zu_Mo_listPacket_w1 T i 0 j) (fun k b T hb h => zs_LT3_1 (c := 0) h hb) (fun k b T hb hL h => zs_Jt3_1 (c := 0) hL hb h) 12 0 42 _ (by omega) hL5 h5
  have hL6 := zs_its (f := fun j T => zu_Mo_listPacket_w1 T i 0 j) (fun k b T hb h => zs_LT3_1 (c := 0) h hb) 12 0 42 _ (by omega) hL5
  have h7 := zs_itJ (f := fun j T => zu_Mo_listPacket_w1 T i 1 j) (fun k b T hb h => zs_LT3_1 (c := 1) h hb) (fun k b T hb hL h => zs_Jt3_1 (c := 1) hL hb h) 12 0 54 _ (by omega) hL6 h6
  have hL7 := zs_its (f := fun j T => zu_Mo_listPacket_w1 T i 1 j) (fun k b T hb h => zs_LT3_1 (c := 1) h hb) 12 0 54 _ (by omega) hL6
  have h8 := zs_itJ (f := fun j T => zu_Mo_listPacket_w1 T i 2 j) (fun k b T hb h => zs_LT3_1 (c := 2) h hb) (fun k b T hb hL h => zs_Jt3_1 (c := 2) hL hb h) 12 0 66 _ (by omega) hL7 h7
  have hL8 := zs_its (f := fun j T => zu_Mo_listPacket_w1 T i 2 j) (fun k b T hb h => zs_LT3_1 (c := 2) h hb) 12 0 66 _ (by omega) hL7
  have h9 := zs_itJ (f := fun j T => zu_Mo_listPacket_w2 T i 0 j) (fun k b T hb h => zs_LT3_2 (c := 0) h hb) (fun k b T hb hL h => zs_Jt3_2 (c := 0) hL hb h) 12 0 78 _ (by omega) hL8 h8
  have hL9 := zs_its (f := fun j T => zu_Mo_listPacket_w2 T i 0 j) (fun k b T hb h => zs_LT3_2 (c := 0) h hb) 12 0 78 _ (by omega) hL8
  have h10 := zs_itJ (f := fun j T => zu_Mo_listPacket_w2 T i 1 j) (fun k b T hb h => zs_LT3_2 (c := 1) h hb) (fun k b T hb hL h => zs_Jt3_2 (c := 1) hL hb h) 12 0 90 _ (by omega) hL9 h9
  have hL10 := zs_its (f := fun j T => zu_Mo_listPacket_w2 T i 1 j) (fun k b T hb h => zs_LT3_2 (c := 1) h hb) 12 0 90 _ (by omega) hL9
  have h11 := zs_itJ (f := fun j T => zu_Mo_listPacket_w2 T i 2 j) (fun k b T hb h => zs_LT3_2 (c := 2) h hb) (fun k b T hb hL h => zs_Jt3_2 (c := 2) hL hb h) 12 0 102 _ (by omega) hL10 h10
  have hL11 := zs_its (f := fun j T => zu_Mo_listPacket_w2 T i 2 j) (fun k b T hb h => zs_LT3_2 (c := 2) h hb) 12 0 102 _ (by omega) hL10
  exact h11
theorem zs_Jmus {T : zs_T} {i : Nat} {h x w : Int32} (hJ : zs_J T) : zs_J (zs_mus T i h x w) := by
  unfold zs_mus zs_mw
  repeat (first | with_reducible assumption | decide | (with_reducible refine zs_Ju ?_ ?_ ?_ ?_ ?_ ?_ ?_ ?_ ?_) | with_reducible refine zs_ifP (P := zs_J) ?_ ?_)
theorem zs_MPJ {i : Nat} {h : Int32} {T : zs_T} (hi : i < 2) (hJ : zs_J T) : zs_J (zs_MPS i h T) := by
  have a := zs_mPJ (c := 0) (h := h) hi (by decide) (zs_n (T 9 (3 * (1 - i) + 0))) 0 T (Nat.le_trans (Nat.le_of_eq (Nat.zero_add _)) (zs_JS hJ (by omega)).2) hJ
  have b := zs_mPJ (c := 1) (h := h) hi (by decide) _ 0 _ (Nat.le_trans (Nat.le_of_eq (Nat.zero_add _)) (zs_JS a (e := 3 * (1 - i) + 1) (by omega)).2) a
  exact zs_mPJ (c := 2) (h := h) hi (by decide) _ 0 _ (Nat.le_trans (Nat.le_of_eq (Nat.zero_add _)) (zs_JS b (e := 3 * (1 - i) + 2) (by omega)).2) b
theorem zs_MAJ {i : Nat} {h : Int32} {T : zs_T} (hi : i < 2) (hJ : zs_J T) : zs_J (zs_MAS i h T) := by
  have a := zs_mAJ (c := 0) (h := h) hi (by decide) (zs_n (T 9 (3 * i + 0))) 0 T (Nat.le_trans (Nat.le_of_eq (Nat.zero_add _)) (zs_JS hJ (by omega)).2) hJ
  have b := zs_mAJ (c := 1) (h := h) hi (by decide) _ 0 _ (Nat.le_trans (Nat.le_of_eq (Nat.zero_add _)) (zs_JS a (e := 3 * i + 1) (by omega)).2) a
  exact zs_mAJ (c := 2) (h := h) hi (by decide) _ 0 _ (Nat.le_trans (Nat.le_of_eq (Nat.zero_add _)) (zs_JS b (e := 3 * i + 2) (by omega)).2) b
theorem zs_MTJ {i : Nat} {h : Int32} {T : zs_T} (hi : i < 2) (hJ : zs_J T) : zs_J (zs_MTS i h T) := by
  have a := zs_mTJ (c := 0) (h := h) hi (by decide) (zs_n (T 9 (3 * i + 0))) 0 T (Nat.le_trans (Nat.le_of_eq (Nat.zero_add _)) (zs_JS hJ (by omega)).2) hJ
  have b := zs_mTJ (c := 1) (h := h) hi (by decide) _ 0 _ (Nat.le_trans (Nat.le_of_eq (Nat.zero_add _)) (zs_JS a (e := 3 * i + 1) (by omega)).2) a
  exact zs_mTJ (c := 2) (h := h) hi (by decide) _ 0 _ (Nat.le_trans (Nat.le_of_eq (Nat.zero_add _)) (zs_JS b (e := 3 * i + 2) (by omega)).2) b
theorem zs_it1 {f : Nat → zs_T → zs_T} {x a : Nat} (hf : ∀ k T, f k T x a = T x a) : ∀ (r k : Nat) (T : zs_T), zs_it f T k r x a = T x a
  | 0, _, _ => rfl
  | r + 1, k, T => (zs_it1 hf r (k + 1) (f k T)).trans (hf k T)
theorem zs_lix {T : zs_T} {i x k : Nat} {y v : Int32} (h4 : x ≠ 4) (h5 : x ≠ 5) (h6 : x ≠ 6) : zs_li T i y v x k = T x k := by
  unfold zs_li
  rw [zs_wx h4, zs_wx h6, zs_wx h5]
theorem zs_t1x {T : zs_T} {i c x k : Nat} (h4 : x ≠ 4) (h5 : x ≠ 5) (h6 : x ≠ 6) : zs_t1 i c T x k = T x k := by
  unfold zs_t1
  repeat (first | with_reducible rfl | with_reducible exact zs_lix h4 h5 h6 | with_reducible refine zs_ifT ?_ ?_)
theorem zs_t2x {T : zs_T} {i c x k : Nat} (h4 : x ≠ 4) (h5 : x ≠ 5) (h6 : x ≠ 6) : zs_t2 i c T x k = T x k := by
  unfold zs_t2
  repeat (first | with_reducible rfl | with_reducible exact zs_lix h4 h5 h6 | with_reducible refine zs_ifT ?_ ?_)
theorem zs_l0x {T : zs_T} {i c j x k : Nat} (h4 : x ≠ 4) (h5 : x ≠ 5) (h6 : x ≠ 6) : zu_Mo_listPacket_w0 T i c j x k = T x k := by
  unfold zu_Mo_listPacket_w0
  repeat (first | with_reducible rfl | with_reducible exact zs_lix h4 h5 h6 | with_reducible refine zs_ifT ?_ ?_)
theorem zs_l1x {T : zs_T} {i c j x k : Nat} (h4 : x ≠ 4) (h5 : x ≠ 5) (h6 : x ≠ 6) : zu_Mo_listPacket_w1 T i c j x k = T x k := by
  unfold zu_Mo_listPacket_w1
  repeat (first | with_reducible rfl | with_reducible exact zs_lix h4 h5 h6 | with_reducible refine zs_ifT ?_ ?_)
theorem zs_l2x {T : zs_T} {i c j x k : Nat} (h4 : x ≠ 4) (h5 : x ≠ 5) (h6 : x ≠ 6) : zu_Mo_listPacket_w2 T i c j x k = T x k := by
  unfold zu_Mo_listPacket_w2
  repeat (first | with_reducible rfl | with_reducible exact zs_lix h4 h5 h6 | with_reducible refine zs_ifT ?_ ?_)
/-- a block changes no array but height, sizes, keys, values -/
theorem zs_tkx {T : zs_T} {i x k : Nat} (h4 : x ≠ 4) (h5 : x ≠ 5) (h6 : x ≠ 6) : zs_tk T i x k = zs_tk0 T i x k := by
  unfold zs_tk
  rw [zs_it1 (fun k T => zs_l2x h4 h5 h6), zs_it1 (fun k T => zs_l2x h4 h5 h6), zs_it1 (fun k T => zs_l2x h4 h5 h6), zs_it1 (fun k T => zs_l1x h4 h5 h6), zs_it1 (fun k T => zs_l1x h4 h5 h6), zs_it1 (fun k T => zs_l1x h4 h5 h6), zs_it1 (fun k T => zs_l0x h4 h5 h6), zs_it1 (fun k T => zs_l0x h4 h5 h6), zs_it1 (fun k T => zs_l0x h4 h5 h6), zs_it1 (fun k T => zs_t2x h4 h5 h6), zs_it1 (fun k T => zs_t1x h4 h5 h6)]
theorem zs_tk1 {T : zs_T} {i a : Nat} (h : a ≠ i) : zs_tk T i 1 a = T 1 a := by
  rw [zs_tkx (by decide) (by decide) (by decide)]
  unfold zs_tk0
  rw [zs_wx (by decide), zs_wk h]
theorem zs_tk1s {T : zs_T} {i : Nat} : zs_tk T i 1 i = nI (zs_n (T 1 i) + 1) := by
  rw [zs_tkx (by decide) (by decide) (by decide)]
  unfold zs_tk0
  rw [zs_wx (by decide), zs_ws]
