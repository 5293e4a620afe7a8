/-! the face: one step of both, whatever the arguments -/
theorem zl_I {N : Nat} {S : zs_S} {T : zs_T} (h : zl_R N S T) : zs_I S := by
  obtain ⟨hJ, hB, hkept, hkp, he, hn, hp, hr, ha, hpk, h1, h9, h12, k1, k2, k3, k4, kN⟩ := h
  refine ⟨hB, fun i hi => ?_, fun i c hi hc => ?_, fun i j hi hj => ?_, fun i hi => ?_, fun i k hi hk => ?_⟩
  · rw [(h1.2.1 i hi).2.2]
    exact zs_JV hJ hi
  · rw [(h1.2.2.1 i c hi hc).1]
    exact zs_JS hJ (by omega)
  · have z := hpk i (j / 12) (j % 12) hi (by omega) (by omega)
    have m := zs_JM hJ (q := 13 * (3 * i + j / 12) + (j % 12 + 1)) (by omega)
    rw [show 12 * (j / 12) + j % 12 = j by omega] at z
    unfold zs_PK
    rw [z.1, z.2.2.1, z.2.2.2.1, z.2.2.2.2.2.1, show zs_n (nI (zs_n (T 14 (13 * (3 * i + j / 12) + (j % 12 + 1))) / 4)) = zs_n (T 14 (13 * (3 * i + j / 12) + (j % 12 + 1))) / 4 from nI_clamp (by omega), show zs_n (nI (zs_n (T 14 (13 * (3 * i + j / 12) + (j % 12 + 1))) % 4)) = zs_n (T 14 (13 * (3 * i + j / 12) + (j % 12 + 1))) % 4 from nI_clamp (by omega)]
    exact ⟨m.1, ⟨rfl, by omega⟩, ⟨rfl, by omega⟩, m.2.2⟩
  · rw [(h1.2.1 i hi).1]
    exact zs_JH hJ hi
  · rw [(h1.2.2.2 i k hi hk).1]
    exact zs_JK hJ (by omega)
theorem zl_mono {N : Nat} {S : zs_S} {T : zs_T} (h : zl_R N S T) : zl_R (N + 1) S T := by
  obtain ⟨hJ, hB, hkept, hkp, he, hn, hp, hr, ha, hpk, h1, h9, h12, k1, k2, k3, k4, kN⟩ := h
  exact ⟨hJ, hB, hkept, hkp, he, hn, hp, hr, ha, hpk, h1, h9, h12, k1, k2, k3, k4, fun i hi => Nat.le_succ_of_le (kN i hi)⟩
theorem zl_NN {N : Nat} {S : zs_S} {T : zs_T} (h : zl_R N S T) {i : Nat} (hi : i < 2) : zs_n (T 1 i) ≤ N := h.2.2.2.2.2.2.2.2.2.2.2.2.2.2.2.2.2 i hi
theorem zl_10 {N : Nat} {S : zs_S} {T : zs_T} (h : zl_R N S T) {i : Nat} (hi : i < 2) : S 10 i 0 0 = T 21 i := (h.2.2.2.2.2.2.2.2.2.2.1.2.1 i hi).2.2
/-- a number in 1 .. y, or not -/
theorem zl_pick {x y : Int32} {m : Nat} (hy : y = nI (zs_n y)) (hm : zs_n y ≤ m) (hm2 : m < 2 ^ 30) : (x < nI 1 ∨ y < x) ∨ ∃ j, x = nI (j + 1) ∧ j + 1 ≤ zs_n y := by
  by_cases a : x < nI 1 ∨ y < x
  · exact Or.inl a
  · rw [hy] at a
    obtain ⟨q, h1, h2, h3⟩ := zs_oq (by omega) a
    exact Or.inr ⟨q - 1, by rw [show q - 1 + 1 = q by omega]; exact h3, by omega⟩
theorem zl_pick0 {x y : Int32} {m : Nat} (hy : y = nI (zs_n y)) (hm : zs_n y ≤ m) (hm2 : m < 2 ^ 30) : (x < nI 0 ∨ y < x) ∨ ∃ j, x = nI j ∧ j ≤ zs_n y := by
  by_cases a : x < nI 0 ∨ y < x
  · exact Or.inl a
  · rw [hy] at a
    obtain ⟨q, h1, h3⟩ := zs_vo (by omega) a
    exact Or.inr ⟨q, h3, by omega⟩
theorem zl_nv {x : Int32} {n : Nat} (hn : n < 2 ^ 31) (h : ¬ zs_v x n) : x < 0 ∨ nI n ≤ x := by
  rcases pk_ix x hn with a | a | a
  · exact Or.inl a
  · exact Or.inr a
  · exact absurd a h
theorem zl_slt {y : Int32} {j : Nat} (hy : y = nI (zs_n y)) (hm : zs_n y ≤ 1000) (h : j + 1 ≤ zs_n y) : ¬ (nI (j + 1) < nI 1 ∨ y < nI (j + 1)) := by
  rw [hy]
  exact zn_ins (by omega) h (by omega)
def zf_M (lc : Launch) (y : MethodName) (cd : ByteArray) (ml : Nat) (rt : Option FieldType) (G : zw_G) (B n : Nat) (f : Nat → va_E) (av : List Value) (f' : Nat → va_E) (r : Int32) : Prop := ∃ rm : Room, (rm.cells = 0 ∧ rm.slots = 0 ∧ rm.frames ≤ 7 ∧ rm.locals ≤ 178) ∧ zw_M lc y cd ml rt rm G B n f av (zw_Qi G B n f' r)
theorem zf_mk {lc : Launch} {y : MethodName} {cd : ByteArray} {ml : Nat} {rt : Option FieldType} {G : zw_G} {B n : Nat} {f : Nat → va_E} {av : List Value} {f' : Nat → va_E} {r r' : Int32} {rm : Room} (h : zw_M lc y cd ml rt rm G B n f av (zw_Qi G B n f' r)) (hb : rm.cells = 0 ∧ rm.slots = 0 ∧ rm.frames ≤ 7 ∧ rm.locals ≤ 178) (e : r = r') : zf_M lc y cd ml rt G B n f av f' r' := by
  subst e
  exact ⟨rm, hb, h⟩
def zf_T (lc : Launch) (G : zw_G) (b0 b1 N : Nat) (S : zs_S) (T : zs_T) (y : MethodName) (cd : ByteArray) (ml : Nat) (y' : MethodName) (cd' : ByteArray) (ml' : Nat) (rt : Option FieldType) (av : List Value) : Prop := ∃ (r : Int32) (S' : zs_S) (T' : zs_T), zf_M lc y cd ml rt G b0 176 (zp_p G b0 S) (.ref (b0 + zp_o 0 0 0) :: av) (zp_p G b0 S') r ∧ zf_M lc y' cd' ml' rt G b1 26 (zq_p G b1 T) (.ref (b1 + 0) :: av) (zq_p G b1 T') r ∧ zl_R (N + 1) S' T'
section ZF
variable {lc : Launch} {G : zw_G} {b0 b1 N : Nat} {S : zs_S} {T : zs_T}
theorem zf_tick (h : zl_R N S T) (hN : N < 512) (l : Int32) : zf_T lc G b0 b1 N S T ym_TL_tick bm_TL_tick 2 ym_Mo_tick bm_Mo_tick 5 (some .int) [.int l] := by
  by_cases v : zs_v l 2
  · obtain ⟨i, hi, rfl⟩ := v
    have e := zl_21 h hi
    have j := zs_JH h.1 hi
    have n := zl_NN h hi
    refine ⟨_, _, _, zf_mk (zc_TL_tick lc G b0 S i hi (by rw [e]; exact j.1) (by rw [e]; omega) h.2.1) ⟨rfl, rfl, by decide, by decide⟩ rfl, zf_mk (zc_Mo_tick lc G b1 T i hi j.1 (by omega)) ⟨rfl, rfl, by decide, by decide⟩ ?_, zl_blk h hi (by omega)⟩
    rw [zs_tk1s, e]
  · exact ⟨_, S, T, zf_mk (zc_TL_tick_bad lc G b0 S l v) ⟨rfl, rfl, by decide, by decide⟩ rfl, zf_mk (zc_Mo_tick_bad lc G b1 T l v) ⟨rfl, rfl, by decide, by decide⟩ rfl, zl_mono h⟩
theorem zf_update (h : zl_R N S T) (l x y w : Int32) : zf_T lc G b0 b1 N S T ym_TL_update bm_TL_update 5 ym_Mo_update bm_Mo_update 6 (some .int) [.int l, .int x, .int y, .int w] := by
  by_cases v : zs_v l 2
  · obtain ⟨i, hi, rfl⟩ := v
    have e := zl_21 h (i := 1 - i) (by omega)
    have j := zs_JH h.1 (i := 1 - i) (by omega)
    have u := zl_update (h := x) (x := y) (w := w) h hi
    exact ⟨_, _, _, zf_mk (zc_TL_update lc G b0 S i x y w hi (by rw [e]; exact j.1) (by rw [e]; exact j.2)) ⟨rfl, rfl, by decide, by decide⟩ rfl, zf_mk (zc_Mo_update lc G b1 T i x y w hi j.1 (by omega)) ⟨rfl, rfl, by decide, by decide⟩ u.1.symm, zl_mono u.2⟩
  · exact ⟨_, S, T, zf_mk (zc_TL_update_bad lc G b0 S l x y w v) ⟨rfl, rfl, by decide, by decide⟩ rfl, zf_mk (zc_Mo_update_bad lc G b1 T l x y w v) ⟨rfl, rfl, by decide, by decide⟩ rfl, zl_mono h⟩
theorem zf_init (h : zl_R N S T) (l d w : Int32) (hw : w = 0 ∨ w = 1) : zf_T lc G b0 b1 N S T ym_TL_init bm_TL_init 4 ym_Mo_init bm_Mo_init 5 (some .int) [.int l, .int d, .int w] := by
  by_cases v : zs_v l 2 ∧ zs_v d 3
  · obtain ⟨⟨i, hi, rfl⟩, c, hc, rfl⟩ := v
    have u := zl_init h hi hc hw
    exact ⟨_, _, _, zf_mk (zc_TL_init lc G b0 S i c w hi hc) ⟨rfl, rfl, by decide, by decide⟩ rfl, zf_mk (zc_Mo_init lc G b1 T i c w hi hc hw) ⟨rfl, rfl, by decide, by decide⟩ u.1.symm, zl_mono u.2⟩
  · exact ⟨_, S, T, zf_mk (zc_TL_init_bad lc G b0 S l d w v) ⟨rfl, rfl, by decide, by decide⟩ rfl, zf_mk (zc_Mo_init_bad lc G b1 T l d w v) ⟨rfl, rfl, by decide, by decide⟩ rfl, zl_mono h⟩
theorem zf_attempt (h : zl_R N S T) (l d w x : Int32) (hw : w = 0 ∨ w = 1) : zf_T lc G b0 b1 N S T ym_TL_attempt bm_TL_attempt 5 ym_Mo_attempt bm_Mo_attempt 7 (some .int) [.int l, .int d, .int w, .int x] := by
  by_cases v : zs_v l 2 ∧ zs_v d 3
  · obtain ⟨⟨i, hi, rfl⟩, c, hc, rfl⟩ := v
    have u := zl_attempt (x := x) h hi hc hw
    exact ⟨_, _, _, zf_mk (zc_TL_attempt lc G b0 S i c w x hi hc h.2.1) ⟨rfl, rfl, by decide, by decide⟩ rfl, zf_mk (zc_Mo_attempt lc G b1 T i c w x hi hc hw (zs_JZ h.1)) ⟨rfl, rfl, by decide, by decide⟩ u.1.symm, zl_mono u.2⟩
  · exact ⟨_, S, T, zf_mk (zc_TL_attempt_bad lc G b0 S l d w x v) ⟨rfl, rfl, by decide, by decide⟩ rfl, zf_mk (zc_Mo_attempt_bad lc G b1 T l d w x v) ⟨rfl, rfl, by decide, by decide⟩ rfl, zl_mono h⟩
theorem zf_open (h : zl_R N S T) (l d x y : Int32) : zf_T lc G b0 b1 N S T ym_TL_open bm_TL_open 7 ym_Mo_open bm_Mo_open 7 (some .int) [.int l, .int d, .int x, .int y] := by
  by_cases v : zs_v l 2 ∧ zs_v d 3
  · obtain ⟨⟨i, hi, rfl⟩, c, hc, rfl⟩ := v
    by_cases vx : zs_v x 3
    · obtain ⟨z, hz, rfl⟩ := vx
      have u := zl_open (hh := y) h hi hc hz
      exact ⟨_, _, _, zf_mk (zc_TL_open lc G b0 S i c (nI z) y hi hc h.2.1) ⟨rfl, rfl, by decide, by decide⟩ rfl, zf_mk (zc_Mo_open lc G b1 T i c z y hi hc hz (zs_JZ h.1)) ⟨rfl, rfl, by decide, by decide⟩ u.1.symm, zl_mono u.2⟩
    · have u := zl_openb (S := S) (i := i) (c := c) (hh := y) vx
      refine ⟨_, _, T, zf_mk (zc_TL_open lc G b0 S i c x y hi hc h.2.1) ⟨rfl, rfl, by decide, by decide⟩ rfl, zf_mk (zc_Mo_open_bad2 lc G b1 T i c x y hi hc vx) ⟨rfl, rfl, by decide, by decide⟩ u.1.symm, ?_⟩
      rw [u.2]
      exact zl_mono h
  · exact ⟨_, S, T, zf_mk (zc_TL_open_bad lc G b0 S l d x y v) ⟨rfl, rfl, by decide, by decide⟩ rfl, zf_mk (zc_Mo_open_bad lc G b1 T l d x y v) ⟨rfl, rfl, by decide, by decide⟩ rfl, zl_mono h⟩
theorem zf_close (h : zl_R N S T) (l d : Int32) : zf_T lc G b0 b1 N S T ym_TL_close bm_TL_close 3 ym_Mo_close bm_Mo_close 3 (some .int) [.int l, .int d] := by
  by_cases v : zs_v l 2 ∧ zs_v d 3
  · obtain ⟨⟨i, hi, rfl⟩, c, hc, rfl⟩ := v
    have u := zl_close h hi hc
    exact ⟨_, _, _, zf_mk (zc_TL_close lc G b0 S i c hi hc) ⟨rfl, rfl, by decide, by decide⟩ rfl, zf_mk (zc_Mo_close lc G b1 T i c hi hc) ⟨rfl, rfl, by decide, by decide⟩ u.1.symm, zl_mono u.2⟩
  · exact ⟨_, S, T, zf_mk (zc_TL_close_bad lc G b0 S l d v) ⟨rfl, rfl, by decide, by decide⟩ rfl, zf_mk (zc_Mo_close_bad lc G b1 T l d v) ⟨rfl, rfl, by decide, by decide⟩ rfl, zl_mono h⟩
theorem zf_send (h : zl_R N S T) (l d w k a : Int32) : zf_T lc G b0 b1 N S T ym_TL_send bm_TL_send 6 ym_Mo_send bm_Mo_send 10 (some .int) [.int l, .int d, .int w, .int k, .int a] := by
  by_cases v : zs_v l 2 ∧ zs_v d 3
  · obtain ⟨⟨i, hi, rfl⟩, c, hc, rfl⟩ := v
    have e10 := zl_10 h hi
    have jv := zs_JV h.1 hi
    have js := zs_JS h.1 (e := 3 * i + c) (by omega)
    have e18 := zl_189 h hi hc
    by_cases g : (w < nI 0 ∨ nI 15 < w) ∨ (k < nI 0 ∨ T 21 i < k) ∨ (a < nI 1 ∨ nI 1000 < a)
    · refine ⟨_, S, T, zf_mk (zc_TL_send_bad2 lc G b0 S i c w k a hi hc ?_) ⟨rfl, rfl, by decide, by decide⟩ rfl, zf_mk (zc_Mo_send_bad2 lc G b1 T i c w k a hi hc g) ⟨rfl, rfl, by decide, by decide⟩ rfl, zl_mono h⟩
      rw [e10]
      rcases g with (g | g) | (g | g) | (g | g)
      · exact Or.inl g
      · refine Or.inr (Or.inl ?_)
        have p := Int32.lt_iff_toInt_lt.mp g
        apply Int32.le_iff_toInt_le.mpr
        rw [nI_toInt (by decide)] at p ⊢
        omega
      · exact Or.inr (Or.inr (Or.inr (Or.inr (Or.inl g))))
      · exact Or.inr (Or.inr (Or.inr (Or.inr (Or.inr g))))
      · exact Or.inr (Or.inr (Or.inl g))
      · exact Or.inr (Or.inr (Or.inr (Or.inl (fun q => zn_ltle g q))))
    · have g1 : ¬ (w < nI 0 ∨ nI 15 < w) := fun q => g (Or.inl q)
      have g2 : ¬ (k < nI 0 ∨ T 21 i < k) := fun q => g (Or.inr (Or.inl q))
      have g3 : ¬ (a < nI 1 ∨ nI 1000 < a) := fun q => g (Or.inr (Or.inr q))
      obtain ⟨w', hw', rfl⟩ := zs_vo (n := 15) (by decide) g1
      have g2' := g2
      rw [jv.1] at g2'
      obtain ⟨k', hk', rfl⟩ := zs_vo (by omega) g2'
      obtain ⟨x, x1, x2, x3⟩ := zs_oq (n := 1000) (by decide) g3
      have u := zl_send (a := a) h hi hc (show w' < 16 from hw') (show k' < 6 by omega) (by omega) ⟨x, x2, x1, x3⟩
      refine ⟨_, _, _, zf_mk (zc_TL_send lc G b0 S i c w' k' a hi hc hw' (by omega) (fun q => g3 (Or.inl q)) ?_ ?_ (by rw [e18]; exact js.1) (by rw [e18]; exact js.2)) ⟨rfl, rfl, by decide, by decide⟩ rfl, zf_mk (zc_Mo_send lc G b1 T i c w' k' a hi hc hw' (by omega) g2 g3 js.1 js.2) ⟨rfl, rfl, by decide, by decide⟩ u.1.symm, zl_mono u.2⟩
      · rw [x3]
        exact nI_le (by omega) (by decide)
      · rw [e10]
        exact fun q => g2 (Or.inr q)
  · exact ⟨_, S, T, zf_mk (zc_TL_send_bad lc G b0 S l d w k a v) ⟨rfl, rfl, by decide, by decide⟩ rfl, zf_mk (zc_Mo_send_bad lc G b1 T l d w k a v) ⟨rfl, rfl, by decide, by decide⟩ rfl, zl_mono h⟩
theorem zf_receive (h : zl_R N S T) (l d x y w : Int32) (hw : w = 0 ∨ w = 1) : zf_T lc G b0 b1 N S T ym_TL_receive bm_TL_receive 6 ym_Mo_receive bm_Mo_receive 10 (some .int) [.int l, .int d, .int x, .int y, .int w] := by
  by_cases v : zs_v l 2 ∧ zs_v d 3
  · obtain ⟨⟨i, hi, rfl⟩, c, hc, rfl⟩ := v
    have hI := zl_I h
    have js := zs_JS h.1 (e := 3 * (1 - i) + c) (by omega)
    have e18 := zl_189 h (i := 1 - i) (by omega) hc
    have iS := zs_IS hI (i := 1 - i) (by omega) hc
    rcases zl_pick (x := x) js.1 js.2 (by decide) with g | ⟨j, rfl, hj⟩
    · exact ⟨_, S, T, zf_mk (zc_TL_receive_bad2 lc G b0 S i c x y w hi hc (by rw [e18]; exact g)) ⟨rfl, rfl, by decide, by decide⟩ rfl, zf_mk (zc_Mo_receive_bad2 lc G b1 T i c x y w hi hc g) ⟨rfl, rfl, by decide, by decide⟩ rfl, zl_mono h⟩
    · have u := zl_receive (x := y) h hi hc (show j < 12 by omega) (by omega) hw
      exact ⟨_, _, _, zf_mk (zc_TL_receive lc G b0 S i c j y w hi hc iS.1 iS.2 (by rw [e18]; exact hj) h.2.1 (zs_IP hI (by omega) (by omega)) (zs_IV hI hi).1 (zs_IV hI hi).2) ⟨rfl, rfl, by decide, by decide⟩ rfl, zf_mk (zc_Mo_receive lc G b1 T i c j y w hi hc (by omega) (zl_slt js.1 (by omega) hj) (zs_JM h.1 (by omega)) (zs_JV h.1 hi).1 (zs_JV h.1 hi).2 (zs_JZ h.1)) ⟨rfl, rfl, by decide, by decide⟩ u.1.symm, zl_mono u.2⟩
  · exact ⟨_, S, T, zf_mk (zc_TL_receive_bad lc G b0 S l d x y w v) ⟨rfl, rfl, by decide, by decide⟩ rfl, zf_mk (zc_Mo_receive_bad lc G b1 T l d x y w v) ⟨rfl, rfl, by decide, by decide⟩ rfl, zl_mono h⟩
theorem zf_acknowledge (h : zl_R N S T) (l d x y : Int32) : zf_T lc G b0 b1 N S T ym_TL_acknowledge bm_TL_acknowledge 5 ym_Mo_acknowledge bm_Mo_acknowledge 8 (some .int) [.int l, .int d, .int x, .int y] := by
  by_cases v : zs_v l 2 ∧ zs_v d 3
  · obtain ⟨⟨i, hi, rfl⟩, c, hc, rfl⟩ := v
    have hI := zl_I h
    have js := zs_JS h.1 (e := 3 * i + c) (by omega)
    have e18 := zl_189 h hi hc
    have iS := zs_IS hI hi hc
    rcases zl_pick (x := x) js.1 js.2 (by decide) with g | ⟨j, rfl, hj⟩
    · exact ⟨_, S, T, zf_mk (zc_TL_acknowledge_bad2 lc G b0 S i c x y hi hc (by rw [e18]; exact g)) ⟨rfl, rfl, by decide, by decide⟩ rfl, zf_mk (zc_Mo_acknowledge_bad2 lc G b1 T i c x y hi hc g) ⟨rfl, rfl, by decide, by decide⟩ rfl, zl_mono h⟩
    · have u := zl_ackn (x := y) h hi hc (show j < 12 by omega) (by omega)
      exact ⟨_, _, _, zf_mk (zc_TL_acknowledge lc G b0 S i c j y hi hc iS.1 iS.2 (by rw [e18]; exact hj) h.2.1 (zs_IP hI hi (by omega))) ⟨rfl, rfl, by decide, by decide⟩ rfl, zf_mk (zc_Mo_acknowledge lc G b1 T i c j y hi hc (by omega) (zl_slt js.1 (by omega) hj) (zs_JM h.1 (by omega)) (zs_JZ h.1)) ⟨rfl, rfl, by decide, by decide⟩ u.1.symm, zl_mono u.2⟩
  · exact ⟨_, S, T, zf_mk (zc_TL_acknowledge_bad lc G b0 S l d x y v) ⟨rfl, rfl, by decide, by decide⟩ rfl, zf_mk (zc_Mo_acknowledge_bad lc G b1 T l d x y v) ⟨rfl, rfl, by decide, by decide⟩ rfl, zl_mono h⟩
theorem zf_timeout (h : zl_R N S T) (l d x y w : Int32) (hw : w = 0 ∨ w = 1) : zf_T lc G b0 b1 N S T ym_TL_timeout bm_TL_timeout 6 ym_Mo_timeout bm_Mo_timeout 9 (some .int) [.int l, .int d, .int x, .int y, .int w] := by
  by_cases v : zs_v l 2 ∧ zs_v d 3
  · obtain ⟨⟨i, hi, rfl⟩, c, hc, rfl⟩ := v
    have hI := zl_I h
    have js := zs_JS h.1 (e := 3 * i + c) (by omega)
    have e18 := zl_189 h hi hc
    have iS := zs_IS hI hi hc
    rcases zl_pick (x := x) js.1 js.2 (by decide) with g | ⟨j, rfl, hj⟩
    · exact ⟨_, S, T, zf_mk (zc_TL_timeout_bad2 lc G b0 S i c x y w hi hc (by rw [e18]; exact g)) ⟨rfl, rfl, by decide, by decide⟩ rfl, zf_mk (zc_Mo_timeout_bad2 lc G b1 T i c x y w hi hc g) ⟨rfl, rfl, by decide, by decide⟩ rfl, zl_mono h⟩
    · have u := zl_timeout (x := y) h hi hc (show j < 12 by omega) (by omega) hw
      exact ⟨_, _, _, zf_mk (zc_TL_timeout lc G b0 S i c j y w hi hc iS.1 iS.2 (by rw [e18]; exact hj) h.2.1 (zs_IP hI hi (by omega))) ⟨rfl, rfl, by decide, by decide⟩ rfl, zf_mk (zc_Mo_timeout lc G b1 T i c j y w hi hc (by omega) (zl_slt js.1 (by omega) hj) (zs_JM h.1 (by omega)) (zs_JZ h.1)) ⟨rfl, rfl, by decide, by decide⟩ u.1.symm, zl_mono u.2⟩
  · exact ⟨_, S, T, zf_mk (zc_TL_timeout_bad lc G b0 S l d x y w v) ⟨rfl, rfl, by decide, by decide⟩ rfl, zf_mk (zc_Mo_timeout_bad lc G b1 T l d x y w v) ⟨rfl, rfl, by decide, by decide⟩ rfl, zl_mono h⟩
theorem zf_round (h : zl_R N S T) (hN : N < 512) : zf_T lc G b0 b1 N S T ym_TL_round bm_TL_round 3 ym_Mo_round bm_Mo_round 7 (some .int) [] := by
  have n0 := zl_NN h (i := 0) (by decide)
  have n1 := zl_NN h (i := 1) (by decide)
  have u := zl_round h (by omega) (by omega)
  exact ⟨_, _, _, zf_mk (zc_TL_round lc G b0 S (zl_I h) (by rw [zl_21 h (i := 0) (by decide)]; omega) (by rw [zl_21 h (i := 1) (by decide)]; omega)) ⟨rfl, rfl, by decide, by decide⟩ rfl, zf_mk (zc_Mo_round lc G b1 T h.1 (by omega) (by omega)) ⟨rfl, rfl, by decide, by decide⟩ u.1.symm, u.2⟩
theorem zf_height (h : zl_R N S T) (l : Int32) : zf_T lc G b0 b1 N S T ym_TL_height bm_TL_height 2 ym_Mo_height bm_Mo_height 2 (some .int) [.int l] := by
  by_cases v : zs_v l 2
  · obtain ⟨i, hi, rfl⟩ := v
    exact ⟨_, S, T, zf_mk (zc_TL_height lc G b0 S i hi) ⟨rfl, rfl, by decide, by decide⟩ rfl, zf_mk (zc_Mo_height lc G b1 T i hi) ⟨rfl, rfl, by decide, by decide⟩ (zl_21 h hi).symm, zl_mono h⟩
  · exact ⟨_, S, T, zf_mk (zc_TL_height_bad lc G b0 S l v) ⟨rfl, rfl, by decide, by decide⟩ rfl, zf_mk (zc_Mo_height_bad lc G b1 T l v) ⟨rfl, rfl, by decide, by decide⟩ rfl, zl_mono h⟩
theorem zf_root (h : zl_R N S T) (l x : Int32) : zf_T lc G b0 b1 N S T ym_TL_root bm_TL_root 3 ym_Mo_root bm_Mo_root 6 (some .int) [.int l, .int x] := by
  by_cases v : zs_v l 2
  · obtain ⟨i, hi, rfl⟩ := v
    have u := zl_root (x := x) h hi
    exact ⟨_, _, _, zf_mk (zc_TL_root lc G b0 S i x hi) ⟨rfl, rfl, by decide, by decide⟩ rfl, zf_mk (zc_Mo_root lc G b1 T i x hi (zs_JZ h.1) (zl_qbound h)) ⟨rfl, rfl, by decide, by decide⟩ u.1.symm, zl_mono u.2⟩
  · exact ⟨_, S, T, zf_mk (zc_TL_root_bad lc G b0 S l x v) ⟨rfl, rfl, by decide, by decide⟩ rfl, zf_mk (zc_Mo_root_bad lc G b1 T l x v) ⟨rfl, rfl, by decide, by decide⟩ rfl, zl_mono h⟩
theorem zf_bq {p q : Prop} [Decidable p] [Decidable q] (h : p ↔ q) : zn_b p = zn_b q := zl_iff h 1 0
theorem zf_knows (h : zl_R N S T) (l x : Int32) : zf_T lc G b0 b1 N S T ym_TL_knows bm_TL_knows 3 ym_Mo_knows bm_Mo_knows 3 (some .boolean) [.int l, .int x] := by
  by_cases v : zs_v l 2
  · obtain ⟨i, hi, rfl⟩ := v
    exact ⟨_, S, T, zf_mk (zc_TL_knows lc G b0 S i x hi) ⟨rfl, rfl, by decide, by decide⟩ rfl, zf_mk (zc_Mo_knows lc G b1 T i x hi) ⟨rfl, rfl, by decide, by decide⟩ (zf_bq (zl_hd h hi)).symm, zl_mono h⟩
  · exact ⟨_, S, T, zf_mk (zc_TL_knows_bad lc G b0 S l x v) ⟨rfl, rfl, by decide, by decide⟩ rfl, zf_mk (zc_Mo_knows_bad lc G b1 T l x v) ⟨rfl, rfl, by decide, by decide⟩ rfl, zl_mono h⟩
theorem zf_end (h : zl_R N S T) (l d x : Int32) : zf_T lc G b0 b1 N S T ym_TL_end bm_TL_end 5 ym_Mo_end bm_Mo_end 5 (some .int) [.int l, .int d, .int x] := by
  by_cases v : zs_v l 2 ∧ zs_v d 3
  · obtain ⟨⟨i, hi, rfl⟩, c, hc, rfl⟩ := v
    exact ⟨_, S, T, zf_mk (zc_TL_end lc G b0 S i c x hi hc) ⟨rfl, rfl, by decide, by decide⟩ rfl, zf_mk (zc_Mo_end lc G b1 T i c x hi hc) ⟨rfl, rfl, by decide, by decide⟩ (zl_end h hi hc).symm, zl_mono h⟩
  · exact ⟨_, S, T, zf_mk (zc_TL_end_bad lc G b0 S l d x v) ⟨rfl, rfl, by decide, by decide⟩ rfl, zf_mk (zc_Mo_end_bad lc G b1 T l d x v) ⟨rfl, rfl, by decide, by decide⟩ rfl, zl_mono h⟩
theorem zf_packet (h : zl_R N S T) (l d x : Int32) : zf_T lc G b0 b1 N S T ym_TL_packet bm_TL_packet 4 ym_Mo_packet bm_Mo_packet 4 (some .int) [.int l, .int d, .int x] := by
  by_cases v : zs_v l 2 ∧ zs_v d 3
  · obtain ⟨⟨i, hi, rfl⟩, c, hc, rfl⟩ := v
    have js := zs_JS h.1 (e := 3 * i + c) (by omega)
    have e18 := zl_189 h hi hc
    have iS := zs_IS (zl_I h) hi hc
    rcases zl_pick (x := x) js.1 js.2 (by decide) with g | ⟨j, rfl, hj⟩
    · exact ⟨_, S, T, zf_mk (zc_TL_packet_bad2 lc G b0 S i c x hi hc (by rw [e18]; exact g)) ⟨rfl, rfl, by decide, by decide⟩ rfl, zf_mk (zc_Mo_packet_bad2 lc G b1 T i c x hi hc g) ⟨rfl, rfl, by decide, by decide⟩ rfl, zl_mono h⟩
    · exact ⟨_, S, T, zf_mk (zc_TL_packet lc G b0 S i c j hi hc iS.1 iS.2 (by rw [e18]; exact hj)) ⟨rfl, rfl, by decide, by decide⟩ rfl, zf_mk (zc_Mo_packet lc G b1 T i c j hi hc (by omega) (zl_slt js.1 (by omega) hj)) ⟨rfl, rfl, by decide, by decide⟩ (h.2.2.2.2.2.2.2.2.2.1 i c j hi hc (by omega)).2.2.2.2.2.2.symm, zl_mono h⟩
  · exact ⟨_, S, T, zf_mk (zc_TL_packet_bad lc G b0 S l d x v) ⟨rfl, rfl, by decide, by decide⟩ rfl, zf_mk (zc_Mo_packet_bad lc G b1 T l d x v) ⟨rfl, rfl, by decide, by decide⟩ rfl, zl_mono h⟩
theorem zf_limit (h : zl_R N S T) (l d x : Int32) : zf_T lc G b0 b1 N S T ym_TL_limit bm_TL_limit 4 ym_Mo_limit bm_Mo_limit 4 (some .int) [.int l, .int d, .int x] := by
  by_cases v : zs_v l 2 ∧ zs_v d 3
  · obtain ⟨⟨i, hi, rfl⟩, c, hc, rfl⟩ := v
    have js := zs_JS h.1 (e := 3 * i + c) (by omega)
    have e18 := zl_189 h hi hc
    have iS := zs_IS (zl_I h) hi hc
    rcases zl_pick (x := x) js.1 js.2 (by decide) with g | ⟨j, rfl, hj⟩
    · exact ⟨_, S, T, zf_mk (zc_TL_limit_bad2 lc G b0 S i c x hi hc (by rw [e18]; exact g)) ⟨rfl, rfl, by decide, by decide⟩ rfl, zf_mk (zc_Mo_limit_bad2 lc G b1 T i c x hi hc g) ⟨rfl, rfl, by decide, by decide⟩ rfl, zl_mono h⟩
    · exact ⟨_, S, T, zf_mk (zc_TL_limit lc G b0 S i c j hi hc iS.1 iS.2 (by rw [e18]; exact hj)) ⟨rfl, rfl, by decide, by decide⟩ rfl, zf_mk (zc_Mo_limit lc G b1 T i c j hi hc (by omega) (zl_slt js.1 (by omega) hj)) ⟨rfl, rfl, by decide, by decide⟩ (h.2.2.2.2.2.2.2.2.2.1 i c j hi hc (by omega)).2.2.2.2.1.symm, zl_mono h⟩
  · exact ⟨_, S, T, zf_mk (zc_TL_limit_bad lc G b0 S l d x v) ⟨rfl, rfl, by decide, by decide⟩ rfl, zf_mk (zc_Mo_limit_bad lc G b1 T l d x v) ⟨rfl, rfl, by decide, by decide⟩ rfl, zl_mono h⟩
theorem zf_balance (h : zl_R N S T) (l u k : Int32) : zf_T lc G b0 b1 N S T ym_TL_balance bm_TL_balance 4 ym_Mo_balance bm_Mo_balance 4 (some .int) [.int l, .int u, .int k] := by
  by_cases v : zs_v l 2
  · obtain ⟨i, hi, rfl⟩ := v
    have e10 := zl_10 h hi
    have jv := zs_JV h.1 hi
    by_cases g : zs_v u 4 ∧ zs_v k 6
    · obtain ⟨⟨u, hu, rfl⟩, k, hk, rfl⟩ := g
      by_cases e : T 21 i < nI k
      · have e' : zs_n (T 21 i) < k := by
          rw [jv.1] at e
          exact (nI_ltI (by omega) (by omega)).mp e
        exact ⟨_, S, T, zf_mk (zc_TL_balance_bad2 lc G b0 S i (nI u) (nI k) hi (Or.inr (Or.inr (Or.inr (by rw [e10]; exact e))))) ⟨rfl, rfl, by decide, by decide⟩ rfl, zf_mk (zc_Mo_balance lc G b1 T i u k hi hu hk) ⟨rfl, rfl, by decide, by decide⟩ ((h.2.2.2.2.2.2.2.2.2.2.2.2.2.2.2.2.1 i k hi hk e').1 u hu), zl_mono h⟩
      · exact ⟨_, S, T, zf_mk (zc_TL_balance lc G b0 S i u k hi hu hk (by rw [e10]; exact e)) ⟨rfl, rfl, by decide, by decide⟩ rfl, zf_mk (zc_Mo_balance lc G b1 T i u k hi hu hk) ⟨rfl, rfl, by decide, by decide⟩ (h.2.2.2.2.2.2.2.2.2.2.2.2.1.1 i u k hi hu hk).symm, zl_mono h⟩
    · refine ⟨_, S, T, zf_mk (zc_TL_balance_bad2 lc G b0 S i u k hi ?_) ⟨rfl, rfl, by decide, by decide⟩ rfl, zf_mk (zc_Mo_balance_bad2 lc G b1 T i u k hi g) ⟨rfl, rfl, by decide, by decide⟩ rfl, zl_mono h⟩
      by_cases gu : zs_v u 4
      · have gk : ¬ zs_v k 6 := fun q => g ⟨gu, q⟩
        rcases zl_nv (by decide) gk with q | q
        · exact Or.inr (Or.inr (Or.inl q))
        · refine Or.inr (Or.inr (Or.inr ?_))
          rw [e10, jv.1]
          have p := Int32.le_iff_toInt_le.mp q
          apply Int32.lt_iff_toInt_lt.mpr
          rw [nI_toInt (by decide)] at p
          rw [nI_toInt (by omega)]
          omega
      · rcases zl_nv (by decide) gu with q | q
        · exact Or.inl q
        · exact Or.inr (Or.inl q)
  · exact ⟨_, S, T, zf_mk (zc_TL_balance_bad lc G b0 S l u k v) ⟨rfl, rfl, by decide, by decide⟩ rfl, zf_mk (zc_Mo_balance_bad lc G b1 T l u k v) ⟨rfl, rfl, by decide, by decide⟩ rfl, zl_mono h⟩
theorem zf_escrow (h : zl_R N S T) (l d k : Int32) : zf_T lc G b0 b1 N S T ym_TL_escrow bm_TL_escrow 4 ym_Mo_escrow bm_Mo_escrow 4 (some .int) [.int l, .int d, .int k] := by
  by_cases v : zs_v l 2 ∧ zs_v d 3
  · obtain ⟨⟨i, hi, rfl⟩, c, hc, rfl⟩ := v
    have e10 := zl_10 h hi
    have jv := zs_JV h.1 hi
    by_cases g : zs_v k 6
    · obtain ⟨k, hk, rfl⟩ := g
      by_cases e : T 21 i < nI k
      · have e' : zs_n (T 21 i) < k := by
          rw [jv.1] at e
          exact (nI_ltI (by omega) (by omega)).mp e
        exact ⟨_, S, T, zf_mk (zc_TL_escrow_bad2 lc G b0 S i c (nI k) hi hc (Or.inr (by rw [e10]; exact e))) ⟨rfl, rfl, by decide, by decide⟩ rfl, zf_mk (zc_Mo_escrow lc G b1 T i c k hi hc hk) ⟨rfl, rfl, by decide, by decide⟩ ((h.2.2.2.2.2.2.2.2.2.2.2.2.2.2.2.2.1 i k hi hk e').2 c hc), zl_mono h⟩
      · exact ⟨_, S, T, zf_mk (zc_TL_escrow lc G b0 S i c k hi hc hk (by rw [e10]; exact e)) ⟨rfl, rfl, by decide, by decide⟩ rfl, zf_mk (zc_Mo_escrow lc G b1 T i c k hi hc hk) ⟨rfl, rfl, by decide, by decide⟩ (h.2.2.2.2.2.2.2.2.2.2.2.2.1.2 i c k hi hc hk).symm, zl_mono h⟩
    · refine ⟨_, S, T, zf_mk (zc_TL_escrow_bad2 lc G b0 S i c k hi hc ?_) ⟨rfl, rfl, by decide, by decide⟩ rfl, zf_mk (zc_Mo_escrow_bad2 lc G b1 T i c k hi hc g) ⟨rfl, rfl, by decide, by decide⟩ rfl, zl_mono h⟩
      rcases zl_nv (by decide) g with q | q
      · exact Or.inl q
      · refine Or.inr ?_
        rw [e10, jv.1]
        have p := Int32.le_iff_toInt_le.mp q
        apply Int32.lt_iff_toInt_lt.mpr
        rw [nI_toInt (by decide)] at p
        rw [nI_toInt (by omega)]
        omega
  · exact ⟨_, S, T, zf_mk (zc_TL_escrow_bad lc G b0 S l d k v) ⟨rfl, rfl, by decide, by decide⟩ rfl, zf_mk (zc_Mo_escrow_bad lc G b1 T l d k v) ⟨rfl, rfl, by decide, by decide⟩ rfl, zl_mono h⟩
theorem zf_voucher (h : zl_R N S T) (l k : Int32) : zf_T lc G b0 b1 N S T ym_TL_voucher bm_TL_voucher 3 ym_Mo_voucher bm_Mo_voucher 3 (some .int) [.int l, .int k] := by
  by_cases v : zs_v l 2
  · obtain ⟨i, hi, rfl⟩ := v
    have e10 := zl_10 h hi
    have jv := zs_JV h.1 hi
    rcases zl_pick (x := k) jv.1 jv.2 (by decide) with g | ⟨j, rfl, hj⟩
    · exact ⟨_, S, T, zf_mk (zc_TL_voucher_bad2 lc G b0 S i k hi (by rw [e10]; exact g)) ⟨rfl, rfl, by decide, by decide⟩ rfl, zf_mk (zc_Mo_voucher_bad2 lc G b1 T i k hi g) ⟨rfl, rfl, by decide, by decide⟩ rfl, zl_mono h⟩
    · have z := h.2.2.2.2.2.2.2.2.2.2.1.2.2.2 i (j + 1) hi (by omega)
      have s := zl_slt jv.1 (by omega) hj
      refine ⟨_, S, T, zf_mk (zc_TL_voucher lc G b0 S i (j + 1) hi (by omega) (by omega) (by rw [e10]; exact fun q => s (Or.inr q))) ⟨rfl, rfl, by decide, by decide⟩ rfl, zf_mk (zc_Mo_voucher lc G b1 T i (j + 1) hi (by omega) s) ⟨rfl, rfl, by decide, by decide⟩ ?_, zl_mono h⟩
      rw [z.1, z.2]
  · exact ⟨_, S, T, zf_mk (zc_TL_voucher_bad lc G b0 S l k v) ⟨rfl, rfl, by decide, by decide⟩ rfl, zf_mk (zc_Mo_voucher_bad lc G b1 T l k v) ⟨rfl, rfl, by decide, by decide⟩ rfl, zl_mono h⟩
end ZF
