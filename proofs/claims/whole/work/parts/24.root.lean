/-! roots: doubling strides against a binary counter -/
def zv_t (f : Nat → Int32) (n : Nat) : Nat → Nat → Int32
  | 0, a => f a
  | k + 1, a => if n ≤ a + 2 ^ k then zv_t f n k a else zs_mix (zs_mix (nI 2) (zv_t f n k a)) (zv_t f n k (a + 2 ^ k))
theorem zv_s {f : Nat → Int32} {n k a : Nat} : zv_t f n (k + 1) a = if n ≤ a + 2 ^ k then zv_t f n k a else zs_mix (zs_mix (nI 2) (zv_t f n k a)) (zv_t f n k (a + 2 ^ k)) := rfl
theorem zv_cg {f f' : Nat → Int32} {n : Nat} (h : ∀ q, q < n → f q = f' q) : ∀ (k a : Nat), a < n → zv_t f n k a = zv_t f' n k a
  | 0, a, ha => h a ha
  | k + 1, a, ha => by
    rw [zv_s, zv_s]
    by_cases e : n ≤ a + 2 ^ k
    · rw [if_pos e, if_pos e, zv_cg h k a ha]
    · rw [if_neg e, if_neg e, zv_cg h k a ha, zv_cg h k (a + 2 ^ k) (by omega)]
theorem zv_2 (k : Nat) : 2 ^ (k + 1) = 2 ^ k + 2 ^ k := by rw [Nat.pow_succ]; omega
theorem zv_p (k : Nat) : 0 < 2 ^ k := Nat.pow_pos (by decide)
theorem zv_le {k l : Nat} (h : k ≤ l) : 2 ^ k ≤ 2 ^ l := Nat.pow_le_pow_right (by decide) h
theorem zv_up {f : Nat → Int32} {n k a : Nat} (h : n ≤ a + 2 ^ k) : ∀ (t : Nat), zv_t f n (k + t) a = zv_t f n k a
  | 0 => rfl
  | t + 1 => by
    have := zv_le (show k ≤ k + t by omega)
    rw [← Nat.add_assoc, zv_s, if_pos (by omega)]
    exact zv_up h t
theorem zv_eq {f : Nat → Int32} {n k l a : Nat} (h : n ≤ a + 2 ^ k) (h2 : n ≤ a + 2 ^ l) : zv_t f n k a = zv_t f n l a := by
  rcases Nat.le_total k l with q | q
  · rw [show l = k + (l - k) by omega]
    exact (zv_up h _).symm
  · rw [show k = l + (k - l) by omega]
    exact zv_up h2 _
/-- one pass -/
theorem zv_g2 {n st : Nat} (hst : 0 < st) : ∀ (f q0 : Nat) (g : Nat → Int32), n ≤ 2 * st * q0 + f → (∀ q, zs_g2 g n st (2 * st * q0) f (2 * st * q) = if q0 ≤ q ∧ 2 * st * q + st < n then zs_mix (zs_mix (nI 2) (g (2 * st * q))) (g (2 * st * q + st)) else g (2 * st * q))
  | 0, q0, g, hf, q => by
    rw [if_neg]
    · rfl
    · rintro ⟨a, b⟩
      have := Nat.mul_le_mul_left (2 * st) a
      omega
  | f + 1, q0, g, hf, q => by
    rw [zs_g2s]
    by_cases e : n ≤ 2 * st * q0 + st
    · rw [if_pos e, if_neg]
      rintro ⟨a, b⟩
      have := Nat.mul_le_mul_left (2 * st) a
      omega
    · rw [if_neg e, show 2 * st * q0 + 2 * st = 2 * st * (q0 + 1) by rw [Nat.mul_add, Nat.mul_one], zv_g2 hst f (q0 + 1) _ (by rw [Nat.mul_add, Nat.mul_one]; omega) q]
      have odd : ∀ q, 2 * st * q + st ≠ 2 * st * q0 := by
        intro q h
        have h2 : st * (2 * q + 1) = st * (2 * q0) := by
          rw [Nat.mul_add, Nat.mul_one, ← Nat.mul_assoc, ← Nat.mul_assoc, Nat.mul_comm st 2]
          exact h
        have := Nat.eq_of_mul_eq_mul_left hst h2
        omega
      have inj : ∀ q, q ≠ q0 → 2 * st * q ≠ 2 * st * q0 := fun q h h2 => h (Nat.eq_of_mul_eq_mul_left (show 0 < 2 * st by omega) h2)
      by_cases e2 : q = q0
      · subst e2
        rw [if_neg (fun z => absurd z.1 (by omega)), if_pos ⟨Nat.le_refl _, by omega⟩, pk_us]
      · rw [pk_un (inj q e2), pk_un (odd q)]
        by_cases e3 : q0 + 1 ≤ q ∧ 2 * st * q + st < n
        · rw [if_pos e3, if_pos ⟨by omega, e3.2⟩]
        · rw [if_neg e3, if_neg (fun z => e3 ⟨by omega, z.2⟩)]
theorem zv_g3 {n : Nat} {r : Nat → Int32} (hn : 0 < n) : ∀ (f k : Nat) (g : Nat → Int32), n ≤ 2 ^ k + f → (∀ q, 2 ^ k * q < n → g (2 ^ k * q) = zv_t r n k (2 ^ k * q)) → ∃ l, n ≤ 2 ^ l ∧ zs_g3 g n (2 ^ k) f 0 = zv_t r n l 0
  | 0, k, g, hf, hg => ⟨k, by omega, by have := hg 0 (by omega); rw [Nat.mul_zero] at this; exact this⟩
  | f + 1, k, g, hf, hg => by
    rw [zs_g3s]
    by_cases e : n ≤ 2 ^ k
    · rw [if_pos e]
      exact ⟨k, e, by have := hg 0 (by omega); rw [Nat.mul_zero] at this; exact this⟩
    · rw [if_neg e, ← Nat.pow_succ]
      have hp := zv_p k
      refine zv_g3 hn f (k + 1) _ (by rw [zv_2]; omega) (fun q hq => ?_)
      have e2 : 2 ^ (k + 1) * q = 2 * 2 ^ k * q := by rw [Nat.pow_succ, Nat.mul_comm (2 ^ k) 2]
      have e3 : 2 * 2 ^ k * q = 2 ^ k * (2 * q) := by rw [Nat.mul_comm 2 (2 ^ k), Nat.mul_assoc]
      have e4 : 2 ^ k * (2 * q) + 2 ^ k = 2 ^ k * (2 * q + 1) := by rw [Nat.mul_add, Nat.mul_one]
      rw [e2] at hq ⊢
      have z := zv_g2 (n := n) hp n 0 g (by omega) q
      rw [Nat.mul_zero] at z
      rw [z, zv_s]
      by_cases e5 : n ≤ 2 * 2 ^ k * q + 2 ^ k
      · rw [if_neg (fun w => absurd w.2 (by omega)), if_pos e5, e3]
        exact hg (2 * q) (by omega)
      · rw [if_pos ⟨Nat.zero_le _, by omega⟩, if_neg e5, e3, hg (2 * q) (by omega), e4, hg (2 * q + 1) (by omega)]
/-- the leaves' row -/
theorem zv_c1 {th : Nat → Int32} : ∀ (r k : Nat), zs_c1 th (zl_c th k) k r = zl_c th (k + r)
  | 0, _ => rfl
  | r + 1, k => by
    rw [zs_c1s, show k + (r + 1) = k + 1 + r by omega, ← zv_c1 r (k + 1)]
    by_cases e : th k = 0
    · rw [if_pos e, zl_c0 e]
    · rw [if_neg e, zl_c1 e]
theorem zv_g1 {th va : Nat → Int32} : ∀ (r k : Nat) (g : Nat → Int32), (∀ x, x < zl_c th k → zs_g1 th va g (zl_c th k) k r x = g x) ∧ (∀ x, k ≤ x → x < k + r → ¬ th x = 0 → zs_g1 th va g (zl_c th k) k r (zl_c th x) = zs_leaf va x)
  | 0, k, g => ⟨fun _ _ => rfl, fun x h1 h2 => absurd h1 (by omega)⟩
  | r + 1, k, g => by
    rw [zs_g1s]
    by_cases e : th k = 0
    · rw [if_pos e]
      have ih := zv_g1 (th := th) (va := va) r (k + 1) g
      rw [zl_c0 e] at ih
      refine ⟨ih.1, fun x h1 h2 h3 => ?_⟩
      by_cases ex : x = k
      · subst ex
        exact absurd e h3
      · exact ih.2 x (by omega) (by omega) h3
    · rw [if_neg e]
      have ih := zv_g1 (th := th) (va := va) r (k + 1) (upd g (zl_c th k) (zs_leaf va k))
      rw [zl_c1 e] at ih
      refine ⟨fun x hx => ?_, fun x h1 h2 h3 => ?_⟩
      · rw [ih.1 x (by omega), pk_un (by omega)]
      · by_cases ex : x = k
        · subst ex
          rw [ih.1 (zl_c th x) (by omega), pk_us]
        · exact ih.2 x (by omega) (by omega) h3
theorem zv_sur {th : Nat → Int32} : ∀ (k q : Nat), q < zl_c th k → ∃ x, x < k ∧ ¬ th x = 0 ∧ zl_c th x = q
  | 0, q, h => absurd h (Nat.not_lt_zero _)
  | k + 1, q, h => by
    by_cases e : th k = 0
    · rw [zl_c0 e] at h
      obtain ⟨x, h1, h2, h3⟩ := zv_sur k q h
      exact ⟨x, by omega, h2, h3⟩
    · rw [zl_c1 e] at h
      by_cases e2 : q = zl_c th k
      · exact ⟨k, by omega, e, e2.symm⟩
      · obtain ⟨x, h1, h2, h3⟩ := zv_sur (th := th) k q (by omega)
        exact ⟨x, by omega, h2, h3⟩
theorem zv_row {th va ks vs g : Nat → Int32} {p n : Nat} (hL : zl_L th va ks vs p n) : zs_c1 th 0 0 114 = n ∧ ∀ q, q < n → zs_g1 th va g 0 0 114 q = zs_mix (zs_mix (nI 1) (ks (p + q))) (vs (p + q)) := by
  have c := zv_c1 (th := th) 114 0
  have g1 := zv_g1 (th := th) (va := va) 114 0 g
  refine ⟨c.trans (by rw [Nat.zero_add]; exact hL.1.symm), fun q hq => ?_⟩
  rw [hL.1] at hq
  obtain ⟨x, h1, h2, h3⟩ := zv_sur 114 q hq
  have z := g1.2 x (Nat.zero_le _) (by omega) h2
  rw [h3] at z
  rw [show zl_c th 0 = 0 from rfl] at z
  have y := hL.2 x h1 h2
  rw [h3] at y
  rw [z, y.1, y.2]
  rfl
theorem zv_rt {th va ks vs g : Nat → Int32} {p n : Nat} (hL : zl_L th va ks vs p n) : zs_rt th va g = if n = 0 then nI 0 else zv_t (fun q => zs_mix (zs_mix (nI 1) (ks (p + q))) (vs (p + q))) n 7 0 := by
  have r := zv_row (g := g) hL
  have n114 : n ≤ 114 := by rw [hL.1]; exact zl_cle 114
  unfold zs_rt zs_rn
  rw [r.1]
  by_cases e : n = 0
  · rw [if_pos e, if_pos e]
  · rw [if_neg e, if_neg e, if_neg e]
    obtain ⟨l, hl, z⟩ := zv_g3 (n := n) (r := zs_g1 th va g 0 0 114) (by omega) n 0 (zs_g1 th va g 0 0 114) (by omega) (fun q _ => rfl)
    rw [Nat.pow_zero] at z
    rw [z, zv_cg r.2 l 0 (by omega)]
    exact zv_eq (by omega) (by omega)
/-! the binary counter -/
def zv_S (f : Nat → Int32) (n : Nat) (U : zs_T) : Nat → Nat → Prop
  | 0, m => m = 0
  | d + 1, m => ∃ m' k, m = m' + 2 ^ k ∧ (∃ q, m' = 2 ^ (k + 1) * q) ∧ U 25 d = nI (2 ^ k) ∧ U 24 d = zv_t f n k m' ∧ zv_S f n U d m'
theorem zv_Sc {f : Nat → Int32} {n : Nat} {U U' : zs_T} : ∀ (d m : Nat), (∀ x, x < d → U' 24 x = U 24 x ∧ U' 25 x = U 25 x) → zv_S f n U d m → zv_S f n U' d m
  | 0, _, _, h => h
  | d + 1, m, hx, ⟨m', k, h1, h2, h3, h4, h5⟩ => ⟨m', k, h1, h2, (hx d (by omega)).2.trans h3, (hx d (by omega)).1.trans h4, zv_Sc d m' (fun x hx' => hx x (by omega)) h5⟩
theorem zv_val {j k x q : Nat} (h : 2 ^ j * x = 2 ^ k * (2 * q + 1)) : j ≤ k := by
  apply Nat.le_of_not_lt
  intro z
  rw [show j = k + 1 + (j - (k + 1)) by omega, Nat.pow_add, Nat.pow_succ, Nat.mul_assoc, Nat.mul_assoc] at h
  have := Nat.eq_of_mul_eq_mul_left (zv_p k) h
  omega
theorem zv_inj {k l : Nat} (hk : 2 ^ k < 2 ^ 31) (hl : 2 ^ l < 2 ^ 31) (h : nI (2 ^ k) = nI (2 ^ l)) : k = l := (Nat.pow_right_inj (by decide)).mp ((nI_eq hk hl).mp h)
theorem zv_bd {f : Nat → Int32} {n : Nat} {U : zs_T} : ∀ (d m j K : Nat), zv_S f n U d m → (∃ x, m = 2 ^ j * x) → m < 2 ^ K → d = 0 ∨ d + j ≤ K
  | 0, _, _, _, _, _, _ => Or.inl rfl
  | d + 1, m, j, K, ⟨m', k, h1, ⟨q, h2⟩, _, _, h5⟩, ⟨x, hx⟩, hm => by
    have e : 2 ^ j * x = 2 ^ k * (2 * q + 1) := by
      rw [← hx, h1, h2, Nat.pow_succ, Nat.mul_add, Nat.mul_one, Nat.mul_assoc]
    have jk := zv_val e
    have pk := zv_p k
    have kK : k < K := by
      apply Nat.lt_of_not_le
      intro z
      have := zv_le z
      omega
    rcases zv_bd d m' (k + 1) K h5 ⟨q, h2⟩ (by omega) with z | z
    · exact Or.inr (by omega)
    · exact Or.inr (by omega)
theorem zv_jw {f : Nat → Int32} {n : Nat} (hn : n ≤ 114) : ∀ (d m' k : Nat) (U : zs_T), m' + 2 ^ k ≤ n → (∃ q, m' = 2 ^ k * q) → U 25 d = nI (2 ^ k) → U 24 d = zv_t f n k m' → zv_S f n U d m' → zv_S f n (zs_jw (d + 1) U).1 (zs_jw (d + 1) U).2 (m' + 2 ^ k)
  | 0, m', k, U, hm, hq, h3, h4, h5 => ⟨m', k, rfl, ⟨0, by rw [Nat.mul_zero]; exact h5⟩, h3, h4, h5⟩
  | d + 1, m', k, U, hm, ⟨q, hq⟩, h3, h4, h5 => by
    have h5' := h5
    obtain ⟨m1, k1, g1, ⟨q1, g2⟩, g3, g4, g5⟩ := h5
    have pk := zv_p k
    have pk1 := zv_p k1
    rw [zs_jw2, g3, h3]
    by_cases e : nI (2 ^ k1) = nI (2 ^ k)
    · rw [if_pos e]
      have ek : k1 = k := zv_inj (by omega) (by omega) e
      subst ek
      have r := zv_jw (f := f) hn d m1 (k1 + 1) (zs_jo U (d + 2)) (by rw [zv_2]; omega) ⟨q1, g2⟩ ?_ ?_ ?_
      · rw [zv_2, ← Nat.add_assoc, ← g1] at r
        exact r
      · unfold zs_jo
        rw [show d + 2 - 2 = d by omega, show d + 2 - 1 = d + 1 by omega, zs_ws, g3, h3, nI_add, zv_2]
      · unfold zs_jo
        rw [show d + 2 - 2 = d by omega, show d + 2 - 1 = d + 1 by omega, zs_wx (by decide), zs_ws, g4, h4, zv_s, if_neg (by omega), ← g1]
      · refine zv_Sc d m1 (fun x hx => ?_) g5
        unfold zs_jo
        rw [show d + 2 - 2 = d by omega, zs_wx (by decide), zs_wk (by omega), zs_wk (by omega), zs_wx (by decide)]
        exact ⟨rfl, rfl⟩
    · rw [if_neg e]
      have hv : 2 ^ k * q = 2 ^ k1 * (2 * q1 + 1) := by
        rw [← hq, g1, g2, Nat.pow_succ, Nat.mul_add, Nat.mul_one, Nat.mul_assoc]
      have kk := zv_val hv
      have kne : k ≠ k1 := fun z => e (by rw [z])
      refine ⟨m', k, rfl, ⟨2 ^ (k1 - (k + 1)) * (2 * q1 + 1), ?_⟩, h3, h4, h5'⟩
      rw [← Nat.mul_assoc, ← Nat.pow_add, show k + 1 + (k1 - (k + 1)) = k1 by omega, hq, hv]
theorem zv_q1k {U : zs_T} {d k x y : Nat} (h4 : x ≠ 24) (h5 : x ≠ 25) : zs_q1 U d k x y = U x y := by
  unfold zs_q1
  rw [zs_wx h5, zs_wx h4]
theorem zv_qa {T : zs_T} {p n : Nat} (hn : n ≤ 114) : ∀ (r m d : Nat) (U : zs_T), m + r ≤ n → (∀ y, U 5 y = T 5 y) → (∀ y, U 6 y = T 6 y) → zv_S (fun q => zs_mix (zs_mix (nI 1) (T 5 (p + q))) (T 6 (p + q))) n U d m → zv_S (fun q => zs_mix (zs_mix (nI 1) (T 5 (p + q))) (T 6 (p + q))) n (zs_qa U d (p + m) r).1 (zs_qa U d (p + m) r).2 (m + r)
  | 0, _, _, _, _, _, _, h => h
  | r + 1, m, d, U, hm, e5, e6, h => by
    rw [zs_qas]
    have st := zv_jw (f := fun q => zs_mix (zs_mix (nI 1) (T 5 (p + q))) (T 6 (p + q))) hn d m 0 (zs_q1 U d (p + m)) (by rw [Nat.pow_zero]; omega) ⟨m, by rw [Nat.pow_zero, Nat.one_mul]⟩ (by unfold zs_q1; exact zs_ws) (by unfold zs_q1; rw [zs_wx (by decide), zs_ws, e5, e6]; rfl) (zv_Sc d m (fun x hx => by unfold zs_q1; rw [zs_wx (by decide), zs_wk (by omega), zs_wk (by omega), zs_wx (by decide)]; exact ⟨rfl, rfl⟩) h)
    rw [Nat.pow_zero] at st
    have := zv_qa (T := T) (p := p) hn r (m + 1) _ _ (by omega) (fun y => by rw [zs_jwk _ _ _ _ (by decide) (by decide), zv_q1k (by decide) (by decide)]; exact e5 y) (fun y => by rw [zs_jwk _ _ _ _ (by decide) (by decide), zv_q1k (by decide) (by decide)]; exact e6 y) st
    rw [show m + (r + 1) = m + 1 + r by omega, show p + m + 1 = p + (m + 1) by omega]
    exact this
theorem zv_jf {f : Nat → Int32} {n : Nat} : ∀ (d m' k : Nat) (U : zs_T), m' < n → n ≤ m' + 2 ^ k → (∃ q, m' = 2 ^ k * q) → U 24 d = zv_t f n k m' → zv_S f n U d m' → ∃ l, n ≤ 2 ^ l ∧ zs_jf (d + 1) U 24 0 = zv_t f n l 0
  | 0, m', k, U, hm, hn, _, h4, h5 => by
    have e : m' = 0 := h5
    subst e
    exact ⟨k, by omega, h4⟩
  | d + 1, m', k, U, hm, hn, ⟨q, hq⟩, h4, h5 => by
    obtain ⟨m1, k1, g1, ⟨q1, g2⟩, g3, g4, g5⟩ := h5
    have pk1 := zv_p k1
    have hv : 2 ^ k * q = 2 ^ k1 * (2 * q1 + 1) := by
      rw [← hq, g1, g2, Nat.pow_succ, Nat.mul_add, Nat.mul_one, Nat.mul_assoc]
    have kk := zv_le (zv_val hv)
    rw [zs_jf2]
    refine zv_jf d m1 (k1 + 1) (zs_jo U (d + 2)) (by omega) (by rw [zv_2]; omega) ⟨q1, g2⟩ ?_ ?_
    · unfold zs_jo
      rw [show d + 2 - 2 = d by omega, show d + 2 - 1 = d + 1 by omega, zs_wx (by decide), zs_ws, g4, h4, zv_s, if_neg (by omega), ← g1, zv_eq hn (show n ≤ m' + 2 ^ k1 by omega)]
    · refine zv_Sc d m1 (fun x hx => ?_) g5
      unfold zs_jo
      rw [show d + 2 - 2 = d by omega, zs_wx (by decide), zs_wk (by omega), zs_wk (by omega), zs_wx (by decide)]
      exact ⟨rfl, rfl⟩
theorem zv_jfk : ∀ (n : Nat) (T : zs_T) (x k : Nat), x ≠ 24 → x ≠ 25 → zs_jf n T x k = T x k
  | 0, _, _, _, _, _ => rfl
  | 1, _, _, _, _, _ => rfl
  | n + 2, T, x, k, h4, h5 => by
    rw [zs_jf2, zv_jfk (n + 1) _ x k h4 h5]
    unfold zs_jo
    rw [zs_wx h5, zs_wx h4]
theorem zv_qak : ∀ (r d k : Nat) (T : zs_T) (x y : Nat), x ≠ 24 → x ≠ 25 → (zs_qa T d k r).1 x y = T x y
  | 0, _, _, _, _, _, _, _ => rfl
  | r + 1, d, k, T, x, y, h4, h5 => by
    rw [zs_qas, zv_qak r _ _ _ x y h4 h5, zs_jwk _ _ _ _ h4 h5, zv_q1k h4 h5]
theorem zl_qbound {N : Nat} {S : zs_S} {T : zs_T} (h : zl_R N S T) : ∀ a r, a < 16 → r < zs_n (T 4 a) → (zs_qa T 0 (128 * a) r).2 < 16 := by
  intro a r ha hr
  have L := h.2.2.1 (a / 8) (a % 8) (by omega) (by omega)
  rw [show 8 * (a / 8) + a % 8 = a by omega] at L
  have n114 : zs_n (T 4 a) ≤ 114 := by rw [L.1]; exact zl_cle 114
  have z := zv_qa (T := T) (p := 128 * a) n114 r 0 0 T (by omega) (fun _ => rfl) (fun _ => rfl) rfl
  rw [Nat.add_zero, Nat.zero_add] at z
  rcases zv_bd _ _ 0 7 z ⟨r, by rw [Nat.pow_zero, Nat.one_mul]⟩ (by omega) with q | q
  · omega
  · omega
theorem zl_mrp {N : Nat} {S : zs_S} {T : zs_T} {i b : Nat} {g : Nat → Int32} (h : zl_R N S T) (hi : i < 2) (hb : b < 8) : zs_rt (S 5 i (b + 1)) (S 4 i (b + 1)) g = if (zs_mrp T (8 * i + b)).2 = 0 then nI 0 else zs_jf (zs_mrp T (8 * i + b)).2 (zs_mrp T (8 * i + b)).1 24 0 := by
  have L := h.2.2.1 i b hi hb
  have n114 : zs_n (T 4 (8 * i + b)) ≤ 114 := by rw [L.1]; exact zl_cle 114
  have z := zv_qa (T := T) (p := 128 * (8 * i + b)) n114 (zs_n (T 4 (8 * i + b))) 0 0 T (by omega) (fun _ => rfl) (fun _ => rfl) rfl
  rw [Nat.add_zero, Nat.zero_add] at z
  rw [zv_rt L]
  unfold zs_mrp
  generalize zs_qa T 0 (128 * (8 * i + b)) (zs_n (T 4 (8 * i + b))) = Q at z ⊢
  obtain ⟨U, d⟩ := Q
  generalize zs_n (T 4 (8 * i + b)) = n at z n114 ⊢
  cases d with
  | zero =>
    have e : n = 0 := z
    rw [if_pos e, if_pos rfl]
  | succ d =>
    obtain ⟨m', k, h1, ⟨q, h2⟩, h3, h4, h5⟩ := z
    have pk := zv_p k
    rw [if_neg (by omega), if_neg (Nat.succ_ne_zero d)]
    obtain ⟨l, hl, e⟩ := zv_jf d m' k U (by omega) (by omega) ⟨2 * q, by rw [h2, Nat.pow_succ, Nat.mul_assoc]⟩ h4 h5
    rw [e]
    exact zv_eq (by omega) (by omega)
theorem zl_root {N : Nat} {S : zs_S} {T : zs_T} {i : Nat} {x : Int32} (h : zl_R N S T) (hi : i < 2) : zs_ra S i x = zs_mr T i x ∧ zl_R N (zs_rs S i x) (zs_ms T i x) := by
  constructor
  · unfold zs_ra zs_mr
    rw [zl_iff (zl_km h hi)]
    by_cases e : zs_mk T i x
    · rw [if_pos e, if_pos e]
      exact zl_mrp h hi (by omega)
    · rw [if_neg e, if_neg e]
  · refine zl_same h (fun t ht => ?_) (fun y hy => ?_)
    · funext a b c
      unfold zs_rs
      by_cases e : zs_kp S i x
      · rw [if_pos e, zs_ndt ht]
      · rw [if_neg e]
    · funext k
      unfold zs_ms
      by_cases e : zs_mk T i x
      · rw [if_pos e, zv_jfk _ _ _ _ (by omega) (by omega)]
        exact zv_qak _ _ _ _ _ _ (by omega) (by omega)
      · rw [if_neg e]
