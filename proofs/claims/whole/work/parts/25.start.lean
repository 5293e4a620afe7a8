/-! the beginning -/
theorem zl_th0 {th : Nat → Int32} (h : ∀ x, th x = 0) : ∀ k, zl_c th k = 0
  | 0 => rfl
  | k + 1 => by rw [zl_c0 (h k)]; exact zl_th0 h k
theorem zl_start {x : Int32} : zl_R 0 (zs_0 x) (zt_0 x) := by
  have c0 : ∀ k, zs_n (zt_0 x 4 k) = 0 := fun k => rfl
  have n0 : ∀ k, zs_n (zt_0 x 9 k) = 0 := fun k => rfl
  have up6 : ∀ e, e < 6 → zt_0 x 10 e = nI 1 ∧ zt_0 x 11 e = nI 1 := fun e he => by
    match e, he with
    | 0, _ => exact ⟨rfl, rfl⟩
    | 1, _ => exact ⟨rfl, rfl⟩
    | 2, _ => exact ⟨rfl, rfl⟩
    | 3, _ => exact ⟨rfl, rfl⟩
    | 4, _ => exact ⟨rfl, rfl⟩
    | 5, _ => exact ⟨rfl, rfl⟩
  refine ⟨⟨fun q => ⟨rfl, by rw [c0]; omega⟩, fun i _ => ⟨rfl, show zs_n 0 ≤ 5 by decide⟩, fun e _ => ⟨rfl, show zs_n 0 ≤ 12 by decide⟩, fun q _ => ⟨⟨rfl, show zs_n 0 < 6 by decide⟩, ⟨rfl, show zs_n 0 < 16 by decide⟩, rfl, show zs_n 0 ≤ 6 by decide⟩, fun i _ => ⟨rfl, show zs_n 0 ≤ 512 by decide⟩, fun k _ => ⟨rfl, show zs_n 0 < 6 by decide⟩⟩, fun _ _ _ => Or.inl rfl, fun i a _ _ => ⟨?_, fun y _ hy => absurd rfl hy⟩, fun i a c j _ _ _ _ h => absurd rfl h, fun i c _ _ => ⟨rfl, rfl⟩, fun i c _ _ => ⟨rfl, rfl⟩, fun i c j _ _ _ => ?_, fun i c j _ _ _ => ⟨rfl, rfl⟩, fun i c j _ _ _ => ⟨rfl, rfl⟩, fun i c j _ _ _ => ⟨rfl, rfl, show (0 : Int32) = nI (zs_n 0 / 4) by decide, show (0 : Int32) = nI (zs_n 0 % 4) by decide, rfl, rfl, rfl⟩, ⟨rfl, fun i _ => ⟨rfl, rfl, rfl⟩, fun i c hi hc => ⟨rfl, ?_⟩, fun i k _ _ => ⟨rfl, rfl⟩⟩, ⟨fun i q _ _ => rfl, fun i q _ _ _ => rfl⟩, ⟨fun i u k hi hu hk => ?_, fun i c k _ _ _ => rfl⟩, fun e he => ⟨⟨0, by decide, rfl⟩, Or.inl rfl, fun _ => rfl, ⟨1, by decide, by decide, (up6 e he).1⟩, fun _ => (up6 e he).1, fun _ => (up6 e he).1⟩, fun i c j _ _ _ => ⟨Or.inl rfl, fun _ => rfl⟩, fun i c j _ _ _ => ⟨Nat.le_refl _, fun q => absurd q (by rw [n0]; omega), fun _ => rfl⟩, fun i k hi hk hv => ⟨fun u hu => ?_, fun c _ => rfl⟩, fun i _ => Nat.le_refl _⟩
  · rw [c0]
    exact (zl_th0 (fun _ => rfl) 114).symm
  · rw [if_neg (fun q => absurd q.1 (by rw [n0]; omega)), if_neg (fun q => absurd q.1 (by rw [n0]; omega))]
    exact ⟨rfl, rfl⟩
  · rw [(up6 (3 * i + c) (by omega)).2]
    rfl
  · have key : ∀ i, i < 2 → ∀ u, u < 4 → ∀ k, k < 6 → upd (fun _ => (0 : Int32)) 0 (nI 1000) k = upd (upd (upd (upd (upd (upd (upd (upd (fun _ => (0 : Int32)) 0 (nI 1000)) 6 (nI 1000)) 12 (nI 1000)) 18 (nI 1000)) 24 (nI 1000)) 30 (nI 1000)) 36 (nI 1000)) 42 (nI 1000) (24 * i + 6 * u + k) := by decide +kernel
    exact key i hi u hu k hk
  · have hk0 : 0 < k := Nat.lt_of_le_of_lt (Nat.zero_le _) hv
    have key : ∀ i, i < 2 → ∀ u, u < 4 → ∀ k, k < 6 → 0 < k → upd (upd (upd (upd (upd (upd (upd (upd (fun _ => (0 : Int32)) 0 (nI 1000)) 6 (nI 1000)) 12 (nI 1000)) 18 (nI 1000)) 24 (nI 1000)) 30 (nI 1000)) 36 (nI 1000)) 42 (nI 1000) (24 * i + 6 * u + k) = 0 := by decide +kernel
    exact key i hi u hu k hk hk0
