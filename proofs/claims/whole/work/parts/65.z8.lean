/-! bits of small numbers -/
theorem z8_up : ∀ s : Nat, s < 256 → ∀ k : Nat, k < 8 → s % 2 ^ (k + 1) = 0 → s + 2 ^ k < 256 ∧ zones ((s + 2 ^ k : Nat) : Int) 8 = zones (s : Int) 8 + 1 ∧ ∀ j : Nat, j < 8 → zkb ((s + 2 ^ k : Nat) : Int) j = (zkb (s : Int) j || decide (j = k)) := by decide +kernel
theorem z8_bit : ∀ u : Nat, u < 256 → ∀ k : Nat, k < 8 → zkb (u : Int) k = false → u + 2 ^ k < 256 ∧ ∀ j : Nat, j < 8 → zkb ((u + 2 ^ k : Nat) : Int) j = (zkb (u : Int) j || decide (j = k)) := by decide +kernel
theorem z8_div : ∀ u : Nat, u < 256 → ∀ k : Nat, k < 8 → zkb (u : Int) k = decide (u / 2 ^ k % 2 = 1) := by decide +kernel
theorem z8_clr (s : Nat) (hs : s < 256) (k : Nat) (hk : k < 8) (hm : s % 2 ^ (k + 1) = 0) (i : Nat) (hi : i < 2 ^ k) : s + i < 256 ∧ zkb ((s + i : Nat) : Int) k = false := by
  obtain ⟨q, hq⟩ := Nat.dvd_of_mod_eq_zero hm
  have hp : 0 < 2 ^ k := Nat.pow_pos (by omega)
  have e : s = 2 ^ k * (2 * q) := by rw [hq, Nat.pow_succ, Nat.mul_assoc]
  have e2 : (s + i) / 2 ^ k = 2 * q := by rw [e, Nat.mul_add_div hp, Nat.div_eq_of_lt hi, Nat.add_zero]
  have hlt : s + i < 256 := by
    have h8 : 2 ^ (8 - k) * 2 ^ k = 256 := by rw [← Nat.pow_add, show 8 - k + k = 8 by omega]
    have h1 : 2 * q < 2 ^ (8 - k) := by
      refine Nat.lt_of_mul_lt_mul_left (a := 2 ^ k) ?_
      rw [← e, Nat.mul_comm, h8]; exact hs
    have h2 : (2 * q + 1) * 2 ^ k ≤ 2 ^ (8 - k) * 2 ^ k := Nat.mul_le_mul_right _ h1
    rw [h8, Nat.add_mul, Nat.one_mul, Nat.mul_comm (2 * q), ← e] at h2
    omega
  refine ⟨hlt, ?_⟩
  rw [z8_div _ hlt k hk, e2]
  exact decide_eq_false (by omega)
theorem z8_in (s : Nat) (hs : s < 256) (k : Nat) (hk : k < 8) (hm : s % 2 ^ (k + 1) = 0) (i : Nat) (hi : i < 2 ^ k) : zkb ((s + 2 ^ k + i : Nat) : Int) k = true ∧ s + 2 ^ k + i < 256 ∧ zkb ((s + i : Nat) : Int) k = false ∧ ∀ j : Nat, j < 8 → zkb ((s + 2 ^ k + i : Nat) : Int) j = (zkb ((s + i : Nat) : Int) j || decide (j = k)) := by
  have h7 : 2 ^ k ≤ 2 ^ 7 := Nat.pow_le_pow_right (by omega) (by omega)
  obtain ⟨c1, c2⟩ := z8_clr s hs k hk hm i hi
  obtain ⟨b1, b2⟩ := z8_bit (s + i) c1 k hk c2
  rw [show s + i + 2 ^ k = s + 2 ^ k + i by omega] at b1 b2
  refine ⟨?_, b1, c2, b2⟩
  rw [b2 k hk]; simp
theorem z8_hi : ∀ k : Nat, k < 256 → ∀ i : Nat, i < 32 → 8 ≤ i → zt k i = false := by decide +kernel
theorem z8_le : ∀ n : Nat, n < 256 → ∀ k : Nat, k < 256 → zand k (zxor n (-1)) = 0 → k ≤ n := by decide +kernel
theorem z8_n0 : ∀ s : Nat, s < 256 → 0 ≤ zones (s : Int) 8 ∧ zones (s : Int) 8 ≤ 8 := by decide +kernel
