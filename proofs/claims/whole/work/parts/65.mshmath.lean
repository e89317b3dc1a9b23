/-! SHARES: dropping those who do not count -/
section SHMATH
variable (Δ : Nat → Int) (p : Nat) (oth : Nat → Bool)
def zMr : Nat → Nat → Nat → Nat → Int
  | 0, s, a, b => zfN a * zfN b * Δ s
  | k + 1, s, a, b => if k = p then zMr k s a b else zMr k s a (b + 1) + zMr k (s + 2 ^ k) (a + 1) b
def zCr : Nat → Nat → Nat → Nat → Int
  | 0, s, a, b => zfN a * zfN b * Δ s
  | k + 1, s, a, b => if oth k = true then zCr k s a (b + 1) + zCr k (s + 2 ^ k) (a + 1) b else zCr k s a b
def zrk : Nat → Nat
  | 0 => 0
  | k + 1 => if k = p then zrk k else zrk k + 1
def zok : Nat → Nat
  | 0 => 0
  | k + 1 => if oth k = true then zok k + 1 else zok k
theorem zCr_1 : ∀ (k s a b : Nat), zCr Δ oth k s a (b + 1) + zCr Δ oth k s (a + 1) b = ((a + b + zok oth k + 2 : Nat) : Int) * zCr Δ oth k s a b
  | 0, s, a, b => by
    show zfN a * (zfN b * ((b + 1 : Nat) : Int)) * Δ s + zfN a * ((a + 1 : Nat) : Int) * zfN b * Δ s = ((a + b + 0 + 2 : Nat) : Int) * (zfN a * zfN b * Δ s)
    have : ((a + b + 0 + 2 : Nat) : Int) = ((b + 1 : Nat) : Int) + ((a + 1 : Nat) : Int) := by omega
    rw [this]
    generalize ((b + 1 : Nat) : Int) = x
    generalize ((a + 1 : Nat) : Int) = y
    generalize zfN a = u
    generalize zfN b = v
    grind
  | k + 1, s, a, b => by
    unfold zCr zok
    by_cases e : oth k = true
    · rw [if_pos e, if_pos e, if_pos e, if_pos e]
      have h1 := zCr_1 k s a (b + 1)
      have h2 := zCr_1 k (s + 2 ^ k) (a + 1) b
      have e1 : ((a + b + (zok oth k + 1) + 2 : Nat) : Int) = ((a + (b + 1) + zok oth k + 2 : Nat) : Int) := by omega
      have e2 : ((a + 1 + b + zok oth k + 2 : Nat) : Int) = ((a + (b + 1) + zok oth k + 2 : Nat) : Int) := by omega
      rw [e1, Int.mul_add]
      rw [e2] at h2
      omega
    · rw [if_neg e, if_neg e, if_neg e, if_neg e]
      exact zCr_1 k s a b
variable {Δ p oth}
theorem zMr_cg : ∀ (k s s' a b : Nat), (∀ t, t < 2 ^ k → Δ (s + t) = Δ (s' + t)) → zMr Δ p k s a b = zMr Δ p k s' a b
  | 0, s, s', a, b, h => by
    have := h 0 (by simp)
    unfold zMr
    rw [Nat.add_zero, Nat.add_zero] at this
    rw [this]
  | k + 1, s, s', a, b, h => by
    have hp : 2 ^ (k + 1) = 2 ^ k + 2 ^ k := by rw [Nat.pow_succ]; omega
    have h1 : ∀ t, t < 2 ^ k → Δ (s + t) = Δ (s' + t) := fun t ht => h t (by omega)
    have h2 : ∀ t, t < 2 ^ k → Δ (s + 2 ^ k + t) = Δ (s' + 2 ^ k + t) := fun t ht => by
      have := h (2 ^ k + t) (by omega)
      rw [Nat.add_assoc, Nat.add_assoc]; exact this
    unfold zMr
    rw [zMr_cg k s s' a b h1, zMr_cg k s s' a (b + 1) h1, zMr_cg k _ _ (a + 1) b h2]
/-- those who do not count change nothing: over k people, n of them left out -/
theorem zMC_eq {n : Nat} (hop : oth p = false) (hd : ∀ k, k < n → k ≠ p → oth k = false → ∀ s, s % 2 ^ (k + 1) = 0 → s + 2 ^ (k + 1) ≤ 256 → ∀ t, t < 2 ^ k → Δ (s + 2 ^ k + t) = Δ (s + t)) : ∀ (k s a b : Nat), k ≤ n → s % 2 ^ k = 0 → s + 2 ^ k ≤ 256 → zMr Δ p k s a b * zfN (a + b + zok oth k + 1) = zCr Δ oth k s a b * zfN (a + b + zrk p k + 1)
  | 0, s, a, b, _, _, _ => rfl
  | k + 1, s, a, b, hk, hs, hsb => by
    have hpp : 2 ^ (k + 1) = 2 ^ k + 2 ^ k := by rw [Nat.pow_succ]; omega
    have hs0 : s % 2 ^ k = 0 := by
      have : 2 ^ k ∣ s := Nat.dvd_trans ⟨2, by rw [Nat.pow_succ]⟩ (Nat.dvd_of_mod_eq_zero hs)
      exact Nat.mod_eq_zero_of_dvd this
    have hs1 : (s + 2 ^ k) % 2 ^ k = 0 := by rw [Nat.add_mod_right]; exact hs0
    have ih := fun s a b h g => zMC_eq hop hd k s a b (by omega) h g
    by_cases ep : k = p
    · subst ep
      have h1 := ih s a b hs0 (by omega)
      unfold zMr zCr zok zrk
      rw [if_pos rfl, if_pos rfl, if_neg (by rw [hop]; decide), if_neg (by rw [hop]; decide)]
      exact h1
    · by_cases eo : oth k = true
      · have h1 := ih s a (b + 1) hs0 (by omega)
        have h2 := ih (s + 2 ^ k) (a + 1) b hs1 (by omega)
        unfold zMr zCr zok zrk
        rw [if_neg ep, if_neg ep, if_pos eo, if_pos eo, Int.add_mul, Int.add_mul]
        rw [show a + (b + 1) + zok oth k + 1 = a + b + (zok oth k + 1) + 1 by omega, show a + (b + 1) + zrk p k + 1 = a + b + (zrk p k + 1) + 1 by omega] at h1
        rw [show a + 1 + b + zok oth k + 1 = a + b + (zok oth k + 1) + 1 by omega, show a + 1 + b + zrk p k + 1 = a + b + (zrk p k + 1) + 1 by omega] at h2
        rw [h1, h2]
      · have eo' : oth k = false := by simpa using eo
        have hcg := zMr_cg (Δ := Δ) (p := p) k (s + 2 ^ k) s (a + 1) b (hd k (by omega) ep eo' s hs hsb)
        have h1 := ih s a (b + 1) hs0 (by omega)
        have h2 := ih s (a + 1) b hs0 (by omega)
        have hc := zCr_1 Δ oth k s a b
        unfold zMr zCr zok zrk
        rw [if_neg ep, if_neg ep, if_neg eo, if_neg eo, hcg]
        rw [show a + (b + 1) + zok oth k + 1 = a + b + zok oth k + 1 + 1 by omega, show a + (b + 1) + zrk p k + 1 = a + b + (zrk p k + 1) + 1 by omega] at h1
        rw [show a + 1 + b + zok oth k + 1 = a + b + zok oth k + 1 + 1 by omega, show a + 1 + b + zrk p k + 1 = a + b + (zrk p k + 1) + 1 by omega] at h2
        have ef : zfN (a + b + zok oth k + 1 + 1) = zfN (a + b + zok oth k + 1) * ((a + b + zok oth k + 2 : Nat) : Int) := rfl
        rw [ef] at h1 h2
        have hpos : ((a + b + zok oth k + 2 : Nat) : Int) ≠ 0 := by omega
        generalize zfN (a + b + zok oth k + 1) = f at h1 h2 ⊢
        generalize zfN (a + b + (zrk p k + 1) + 1) = g at h1 h2 ⊢
        generalize ((a + b + zok oth k + 2 : Nat) : Int) = c at h1 h2 hc hpos
        generalize zMr Δ p k s a (b + 1) = m1 at h1 ⊢
        generalize zMr Δ p k s (a + 1) b = m2 at h2 ⊢
        generalize zCr Δ oth k s a (b + 1) = c1 at h1 hc
        generalize zCr Δ oth k s (a + 1) b = c2 at h2 hc
        generalize zCr Δ oth k s a b = c0 at hc ⊢
        refine Int.eq_of_mul_eq_mul_left hpos ?_
        have e1 : c * ((m1 + m2) * f) = m1 * (f * c) + m2 * (f * c) := by grind
        rw [e1, h1, h2, ← Int.add_mul, hc]
        grind
end SHMATH
/-- sums -/
def zsm (f : Nat → Int) : Nat → Int
  | 0 => 0
  | n + 1 => zsm f n + f n
theorem zsm_add (f : Nat → Int) (a : Nat) : ∀ b : Nat, zsm f (a + b) = zsm f a + zsm (fun i => f (a + i)) b
  | 0 => by show zsm f a = zsm f a + 0; omega
  | b + 1 => by
    show zsm f (a + b) + f (a + b) = zsm f a + (zsm (fun i => f (a + i)) b + f (a + b))
    rw [zsm_add f a b]; omega
theorem zsm_cg {f g : Nat → Int} : ∀ {n : Nat}, (∀ i, i < n → f i = g i) → zsm f n = zsm g n
  | 0, _ => rfl
  | n + 1, h => by unfold zsm; rw [zsm_cg (fun i hi => h i (by omega)), h n (by omega)]
theorem zsm_0 {f : Nat → Int} : ∀ {n : Nat}, (∀ i, i < n → f i = 0) → zsm f n = 0
  | 0, _ => rfl
  | n + 1, h => by unfold zsm; rw [zsm_0 (fun i hi => h i (by omega)), h n (by omega)]; rfl
theorem zsm_2 (f : Nat → Int) (k s : Nat) : zsm (fun i => f (s + i)) (2 ^ (k + 1)) = zsm (fun i => f (s + i)) (2 ^ k) + zsm (fun i => f (s + 2 ^ k + i)) (2 ^ k) := by
  rw [show 2 ^ (k + 1) = 2 ^ k + 2 ^ k by rw [Nat.pow_succ]; omega, zsm_add]
  congr 1
  exact zsm_cg (fun i _ => by rw [Nat.add_assoc])
theorem zsm_b {f : Nat → Int} {c : Int} : ∀ {n : Nat}, (∀ i, i < n → 0 ≤ f i ∧ f i ≤ c) → 0 ≤ zsm f n ∧ zsm f n ≤ c * n
  | 0, _ => by show (0 : Int) ≤ 0 ∧ (0 : Int) ≤ c * 0; omega
  | n + 1, h => by
    have h1 := zsm_b (fun i hi => h i (by omega)) (f := f) (c := c) (n := n)
    have h2 := h n (by omega)
    unfold zsm
    rw [Int.natCast_succ, Int.mul_add]
    omega
