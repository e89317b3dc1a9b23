/-! BEST: plans by number -/
def zAN (D G : Int → Int) (N : Nat) : Nat → Nat → (Int → Int) → Int → (Int → Int) → Int → Int → Prop
  | 0, _, _, _, _, x, r => r = x
  | j + 1, left, V, w, OD, x, r => ∃ p : Nat, 1 ≤ p ∧ p ≤ N ∧ zkb w p = false ∧ zcu w p = left % (j + 1) + 1 ∧ zAN D G N j (left / (j + 1) / (N - j)) (ztV V D G (OD ((left / (j + 1) % (N - j) : Nat) : Int)) p) (zor w (zshl 1 p)) (zst OD ((N - j : Nat) : Int) p) (max x (V (OD ((left / (j + 1) % (N - j) : Nat) : Int)))) r
def zal (N : Nat) : Nat → Nat
  | 0 => 1
  | j + 1 => (j + 1) * ((N - j) * zal N j)
/-- k have been told: who knows stands in the order -/
def zVd (N k : Nat) (w : Int) (OD : Int → Int) : Prop := zkb w 0 = true ∧ (∀ i : Nat, i ≤ k → 0 ≤ OD i ∧ OD i ≤ N ∧ zkb w (OD i) = true) ∧ (∀ p : Int, 0 ≤ p → p ≤ N → zkb w p = true → ∃ i : Nat, i ≤ k ∧ OD i = p) ∧ zcu w N + k = N
section BESTN
variable {D G : Int → Int} {N : Nat}
theorem zVd.nx {k : Nat} {w : Int} {OD : Int → Int} (h : zVd N k w OD) (hN : N ≤ 7) {p : Nat} (hp : 1 ≤ p ∧ p ≤ N) (hk : zkb w p = false) : zVd N (k + 1) (zor w (zshl 1 p)) (zst OD ((k + 1 : Nat) : Int) p) := by
  obtain ⟨a, b, c, e⟩ := h
  have hcu := zcu_or (w := w) (p := p) (by omega) hk N (by omega)
  rw [if_pos hp.2] at hcu
  refine ⟨(zkb_orT (by omega) (by omega)).mpr (Or.inl a), fun i hi => ?_, fun q q0 q1 hq => ?_, by omega⟩
  · by_cases ei : i = k + 1
    · subst ei; rw [zst_same]
      exact ⟨by omega, by omega, (zkb_orT (by omega) (by omega)).mpr (Or.inr rfl)⟩
    · rw [zst_ne _ _ (by omega)]
      have := b i (by omega)
      exact ⟨this.1, this.2.1, (zkb_orT (by omega) (by omega)).mpr (Or.inl this.2.2)⟩
  · rcases (zkb_orT (by omega) (by omega)).mp hq with h1 | h1
    · obtain ⟨i, hi, ei⟩ := c q q0 q1 h1
      exact ⟨i, by omega, by rw [zst_ne _ _ (by omega)]; exact ei⟩
    · exact ⟨k + 1, by omega, by rw [zst_same]; exact h1.symm⟩
theorem zcu_at {w : Int} {p : Nat} (hp : 1 ≤ p) (hk : zkb w p = false) : zcu w p = zcu w (p - 1) + 1 := by
  obtain ⟨i, rfl⟩ : ∃ i, p = i + 1 := ⟨p - 1, by omega⟩
  show zcu w i + _ = _
  rw [if_neg (by rw [hk]; decide)]; rfl
theorem zcu_inj {w : Int} {p q : Nat} (hp : 1 ≤ p) (hq : 1 ≤ q) (kp : zkb w p = false) (kq : zkb w q = false) (h : zcu w p = zcu w q) : p = q := by
  have h1 := zcu_at hp kp
  have h2 := zcu_at hq kq
  rcases Nat.lt_trichotomy p q with e | e | e
  · have := zcu_mono (w := w) (show p ≤ q - 1 by omega); omega
  · exact e
  · have := zcu_mono (w := w) (show q ≤ p - 1 by omega); omega
theorem zAN_u : ∀ (j : Nat) {left : Nat} {V : Int → Int} {w : Int} {OD : Int → Int} {x r r' : Int}, zAN D G N j left V w OD x r → zAN D G N j left V w OD x r' → r = r'
  | 0, left, V, w, OD, x, r, r', h, h' => by
    have h : r = x := h
    have h' : r' = x := h'
    omega
  | j + 1, left, V, w, OD, x, r, r', h, h' => by
    obtain ⟨p, p1, p2, p3, p4, p5⟩ := h
    obtain ⟨q, q1, q2, q3, q4, q5⟩ := h'
    have e := zcu_inj p1 q1 p3 q3 (p4.trans q4.symm)
    subst e
    exact zAN_u j p5 q5
theorem zAN_Ac (hN : N ≤ 7) : ∀ (j : Nat) {k left : Nat} {V : Int → Int} {w : Int} {OD : Int → Int} {x r : Int}, zVd N k w OD → k + j = N → zAN D G N j left V w OD x r → zAc D G N j V w x r
  | 0, k, left, V, w, OD, x, r, _, _, h => h
  | j + 1, k, left, V, w, OD, x, r, hv, hk, h => by
    obtain ⟨p, p1, p2, p3, p4, p5⟩ := h
    have hb : left / (j + 1) % (N - j) < N - j := Nat.mod_lt _ (by omega)
    have ht := hv.2.1 (left / (j + 1) % (N - j)) (by omega)
    generalize OD ((left / (j + 1) % (N - j) : Nat) : Int) = t at ht p5
    obtain ⟨t, rfl⟩ : ∃ q : Nat, t = (q : Int) := ⟨t.toNat, by omega⟩
    have hv2 := hv.nx hN ⟨p1, p2⟩ p3
    rw [show k + 1 = N - j by omega] at hv2
    exact ⟨t, p, by omega, ht.2.2, p1, p2, p3, zAN_Ac hN j hv2 (by omega) p5⟩
theorem zAc_AN (hN : N ≤ 7) : ∀ (j : Nat) {k : Nat} {V : Int → Int} {w : Int} {OD : Int → Int} {x r : Int}, zVd N k w OD → k + j = N → zAc D G N j V w x r → ∃ left : Nat, left < zal N j ∧ zAN D G N j left V w OD x r
  | 0, k, V, w, OD, x, r, _, _, h => ⟨0, by show 0 < 1; omega, h⟩
  | j + 1, k, V, w, OD, x, r, hv, hk, h => by
    obtain ⟨t, p, t1, t2, p1, p2, p3, h⟩ := h
    obtain ⟨b, hb, eb⟩ := hv.2.2.1 t (by omega) (by omega) t2
    have hv2 := hv.nx hN ⟨p1, p2⟩ p3
    rw [show k + 1 = N - j by omega] at hv2
    obtain ⟨l2, h1, h2⟩ := zAc_AN hN j hv2 (by omega) h
    have c1 := zcu_at p1 p3
    have c2 := zcu_mono (w := w) p2
    have c3 := hv.2.2.2
    have e1 : (zcu w p - 1 + (j + 1) * (b + (N - j) * l2)) % (j + 1) = zcu w p - 1 := by
      rw [Nat.add_mul_mod_self_left, Nat.mod_eq_of_lt (by omega)]
    have e2 : (zcu w p - 1 + (j + 1) * (b + (N - j) * l2)) / (j + 1) = b + (N - j) * l2 := by
      rw [Nat.add_mul_div_left _ _ (by omega), Nat.div_eq_of_lt (by omega), Nat.zero_add]
    have e3 : (b + (N - j) * l2) % (N - j) = b := by
      rw [Nat.add_mul_mod_self_left, Nat.mod_eq_of_lt (by omega)]
    have e4 : (b + (N - j) * l2) / (N - j) = l2 := by
      rw [Nat.add_mul_div_left _ _ (by omega), Nat.div_eq_of_lt (by omega), Nat.zero_add]
    refine ⟨zcu w p - 1 + (j + 1) * (b + (N - j) * l2), ?_, p, p1, p2, p3, by rw [e1]; omega, ?_⟩
    · have m1 : (N - j) * (l2 + 1) ≤ (N - j) * zal N j := Nat.mul_le_mul_left _ h1
      rw [Nat.mul_add, Nat.mul_one] at m1
      have m2 : (j + 1) * (b + (N - j) * l2 + 1) ≤ (j + 1) * ((N - j) * zal N j) := Nat.mul_le_mul_left _ (by omega)
      rw [Nat.mul_add, Nat.mul_one] at m2
      show _ < (j + 1) * ((N - j) * zal N j)
      omega
    · rw [e2, e3, e4, eb]
      exact h2
theorem zVd_0 (hN : N ≤ 7) : zVd N 0 1 (fun _ => 0) := by
  have h1 : ∀ p : Int, 0 ≤ p → p ≤ N → (zkb 1 p = true ↔ p = 0) := fun p a b => by rw [zkb_1 (by omega)]; simp
  refine ⟨(h1 0 (by omega) (by omega)).mpr rfl, fun i _ => ⟨Int.le_refl 0, by show (0 : Int) ≤ N; omega, (h1 0 (by omega) (by omega)).mpr rfl⟩, fun p p0 p1 hp => ⟨0, by omega, ((h1 p p0 p1).mp hp).symm⟩, ?_⟩
  have : ∀ i : Nat, i ≤ 7 → zcu 1 i = i := by
    intro i
    induction i with
    | zero => intro _; rfl
    | succ i ih =>
      intro hi
      show zcu 1 i + _ = _
      rw [ih (by omega), if_neg (by rw [zkb_1 (by omega)]; simp; omega)]
  rw [this N hN, Nat.add_zero]
/-- BEST is the least of all plans by number -/
theorem zBEST_eq {E P : Int → Int} (hO : zOK 9 N D G E P) {m : Int} (hm : ∃ n : Nat, zAN D G N N n (fun _ => D 0) 1 (fun _ => 0) 0 m) (hm2 : ∀ (n : Nat) (r : Int), n < zal N N → zAN D G N N n (fun _ => D 0) 1 (fun _ => 0) 0 r → m ≤ r) (hm3 : m ≤ 1000) : m = zBEST D G N := by
  have hN := hO.1
  have hd : ∀ p : Int, 0 ≤ p → p ≤ N → 0 ≤ D p ∧ 0 ≤ G p := fun p a b => by have := hO.2.1 p a b; omega
  obtain ⟨n, hn⟩ := hm
  have hac := zAN_Ac hN N (zVd_0 hN) (by omega) hn
  unfold zBEST
  by_cases e : N = 0
  · subst e
    rw [if_pos rfl]
    exact hn
  · rw [if_neg e]
    obtain ⟨l, rfl⟩ : ∃ l, N = l + 1 := ⟨N - 1, by omega⟩
    have h0 : zkb 1 0 = true := (zVd_0 hN).1
    obtain ⟨s1, s2, s3⟩ := zLL_spec hN hd l (V := fun _ => D 0) (w := 1) (fd := 1000) h0
    obtain ⟨r', a1, a2⟩ := zAc_SA hN hd l h0 hac
    have b1 := s3 r' a1
    have hD := hd 0 (by omega) (by omega)
    have hcu := (zVd_0 hN).2.2.2
    have : m ≤ zLL D G (l + 1) (l + 1) (fun _ => D 0) 1 1000 := by
      rcases s1 with e1 | e1
      · rw [e1]; exact hm3
      · have hz := zSA_Ac hN hd l (x := 0) h0 (by omega) (by show 0 ≤ D 0; omega) e1
        obtain ⟨n2, c1, c2⟩ := zAc_AN hN (l + 1) (zVd_0 hN) (by omega) hz
        exact hm2 n2 _ c1 c2
    omega
end BESTN
/-- how many numbers there are, as the model counts them -/
def zpr (N : Nat) : Nat → Int
  | 0 => 1
  | i + 1 => zpr N i * ((((N + 1 : Nat) : Int) - 1 - (i : Int)) * ((i : Int) + 1))
theorem zpr_al : ∀ N : Nat, N < 6 → zpr N N = ((zal N N : Nat) : Int) ∧ zal N N ≤ 14400 ∧ 1 ≤ zal N N := by decide +kernel
