/-! SHARES: the model's sum against the class's -/
theorem zsub_iff {n k : Nat} (hk : k < 256) : zand k (zxor n (-1)) = 0 ↔ ∀ j : Nat, j < 8 → zkb (k : Int) j = true → zkb (n : Int) j = true := by
  constructor
  · intro h j hj hk
    have e : zt (zand k (zxor n (-1))) j = zt 0 j := by rw [h]
    rw [zt_and, zt_xor, zt_m1 (by omega), zt_0] at e
    unfold zkb at hk ⊢
    rw [show ((j : Int)).toNat = j by omega] at hk ⊢
    rw [hk] at e
    simpa using e
  · intro h
    refine zt_ext (zr_and _ _) (by omega) (fun i hi => ?_)
    rw [zt_and, zt_xor, zt_m1 hi, zt_0]
    by_cases h8 : i < 8
    · have := h i h8
      unfold zkb at this
      rw [show ((i : Int)).toNat = i by omega] at this
      cases hz : zt (k : Int) i with
      | false => rfl
      | true => rw [this hz]; rfl
    · rw [z8_hi k hk i hi (by omega)]; rfl
def zfac_N {n : Nat} (h : n < 9) : zfac n = zfN n := (zfN_fac n h).symm
/-- a term of the model's sum, and of the class's -/
def zgM (L : Int → Int) (N : Nat) (p : Int) (s : Nat) : Int := if zkb (s : Int) p = true then 0 else zfac (zones s 8) * zfac ((N : Int) - zones s 8) * (L (zor s (zshl 1 p)) - L s)
def zgC (L : Int → Int) (own : Int) (oth : Int) (m : Int) (s : Nat) : Int := if zand s (zxor oth (-1)) = 0 then zfac (zones s 8) * zfac (m - zones s 8) * (L (zor s own) - L s) else 0
theorem zshs_sm (L : Int → Int) (own oth m : Int) : ∀ k : Nat, zshs L own oth m k = zsm (zgC L own oth m) k
  | 0 => rfl
  | k + 1 => by unfold zshs zsm; rw [zshs_sm L own oth m k]; rfl
section SHTREE
variable {L : Int → Int} {N : Nat} {p : Nat}
theorem zgM_tree (hN : N ≤ 7) (hp : p ≤ N) : ∀ (k s a b : Nat), k ≤ N + 1 → s % 2 ^ k = 0 → s < 256 → zkb (s : Int) p = false → zones (s : Int) 8 = a → a + b + zrk p k = N → zsm (fun i => zgM L N p (s + i)) (2 ^ k) = zMr (fun s => L (zor s (zshl 1 p)) - L s) p k s a b
  | 0, s, a, b, _, _, hs, hkp, ha, hab => by
    show 0 + zgM L N p (s + 0) = zfN a * zfN b * _
    have hab : a + b = N := hab
    unfold zgM
    rw [Nat.add_zero, if_neg (by rw [hkp]; decide), ha, show (N : Int) - a = ((b : Nat) : Int) by omega, zfac_N (by omega), zfac_N (by omega), Int.zero_add]
  | k + 1, s, a, b, hk, hm, hs, hkp, ha, hab => by
    have hm0 : s % 2 ^ k = 0 := by
      have : 2 ^ k ∣ s := Nat.dvd_trans ⟨2, by rw [Nat.pow_succ]⟩ (Nat.dvd_of_mod_eq_zero hm)
      exact Nat.mod_eq_zero_of_dvd this
    have hm1 : (s + 2 ^ k) % 2 ^ k = 0 := by rw [Nat.add_mod_right]; exact hm0
    obtain ⟨u1, u2, u3⟩ := z8_up s hs k (by omega) hm
    rw [zsm_2]
    unfold zMr
    unfold zrk at hab
    by_cases e : k = p
    · rw [if_pos e] at hab ⊢
      rw [zgM_tree hN hp k s a b (by omega) hm0 hs hkp ha hab, zsm_0 (fun i hi => ?_), Int.add_zero]
      have := (z8_in s hs k (by omega) hm i hi).1
      unfold zgM
      rw [e] at this
      rw [e, if_pos this]
    · rw [if_neg e] at hab ⊢
      rw [zgM_tree hN hp k s a (b + 1) (by omega) hm0 hs hkp ha (by omega), zgM_tree hN hp k (s + 2 ^ k) (a + 1) b (by omega) hm1 u1 (by rw [u3 p (by omega), hkp, decide_eq_false (Ne.symm e)]; rfl) (by rw [u2, ha]; omega) (by omega)]
theorem zgC_tree {own : Int} {oth m : Nat} (hm8 : m < 9) : ∀ (k s a b : Nat), k ≤ 8 → s % 2 ^ k = 0 → s < 256 → (∀ j : Nat, j < 8 → zkb (s : Int) j = true → zkb (oth : Int) j = true) → zones (s : Int) 8 = a → a + b + zok (fun k => zkb (oth : Int) k) k = m → zsm (fun i => zgC L own oth m (s + i)) (2 ^ k) = zCr (fun s => L (zor s own) - L s) (fun k => zkb (oth : Int) k) k s a b
  | 0, s, a, b, _, _, hs, hsb, ha, hab => by
    show 0 + zgC L own oth m (s + 0) = zfN a * zfN b * _
    have hab : a + b = m := hab
    unfold zgC
    rw [Nat.add_zero, if_pos ((zsub_iff hs).mpr hsb), ha, show (m : Int) - a = ((b : Nat) : Int) by omega, zfac_N (by omega), zfac_N (by omega), Int.zero_add]
  | k + 1, s, a, b, hk, hmd, hs, hsb, ha, hab => by
    have hm0 : s % 2 ^ k = 0 := by
      have : 2 ^ k ∣ s := Nat.dvd_trans ⟨2, by rw [Nat.pow_succ]⟩ (Nat.dvd_of_mod_eq_zero hmd)
      exact Nat.mod_eq_zero_of_dvd this
    have hm1 : (s + 2 ^ k) % 2 ^ k = 0 := by rw [Nat.add_mod_right]; exact hm0
    obtain ⟨u1, u2, u3⟩ := z8_up s hs k (by omega) hmd
    rw [zsm_2]
    unfold zCr
    unfold zok at hab
    by_cases e : zkb (oth : Int) k = true
    · rw [if_pos e] at hab ⊢
      rw [zgC_tree hm8 k s a (b + 1) (by omega) hm0 hs hsb ha (by omega), zgC_tree hm8 k (s + 2 ^ k) (a + 1) b (by omega) hm1 u1 (fun j hj hz => ?_) (by rw [u2, ha]; omega) (by omega)]
      rw [u3 j hj] at hz
      rcases Bool.or_eq_true_iff.mp hz with h1 | h1
      · exact hsb j hj h1
      · rw [of_decide_eq_true h1]; exact e
    · rw [if_neg e] at hab ⊢
      rw [zgC_tree hm8 k s a b (by omega) hm0 hs hsb ha hab, zsm_0 (fun i hi => ?_), Int.add_zero]
      obtain ⟨v1, v2, -, -⟩ := z8_in s hs k (by omega) hmd i hi
      unfold zgC
      exact if_neg (fun q => e ((zsub_iff v2).mp q k (by omega) v1))
end SHTREE
section SHEQ
variable {B : Int} {N M : Nat} {D G E P D' : Int → Int}
theorem zLAST_cgD (h1 : ∀ i : Nat, i < N → D (E (P i)) = D' (E (P i))) : zLAST D G E P N M = zLAST D' G E P N M := by
  have hrow : ∀ (k : Int) (S : zS) (i : Nat), i ≤ N → zrow D G E P k S i = zrow D' G E P k S i := by
    intro k S i
    induction i with
    | zero => intro _; rfl
    | succ i ih =>
      intro hi
      show zstep D G E k (P i) (zrow D G E P k S i) = zstep D' G E k (P i) (zrow D' G E P k S i)
      rw [ih (by omega)]
      unfold zstep
      rw [h1 i (by omega)]
  have hall : ∀ k : Nat, zall D G E P N (fun _ => 0) k = zall D' G E P N (fun _ => 0) k := by
    intro k
    induction k with
    | zero => rfl
    | succ k ih =>
      show zrow D G E P k (zall D G E P N (fun _ => 0) k) N = zrow D' G E P k (zall D' G E P N (fun _ => 0) k) N
      rw [ih, hrow _ _ N (Nat.le_refl _)]
  unfold zLAST
  rw [hall]
theorem zcnt_pos {x : Int} : ∀ {n i : Nat}, i < n → E (P i) = x → 0 < zcnt E P x n
  | n + 1, i, hi, e => by
    have hb := zcnt_b (E := E) (P := P) (x := x) n
    by_cases q : i = n
    · subst q; rw [zcnt_t e]; omega
    · have := zcnt_pos (n := n) (by omega) e
      have h01 := zb_01 (E (P n) = x)
      unfold zcnt; omega
/-- who does not count -/
theorem zLC_cg (hO : zOK 9 N D G E P) {k : Int} {w w' : Int} (hk : ¬ (1 < D k ∧ 0 < zcnt E P k N)) (hk0 : 0 ≤ k ∧ k ≤ N) (hw : ∀ j : Int, 0 ≤ j → j ≤ N → j ≠ k → zkb w j = zkb w' j) : zLC D G E P N M w = zLC D G E P N M w' := by
  refine zLAST_cgD (fun i hi => ?_)
  have ht := hO.tel hi
  unfold zcom
  by_cases e : E (P i) = k
  · have h1 : D k = 1 := by
      have := zcnt_pos hi e
      have := hO.2.1 k hk0.1 hk0.2
      omega
    rw [e, h1]
    split <;> split <;> rfl
  · rw [hw _ ht.1 ht.2.1 e]
theorem zwty_bit (D E P : Int → Int) (N : Nat) {q : Int} (hq : 0 ≤ q ∧ q < 8) : ∀ i : Nat, i ≤ 8 → (zkb (zwty D E P N i) q = true ↔ q < i ∧ 1 < D q ∧ 0 < zcnt E P q N)
  | 0, _ => by
    show zkb 0 q = true ↔ _
    unfold zkb
    rw [zt_0]
    exact ⟨fun h => absurd h (by decide), fun h => by omega⟩
  | i + 1, hi => by
    have ih := zwty_bit D E P N hq i (by omega)
    unfold zwty
    split
    · next c =>
      rw [zkb_orT (by omega) (by omega), ih]
      constructor
      · rintro (h | h)
        · exact ⟨by omega, h.2⟩
        · rw [h]; exact ⟨by omega, c⟩
      · intro h
        by_cases e : q = i
        · exact Or.inr e
        · exact Or.inl ⟨by omega, h.2⟩
    · next c =>
      rw [ih]
      constructor
      · intro h; exact ⟨by omega, h.2⟩
      · intro h
        refine ⟨?_, h.2⟩
        have : q ≠ i := fun e => c (by rw [← e]; exact h.2)
        omega
theorem zrk_at {p : Nat} : ∀ k : Nat, zrk p k = if p < k then k - 1 else k
  | 0 => by rw [if_neg (by omega)]; rfl
  | k + 1 => by
    unfold zrk
    rw [zrk_at k]
    split <;> split <;> split <;> omega
theorem zok_ones (o : Nat) : ∀ k : Nat, k ≤ 8 → ((zok (fun j => zkb (o : Int) j) k : Nat) : Int) = zones (o : Int) k
  | 0, _ => rfl
  | k + 1, hk => by
    have ih := zok_ones o k (by omega)
    have e := z_has (w := (o : Int)) (p := (k : Int)) (by omega)
    unfold zok zones
    rw [e]
    split <;> omega
theorem zok_hi (o : Nat) {n : Nat} (h : ∀ j : Nat, n ≤ j → j < 8 → zkb (o : Int) j = false) : ∀ e : Nat, n + e ≤ 8 → zok (fun j => zkb (o : Int) j) (n + e) = zok (fun j => zkb (o : Int) j) n
  | 0, _ => rfl
  | e + 1, he => by
    rw [← zok_hi o h e (by omega)]
    exact if_neg (by show ¬ zkb (o : Int) ((n + e : Nat) : Int) = true; rw [h (n + e) (by omega) (by omega)]; decide)
theorem zCr_hi {Δ : Nat → Int} (o : Nat) {n : Nat} (h : ∀ j : Nat, n ≤ j → j < 8 → zkb (o : Int) j = false) (s a b : Nat) : ∀ e : Nat, n + e ≤ 8 → zCr Δ (fun j => zkb (o : Int) j) (n + e) s a b = zCr Δ (fun j => zkb (o : Int) j) n s a b
  | 0, _ => rfl
  | e + 1, he => by
    rw [← zCr_hi o h s a b e (by omega)]
    exact if_neg (by show ¬ zkb (o : Int) ((n + e : Nat) : Int) = true; rw [h (n + e) (by omega) (by omega)]; decide)
/-- the two sums -/
theorem zshare_eq (hO : zOK 9 N D G E P) {p : Nat} (hp : p ≤ N) : zsm (zgM (zLC D G E P N M) N p) (2 ^ (N + 1)) * zfac (zones (zoth D E P N p) 8 + 1) = zshA D G E P N M p * zfac ((N + 1 : Nat) : Int) := by
  have hN := hO.1
  have hb := zoth_b (D := D) (E := E) (P := P) (p := p) hN (by omega)
  have hbit : ∀ j : Nat, j < 8 → (zkb (zoth D E P N p) j = true ↔ j < N + 1 ∧ (1 < D j ∧ 0 < zcnt E P j N) ∧ j ≠ p) := fun j hj => by
    unfold zoth
    rw [zkb_del (by omega) (by omega), Bool.and_eq_true, zwty_bit D E P N (by omega) (N + 1) (by omega)]
    simp
    omega
  obtain ⟨o, ho⟩ : ∃ o : Nat, zoth D E P N p = (o : Int) := ⟨(zoth D E P N p).toNat, by omega⟩
  unfold zshA
  rw [ho] at hb hbit ⊢
  obtain ⟨m, hm⟩ : ∃ m : Nat, zones (o : Int) 8 = (m : Int) := ⟨(zones (o : Int) 8).toNat, by omega⟩
  rw [hm] at hb ⊢
  have ho8 : ((zok (fun j => zkb (o : Int) j) 8 : Nat) : Int) = m := by rw [zok_ones o 8 (by omega), hm]
  have hhi : ∀ j : Nat, N + 1 ≤ j → j < 8 → zkb (o : Int) j = false := fun j h1 h2 => by
    cases hz : zkb (o : Int) j with
    | false => rfl
    | true => have := (hbit j h2).mp hz; omega
  have t1 := zgM_tree (L := zLC D G E P N M) hN hp (N + 1) 0 0 0 (Nat.le_refl _) (by simp) (by omega) (by unfold zkb; exact zt_0 _) (by decide) (by rw [zrk_at, if_pos (by omega)]; omega)
  have t2 := zgC_tree (L := zLC D G E P N M) (own := zshl 1 p) (oth := o) (m := m) (by omega) 8 0 0 0 (by omega) (by simp) (by omega) (fun j hj h => by unfold zkb at h; rw [show ((0 : Nat) : Int) = 0 from rfl, zt_0] at h; exact absurd h (by decide)) (by decide) (by omega)
  have e8 : zCr (fun s => zLC D G E P N M (zor s (zshl 1 p)) - zLC D G E P N M s) (fun j => zkb (o : Int) j) 8 0 0 0 = zCr (fun s => zLC D G E P N M (zor s (zshl 1 p)) - zLC D G E P N M s) (fun j => zkb (o : Int) j) (N + 1) 0 0 0 := by
    have := zCr_hi (Δ := fun s => zLC D G E P N M (zor s (zshl 1 p)) - zLC D G E P N M s) o hhi 0 0 0 (8 - (N + 1)) (by omega)
    rw [show N + 1 + (8 - (N + 1)) = 8 by omega] at this
    exact this
  have o8 : zok (fun j => zkb (o : Int) j) 8 = zok (fun j => zkb (o : Int) j) (N + 1) := by
    have := zok_hi o hhi (8 - (N + 1)) (by omega)
    rw [show N + 1 + (8 - (N + 1)) = 8 by omega] at this
    exact this
  have hmn := zMC_eq (Δ := fun s => zLC D G E P N M (zor s (zshl 1 p)) - zLC D G E P N M s) (p := p) (oth := fun j => zkb (o : Int) j) (n := N + 1) (by
      cases hz : zkb (o : Int) p with
      | false => rfl
      | true => have := (hbit p (by omega)).mp hz; omega) (fun k hk hkp hok s hs hs2 t ht => by
      have hpp : 2 ^ (k + 1) = 2 ^ k + 2 ^ k := by rw [Nat.pow_succ]; omega
      have hp0 : 0 < 2 ^ k := Nat.pow_pos (by omega)
      obtain ⟨v1, v2, v3, v4⟩ := z8_in s (by omega) k (by omega) hs t ht
      have hno : ¬ (1 < D k ∧ 0 < zcnt E P k N) := fun q => by
        have := (hbit k (by omega)).mpr ⟨hk, q, hkp⟩
        rw [hok] at this; exact absurd this (by decide)
      have c1 : zLC D G E P N M ((s + 2 ^ k + t : Nat) : Int) = zLC D G E P N M ((s + t : Nat) : Int) := zLC_cg hO hno (by omega) (fun j h1 h2 h3 => by
        have := v4 j.toNat (by omega)
        rw [show ((j.toNat : Nat) : Int) = j by omega, decide_eq_false (by omega)] at this
        rw [this, Bool.or_false])
      have c2 : zLC D G E P N M (zor ((s + 2 ^ k + t : Nat) : Int) (zshl 1 p)) = zLC D G E P N M (zor ((s + t : Nat) : Int) (zshl 1 p)) := zLC_cg hO hno (by omega) (fun j h1 h2 h3 => by
        have := v4 j.toNat (by omega)
        rw [show ((j.toNat : Nat) : Int) = j by omega, decide_eq_false (by omega)] at this
        rw [zkb_or (by omega) (by omega), zkb_or (by omega) (by omega), this, Bool.or_false])
      rw [c1, c2]) (N + 1) 0 0 0 (Nat.le_refl _) (by simp) (by
        have : 2 ^ (N + 1) ≤ 2 ^ 8 := Nat.pow_le_pow_right (by omega) (by omega)
        omega)
  rw [← o8, show zok (fun j => zkb (o : Int) j) 8 = m by omega, zrk_at, if_pos (by omega)] at hmn
  simp only [Nat.zero_add] at hmn t1 t2
  rw [zshs_sm, show zsm (zgC (zLC D G E P N M) (zshl 1 p) o m) ((o : Int).toNat + 1) = zsm (zgC (zLC D G E P N M) (zshl 1 p) o m) (2 ^ 8) from ?_]
  · have f1 : zfac ((m : Int) + 1) = zfN (m + 1) := by rw [← zfac_N (by omega)]; rfl
    have f2 : zfac ((N + 1 : Nat) : Int) = zfN (N + 1) := zfac_N (by omega)
    rw [f1, f2]
    have t1' : zsm (zgM (zLC D G E P N M) N p) (2 ^ (N + 1)) = zMr (fun s => zLC D G E P N M (zor s (zshl 1 p)) - zLC D G E P N M s) p (N + 1) 0 0 0 := t1
    have t2' : zsm (zgC (zLC D G E P N M) (zshl 1 p) o m) (2 ^ 8) = zCr (fun s => zLC D G E P N M (zor s (zshl 1 p)) - zLC D G E P N M s) (fun j => zkb (o : Int) j) 8 0 0 0 := t2
    rw [t1', t2', e8, hmn]
    congr 2
  · rw [show ((o : Int)).toNat + 1 = o + 1 by omega, show (2 : Nat) ^ 8 = (o + 1) + (256 - (o + 1)) by omega, zsm_add _ (o + 1) (256 - (o + 1))]
    rw [zsm_0 (n := 256 - (o + 1)) (fun i hi => ?_), Int.add_zero]
    unfold zgC
    exact if_neg (fun q => by have := z8_le o (by omega) (o + 1 + i) (by omega) q; omega)
theorem zshare_0 (hO : zOK 9 N D G E P) {p : Nat} (hp : p ≤ N) (hz : zand (zwty D E P N (N + 1)) (zshl 1 p) = 0) : zsm (zgM (zLC D G E P N M) N p) (2 ^ (N + 1)) = 0 := by
  have hN := hO.1
  have hno : ¬ (1 < D p ∧ 0 < zcnt E P p N) := fun q => by
    have h1 := (zwty_bit D E P N (q := (p : Int)) (by omega) (N + 1) (by omega)).mpr ⟨by omega, q⟩
    have e : zt (zand (zwty D E P N (N + 1)) (zshl 1 p)) p = zt 0 p := by rw [hz]
    rw [zt_and, zt_shl1 (by omega) (by omega), zt_0] at e
    unfold zkb at h1
    rw [show ((p : Int)).toNat = p by omega] at h1 e
    rw [h1] at e
    simp at e
  refine zsm_0 (fun s _ => ?_)
  unfold zgM
  split
  · rfl
  · rw [zLC_cg hO hno (by omega) (w := zor s (zshl 1 p)) (w' := s) (fun j h1 h2 h3 => by rw [zkb_or (by omega) (by omega), decide_eq_false h3, Bool.or_false])]
    simp
end SHEQ
