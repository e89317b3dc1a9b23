/-! LateLetters: asked, seen, the text told -/
theorem zcn_cg {B B' : Int → Int} {dl gp : Int} (hd : 1 ≤ dl ∧ 1 ≤ gp) : ∀ k : Nat, k ≤ 61 → ∀ j : Nat, j < k → zcn B dl gp k j = zcn B' dl gp k j := by
  intro k
  induction k with
  | zero => intro _ j hj; omega
  | succ k ih =>
    intro hk j hj
    have hby : ∀ x : Int, x < k → zby (zcn B dl gp k) x = zby (zcn B' dl gp k) x := fun x hx => by
      unfold zby
      by_cases e : 0 ≤ x ∧ x < 61
      · rw [if_pos e, if_pos e]
        have := ih (by omega) x.toNat (by omega)
        rw [show ((x.toNat : Nat) : Int) = x by omega] at this
        exact this
      · rw [if_neg e, if_neg e]
    show zst _ _ _ _ = zst _ _ _ _
    by_cases e : (j : Int) = k
    · rw [e, zst_same, zst_same, hby _ (by omega), hby _ (by omega)]
    · rw [zst_ne _ _ e, zst_ne _ _ e]
      exact ih (by omega) j (by omega)
theorem zcn_b {B : Int → Int} {dl gp : Int} (hd : 1 ≤ dl ∧ 1 ≤ gp) : ∀ k : Nat, k ≤ 61 → ∀ j : Nat, j < k → 1 ≤ zcn B dl gp k j ∧ zcn B dl gp k j ≤ ((2 ^ j : Nat) : Int) := by
  intro k
  induction k with
  | zero => intro _ j hj; omega
  | succ k ih =>
    intro hk j hj
    have hpw : ∀ a b : Nat, a ≤ b → 2 ^ a ≤ 2 ^ b := fun a b h => Nat.pow_le_pow_right (by decide) h
    have hby : ∀ x : Int, x < k → 1 ≤ zby (zcn B dl gp k) x ∧ (1 ≤ k → zby (zcn B dl gp k) x ≤ ((2 ^ (k - 1) : Nat) : Int)) := fun x hx => by
      unfold zby
      by_cases e : 0 ≤ x ∧ x < 61
      · rw [if_pos e]
        have := ih (by omega) x.toNat (by omega)
        rw [show ((x.toNat : Nat) : Int) = x by omega] at this
        have h2 := hpw x.toNat (k - 1) (by omega)
        exact ⟨this.1, fun _ => by omega⟩
      · rw [if_neg e]
        have h2 := hpw 0 (k - 1) (by omega)
        exact ⟨by omega, fun _ => by omega⟩
    show 1 ≤ zst _ _ _ _ ∧ zst _ _ _ _ ≤ _
    by_cases e : (j : Int) = k
    · have e' : j = k := by omega
      subst e'
      rw [zst_same]
      split
      · have h2 := hpw 0 j (by omega); omega
      · have a := hby (j - dl) (by omega)
        have b := hby (j - gp) (by omega)
        have hj1 : 1 ≤ j := by omega
        have h2 : 2 ^ j = 2 ^ (j - 1) + 2 ^ (j - 1) := by
          obtain ⟨i, rfl⟩ : ∃ i, j = i + 1 := ⟨j - 1, by omega⟩
          rw [Nat.add_sub_cancel, Nat.pow_succ]; omega
        have a2 := a.2 hj1
        have b2 := b.2 hj1
        omega
    · rw [zst_ne _ _ e]
      exact ih (by omega) j (by omega)
/-- the number of those that can know, by a tick -/
def znum (dl gp : Int) (t : Nat) : Int := zcn (fun _ => 0) dl gp 61 t
theorem znum_b {dl gp : Int} (hd : 1 ≤ dl ∧ 1 ≤ gp) {t : Nat} (ht : t ≤ 60) : 1 ≤ znum dl gp t ∧ znum dl gp t ≤ 1152921504606846976 := by
  have h := zcn_b (B := fun _ => 0) hd 61 (Nat.le_refl _) t (by omega)
  have : 2 ^ t ≤ 2 ^ 60 := Nat.pow_le_pow_right (by decide) ht
  have e : (2 : Nat) ^ 60 = 1152921504606846976 := by decide
  unfold znum
  omega
/-- who knows by t, of the first i, as bits -/
def zknw (T : Int → Int) (t : Int) : Nat → Int
  | 0 => 0
  | i + 1 => if T i ≤ t then zor (zknw T t i) (zshl 1 i) else zknw T t i
def zissb (W K T : Int → Int) (n : Int) : Nat → Bool
  | 0 => true
  | i + 1 => zissb W K T n i && (!decide (0 ≤ W i ∧ W i < n) || decide (T (W i) = K i))
theorem zissb_iff {W K T T' : Int → Int} {n : Int} (hT : ∀ p : Int, 0 ≤ p → p < n → T' p = T p) : ∀ {N : Nat}, zissb W K T n N = true ↔ zisso W K T' n N
  | 0 => ⟨fun _ i hi => absurd hi (by omega), fun _ => rfl⟩
  | N + 1 => by
    have ih := zissb_iff (W := W) (K := K) hT (N := N)
    unfold zissb
    rw [Bool.and_eq_true, ih]
    constructor
    · rintro ⟨h1, h2⟩ i hi hw
      by_cases e : i = N
      · subst e
        rw [hT _ hw.1 hw.2]
        simpa [hw.1, hw.2] using h2
      · exact h1 i (by omega) hw
    · intro h
      refine ⟨fun i hi hw => h i (by omega) hw, ?_⟩
      by_cases hw : 0 ≤ W N ∧ W N < n
      · have := h N (by omega) hw
        rw [hT _ hw.1 hw.2] at this
        simp [hw.1, hw.2, this]
      · rw [decide_eq_false hw]; rfl
/-- which delays, 1 .. i, as bits; f: is all so with that delay -/
def zwhi (f : Nat → Bool) : Nat → Int
  | 0 => 0
  | i + 1 => if f (i + 1) = true then zor (zwhi f i) (zshl 1 ((i + 1 : Nat) : Int)) else zwhi f i
section ASKED
variable {d : Nat} {h : zH} {Q : Option zV → zH → Prop} {N M : Nat} {D G E P : Int → Int} {T U : zTD} {C : Int → Int} {l fi ct : Int} {S : Nat → zTD} {fl : Int} {Kp : Nat → zTD} {W Kt : Int → Int} {c sd : Int} {O : Int → Int}
theorem w_count {p : Int} {B : Int → Int} (hW : zCW h (N, M, D, G, E, P) U C l fi ct S fl Kp W Kt c sd O) (hNu : zNum h 18 B) (hd : 1 ≤ D p ∧ D p ≤ 9 ∧ 1 ≤ G p ∧ G p ≤ 5) (hQ : ∀ (h' : zH) (B' : Int → Int), zCW h' (N, M, D, G, E, P) U C l fi ct S fl Kp W Kt c sd O → zNum h' 18 B' → (∀ t : Nat, t ≤ 60 → B' t = znum (D p) (G p) t) → zMod 2 111 h h' → Q none h') : zC (d + 1) mX1_count 0 0 [vR 18, vI (D p), vI (G p)] h Q := by
  refine c_X1_count hNu (by omega) ?_
  have m1 : zMod 18 19 h (zup h (18 + 1) (zJ 61 (zcn B (D p) (G p) 61))) := (zMod.rf _ _ h).up _ (by omega)
  have n1 := hNu.ar (zcn B (D p) (G p) 61)
  exact hQ _ _ (hW.nu_set m1 ⟨_, n1⟩) n1 (fun t ht => zcn_cg (by omega) 61 (Nat.le_refl _) t (by omega)) (m1.wd (by omega))
theorem c_X9_number_no1 {p t : Int} (hW : zCW h (N, M, D, G, E, P) U C l fi ct S fl Kp W Kt c sd O) (hN : N ≤ 7) (hp : (-2147483648 ≤ p ∧ p ≤ 2147483647) ∧ ¬ (0 ≤ p ∧ p < N + 1)) (hQ : Q (some (vJ (-1))) h) : zC (d + 4) mX9_number 0 0 [vR 2, vI p, vI t] h Q := by
  have zo2 := hW.ob
  have zo3 := hW.nw.2.1
  refine zC.of zpl_X9 (Nat.le_of_ble_eq_true rfl) ?_
  refine z_aload_n 1 dX9_number_0 rfl rfl ?_
  refine z_getf (ci := 9) 4 dX9_number_1 rfl rfl zin_9 0 (by decide) zw_224 (by first | with_reducible assumption | with_reducible exact zup_same _ _ _) rfl ?_
  refine z_iload_n 5 dX9_number_4 rfl rfl ?_
  refine z_cV1 8 dX9_number_5 rfl kX6_hasPerson zw_482 (Nat.le_of_ble_eq_true rfl) ⟨Nat.le_refl _, Nat.le_refl _⟩ (by first | with_reducible assumption | with_reducible exact zup_same _ _ _) ?_
  refine c_X6_hasPerson hW.nw hp.1 (by omega) ?_
  refine z_if_ne 15 11 dX9_number_8 (by decide) rfl (by first | omega | exact zr_b _ | exact zr_and _ _ | exact zr_or _ _ | exact zr_shl _ _) (fun c8 => ?_) (fun c8 => ?_)
  · exact absurd (zb_1 c8) (by omega)
  · try replace c8 := zb_0 c8
    refine z_ldc2 (x := -1) 14 dX9_number_11 rfl zw_610 ?_
    refine z_lret dX9_number_14 (by first | exact True.intro | exact Or.inl rfl | exact Or.inr rfl | exact zb_01 _ | assumption | (show _ ∨ _; omega)) ⟨Nat.le_refl _, Nat.le_refl _⟩ ?_
    exact hQ
theorem c_X9_number_no2 {p t : Int} (hW : zCW h (N, M, D, G, E, P) U C l fi ct S fl Kp W Kt c sd O) (hN : N ≤ 7) (hp : 0 ≤ p ∧ p < N + 1) (ht : (-2147483648 ≤ t ∧ t ≤ 2147483647) ∧ ¬ (0 ≤ t ∧ t ≤ 60)) (hQ : Q (some (vJ (-2))) h) : zC (d + 4) mX9_number 0 0 [vR 2, vI p, vI t] h Q := by
  have zo2 := hW.ob
  have zo3 := hW.nw.2.1
  refine zC.of zpl_X9 (Nat.le_of_ble_eq_true rfl) ?_
  refine z_aload_n 1 dX9_number_0 rfl rfl ?_
  refine z_getf (ci := 9) 4 dX9_number_1 rfl rfl zin_9 0 (by decide) zw_224 (by first | with_reducible assumption | with_reducible exact zup_same _ _ _) rfl ?_
  refine z_iload_n 5 dX9_number_4 rfl rfl ?_
  refine z_cV1 8 dX9_number_5 rfl kX6_hasPerson zw_482 (Nat.le_of_ble_eq_true rfl) ⟨Nat.le_refl _, Nat.le_refl _⟩ (by first | with_reducible assumption | with_reducible exact zup_same _ _ _) ?_
  refine c_X6_hasPerson hW.nw (by omega) (by omega) ?_
  refine z_if_ne 15 11 dX9_number_8 (by decide) rfl (by first | omega | exact zr_b _ | exact zr_and _ _ | exact zr_or _ _ | exact zr_shl _ _) (fun c8 => ?_) (fun c8 => ?_)
  · try replace c8 := zb_1 c8
    refine z_iload_n 16 dX9_number_15 rfl rfl ?_
    refine z_if_lt 25 19 dX9_number_16 (by decide) rfl (by first | omega | exact zr_b _ | exact zr_and _ _ | exact zr_or _ _ | exact zr_shl _ _) (fun c16 => ?_) (fun c16 => ?_)
    · refine z_ldc2 (x := -2) 28 dX9_number_25 rfl zw_611 ?_
      refine z_lret dX9_number_28 (by first | exact True.intro | exact Or.inl rfl | exact Or.inr rfl | exact zb_01 _ | assumption | (show _ ∨ _; omega)) ⟨Nat.le_refl _, Nat.le_refl _⟩ ?_
      exact hQ
    · refine z_iload_n 20 dX9_number_19 rfl rfl ?_
      refine z_bipush 22 dX9_number_20 rfl (by decide) ?_
      refine z_icmp_le 29 25 dX9_number_22 (by decide) rfl (by first | omega | exact zr_b _ | exact zr_and _ _ | exact zr_or _ _ | exact zr_shl _ _) (by first | omega | exact zr_b _ | exact zr_and _ _ | exact zr_or _ _ | exact zr_shl _ _) (fun c22 => ?_) (fun c22 => ?_)
      · exfalso; omega
      · refine z_ldc2 (x := -2) 28 dX9_number_25 rfl zw_611 ?_
        refine z_lret dX9_number_28 (by first | exact True.intro | exact Or.inl rfl | exact Or.inr rfl | exact zb_01 _ | assumption | (show _ ∨ _; omega)) ⟨Nat.le_refl _, Nat.le_refl _⟩ ?_
        exact hQ
  · exact absurd (show 0 ≤ p ∧ p < ((N + 1 : Nat) : Int) by omega) (zb_0 c8)
theorem c_X9_number {p t : Int} (hW : zCW h (N, M, D, G, E, P) U C l fi ct S fl Kp W Kt c sd O) (hO : zOK 9 N D G E P) (hp : 0 ≤ p ∧ p < N + 1) (ht : 0 ≤ t ∧ t ≤ 60) (hQ : ∀ h' : zH, zCW h' (N, M, D, G, E, P) U C l fi ct S fl Kp W Kt c sd O → zMod 2 111 h h' → Q (some (vJ (znum (D p) (G p) t.toNat))) h') : zC (d + 4) mX9_number 0 0 [vR 2, vI p, vI t] h Q := by
  have hN := hO.1
  have hd := hO.2.1 p hp.1 (by omega)
  have zo2 := hW.ob
  have zo3 := hW.nw.2.1
  obtain ⟨B, hNu⟩ := hW.nu
  have zo18 := hNu.2.1
  refine zC.of zpl_X9 (Nat.le_of_ble_eq_true rfl) ?_
  refine z_aload_n 1 dX9_number_0 rfl rfl ?_
  refine z_getf (ci := 9) 4 dX9_number_1 rfl rfl zin_9 0 (by decide) zw_224 (by first | with_reducible assumption | with_reducible exact zup_same _ _ _) rfl ?_
  refine z_iload_n 5 dX9_number_4 rfl rfl ?_
  refine z_cV1 8 dX9_number_5 rfl kX6_hasPerson zw_482 (Nat.le_of_ble_eq_true rfl) ⟨Nat.le_refl _, Nat.le_refl _⟩ (by first | with_reducible assumption | with_reducible exact zup_same _ _ _) ?_
  refine c_X6_hasPerson hW.nw (by omega) (by omega) ?_
  refine z_if_ne 15 11 dX9_number_8 (by decide) rfl (by first | omega | exact zr_b _ | exact zr_and _ _ | exact zr_or _ _ | exact zr_shl _ _) (fun c8 => ?_) (fun c8 => ?_)
  · try replace c8 := zb_1 c8
    refine z_iload_n 16 dX9_number_15 rfl rfl ?_
    refine z_if_lt 25 19 dX9_number_16 (by decide) rfl (by first | omega | exact zr_b _ | exact zr_and _ _ | exact zr_or _ _ | exact zr_shl _ _) (fun c16 => ?_) (fun c16 => ?_)
    · exfalso; omega
    · refine z_iload_n 20 dX9_number_19 rfl rfl ?_
      refine z_bipush 22 dX9_number_20 rfl (by decide) ?_
      refine z_icmp_le 29 25 dX9_number_22 (by decide) rfl (by first | omega | exact zr_b _ | exact zr_and _ _ | exact zr_or _ _ | exact zr_shl _ _) (by first | omega | exact zr_b _ | exact zr_and _ _ | exact zr_or _ _ | exact zr_shl _ _) (fun c22 => ?_) (fun c22 => ?_)
      · refine z_aload_n 30 dX9_number_29 rfl rfl ?_
        refine z_getf (ci := 9) 33 dX9_number_30 rfl rfl zin_9 4 (by decide) zw_228 (by first | with_reducible assumption | with_reducible exact zup_same _ _ _) rfl ?_
        refine z_aload_n 34 dX9_number_33 rfl rfl ?_
        refine z_getf (ci := 9) 37 dX9_number_34 rfl rfl zin_9 0 (by decide) zw_224 (by first | with_reducible assumption | with_reducible exact zup_same _ _ _) rfl ?_
        refine z_iload_n 38 dX9_number_37 rfl rfl ?_
        refine z_cV1 41 dX9_number_38 rfl kX6_delayOf zw_486 (Nat.le_of_ble_eq_true rfl) ⟨Nat.le_refl _, Nat.le_refl _⟩ (by first | with_reducible assumption | with_reducible exact zup_same _ _ _) ?_
        refine c_X6_delayOf hW.nw (by omega) ?_
        refine z_aload_n 42 dX9_number_41 rfl rfl ?_
        refine z_getf (ci := 9) 45 dX9_number_42 rfl rfl zin_9 0 (by decide) zw_224 (by first | with_reducible assumption | with_reducible exact zup_same _ _ _) rfl ?_
        refine z_iload_n 46 dX9_number_45 rfl rfl ?_
        refine z_cV1 49 dX9_number_46 rfl kX6_gapOf zw_487 (Nat.le_of_ble_eq_true rfl) ⟨Nat.le_refl _, Nat.le_refl _⟩ (by first | with_reducible assumption | with_reducible exact zup_same _ _ _) ?_
        refine c_X6_gapOf hW.nw (by omega) ?_
        refine z_cV2 52 dX9_number_49 rfl kX1_count zw_612 (Nat.le_of_ble_eq_true rfl) ⟨Nat.le_refl _, Nat.le_refl _⟩ (by first | with_reducible assumption | with_reducible exact zup_same _ _ _) ?_
        refine w_count hW hNu hd (fun h1 B1 hW1 hN1 hB1 hF1 => ?_)
        have zo2 := hW1.ob
        have zo18 := hN1.2.1
        refine z_aload_n 53 dX9_number_52 rfl rfl ?_
        refine z_getf (ci := 9) 56 dX9_number_53 rfl rfl zin_9 4 (by decide) zw_228 (by first | with_reducible assumption | with_reducible exact zup_same _ _ _) rfl ?_
        refine z_iload_n 57 dX9_number_56 rfl rfl ?_
        refine z_cV1 60 dX9_number_57 rfl kX1_by zw_620 (Nat.le_of_ble_eq_true rfl) ⟨Nat.le_refl _, Nat.le_refl _⟩ (by first | with_reducible assumption | with_reducible exact zup_same _ _ _) ?_
        refine c_X1_by hN1 (by omega) ?_
        have e := hB1 t.toNat (by omega)
        rw [show ((t.toNat : Nat) : Int) = t by omega] at e
        rw [show zby B1 t = B1 t from if_pos (by omega), e]
        refine z_lret dX9_number_60 (by first | exact True.intro | exact Or.inl rfl | exact Or.inr rfl | exact zb_01 _ | assumption | (show _ ∨ _; omega)) ⟨Nat.le_refl _, Nat.le_refl _⟩ ?_
        exact hQ _ hW1 hF1
      · exfalso; omega
  · exact absurd (show 0 ≤ p ∧ p < ((N + 1 : Nat) : Int) by omega) (zb_0 c8)
theorem c_X9_soon_no1 {p v : Int} (hW : zCW h (N, M, D, G, E, P) U C l fi ct S fl Kp W Kt c sd O) (hN : N ≤ 7) (hp : (-2147483648 ≤ p ∧ p ≤ 2147483647) ∧ ¬ (0 ≤ p ∧ p < N + 1)) (hQ : Q (some (vI (-1))) h) : zC (d + 4) mX9_soon 0 0 [vR 2, vI p, vI v] h Q := by
  have zo2 := hW.ob
  have zo3 := hW.nw.2.1
  refine zC.of zpl_X9 (Nat.le_of_ble_eq_true rfl) ?_
  refine z_aload_n 1 dX9_soon_0 rfl rfl ?_
  refine z_getf (ci := 9) 4 dX9_soon_1 rfl rfl zin_9 0 (by decide) zw_224 (by first | with_reducible assumption | with_reducible exact zup_same _ _ _) rfl ?_
  refine z_iload_n 5 dX9_soon_4 rfl rfl ?_
  refine z_cV1 8 dX9_soon_5 rfl kX6_hasPerson zw_482 (Nat.le_of_ble_eq_true rfl) ⟨Nat.le_refl _, Nat.le_refl _⟩ (by first | with_reducible assumption | with_reducible exact zup_same _ _ _) ?_
  refine c_X6_hasPerson hW.nw hp.1 (by omega) ?_
  refine z_if_ne 13 11 dX9_soon_8 (by decide) rfl (by first | omega | exact zr_b _ | exact zr_and _ _ | exact zr_or _ _ | exact zr_shl _ _) (fun c8 => ?_) (fun c8 => ?_)
  · exact absurd (zb_1 c8) (by omega)
  · try replace c8 := zb_0 c8
    refine z_iconst 12 dX9_soon_11 rfl ?_
    refine z_ret dX9_soon_12 (by first | exact True.intro | exact Or.inl rfl | exact Or.inr rfl | exact zb_01 _ | assumption | (show _ ∨ _; omega)) ⟨Nat.le_refl _, Nat.le_refl _⟩ ?_
    exact hQ
theorem c_X9_soon_no2 {p v : Int} (hW : zCW h (N, M, D, G, E, P) U C l fi ct S fl Kp W Kt c sd O) (hN : N ≤ 7) (hp : 0 ≤ p ∧ p < N + 1) (hv : (-2147483648 ≤ v ∧ v ≤ 2147483647) ∧ ¬ (1 ≤ v ∧ v ≤ 99999)) (hQ : Q (some (vI (-2))) h) : zC (d + 4) mX9_soon 0 0 [vR 2, vI p, vI v] h Q := by
  have zo2 := hW.ob
  have zo3 := hW.nw.2.1
  refine zC.of zpl_X9 (Nat.le_of_ble_eq_true rfl) ?_
  refine z_aload_n 1 dX9_soon_0 rfl rfl ?_
  refine z_getf (ci := 9) 4 dX9_soon_1 rfl rfl zin_9 0 (by decide) zw_224 (by first | with_reducible assumption | with_reducible exact zup_same _ _ _) rfl ?_
  refine z_iload_n 5 dX9_soon_4 rfl rfl ?_
  refine z_cV1 8 dX9_soon_5 rfl kX6_hasPerson zw_482 (Nat.le_of_ble_eq_true rfl) ⟨Nat.le_refl _, Nat.le_refl _⟩ (by first | with_reducible assumption | with_reducible exact zup_same _ _ _) ?_
  refine c_X6_hasPerson hW.nw (by omega) (by omega) ?_
  refine z_if_ne 13 11 dX9_soon_8 (by decide) rfl (by first | omega | exact zr_b _ | exact zr_and _ _ | exact zr_or _ _ | exact zr_shl _ _) (fun c8 => ?_) (fun c8 => ?_)
  · try replace c8 := zb_1 c8
    refine z_iload_n 14 dX9_soon_13 rfl rfl ?_
    refine z_iconst 15 dX9_soon_14 rfl ?_
    refine z_icmp_lt 24 18 dX9_soon_15 (by decide) rfl (by first | omega | exact zr_b _ | exact zr_and _ _ | exact zr_or _ _ | exact zr_shl _ _) (by first | omega | exact zr_b _ | exact zr_and _ _ | exact zr_or _ _ | exact zr_shl _ _) (fun c15 => ?_) (fun c15 => ?_)
    · refine z_bipush 26 dX9_soon_24 rfl (by decide) ?_
      refine z_ret dX9_soon_26 (by first | exact True.intro | exact Or.inl rfl | exact Or.inr rfl | exact zb_01 _ | assumption | (show _ ∨ _; omega)) ⟨Nat.le_refl _, Nat.le_refl _⟩ ?_
      exact hQ
    · refine z_iload_n 19 dX9_soon_18 rfl rfl ?_
      refine z_ldc (x := 99999) 21 dX9_soon_19 rfl zw_625 ?_
      refine z_icmp_le 27 24 dX9_soon_21 (by decide) rfl (by first | omega | exact zr_b _ | exact zr_and _ _ | exact zr_or _ _ | exact zr_shl _ _) (by first | omega | exact zr_b _ | exact zr_and _ _ | exact zr_or _ _ | exact zr_shl _ _) (fun c21 => ?_) (fun c21 => ?_)
      · exfalso; omega
      · refine z_bipush 26 dX9_soon_24 rfl (by decide) ?_
        refine z_ret dX9_soon_26 (by first | exact True.intro | exact Or.inl rfl | exact Or.inr rfl | exact zb_01 _ | assumption | (show _ ∨ _; omega)) ⟨Nat.le_refl _, Nat.le_refl _⟩ ?_
        exact hQ
  · exact absurd (show 0 ≤ p ∧ p < ((N + 1 : Nat) : Int) by omega) (zb_0 c8)
/-- soon: r is the first tick with v or more, or 61: none -/
theorem c_X9_soon {p v : Int} {r : Nat} (hW : zCW h (N, M, D, G, E, P) U C l fi ct S fl Kp W Kt c sd O) (hO : zOK 9 N D G E P) (hp : 0 ≤ p ∧ p < N + 1) (hv : 1 ≤ v ∧ v ≤ 99999) (hr : r ≤ 61) (h1 : ∀ j : Nat, j < r → znum (D p) (G p) j < v) (h2 : r ≤ 60 → v ≤ znum (D p) (G p) r) (hQ : ∀ h' : zH, zCW h' (N, M, D, G, E, P) U C l fi ct S fl Kp W Kt c sd O → zMod 2 111 h h' → Q (some (vI (if r ≤ 60 then (r : Int) else -9))) h') : zC (d + 4) mX9_soon 0 0 [vR 2, vI p, vI v] h Q := by
  have hN := hO.1
  have hd := hO.2.1 p hp.1 (by omega)
  have key : ∀ (h' : zH) (B' : Int → Int), zCW h' (N, M, D, G, E, P) U C l fi ct S fl Kp W Kt c sd O → zNum h' 18 B' → (∀ t : Nat, t ≤ 60 → B' t = znum (D p) (G p) t) → zMod 2 111 h h' → ∀ i : Nat, i ≤ r → Z (d + 4) mX9_soon zo 52 [some (vR 2), some (vI p), some (vI v), some (vI i)] [] h' Q := by
    intro h' B' hW' hN' hB' hF
    have zo2 := hW'.ob
    have zo18 := hN'.2.1
    refine z_loop r ?_ ?_
    · by_cases e : r ≤ 60
      · have hb := znum_b (dl := D p) (gp := G p) (by omega) e
        have h2' := h2 e
        refine z_iload_n 53 dX9_soon_52 rfl rfl ?_
        refine z_bipush 55 dX9_soon_53 rfl (by decide) ?_
        refine z_icmp_gt 80 58 dX9_soon_55 (by decide) rfl (by first | omega | exact zr_b _ | exact zr_and _ _ | exact zr_or _ _ | exact zr_shl _ _) (by first | omega | exact zr_b _ | exact zr_and _ _ | exact zr_or _ _ | exact zr_shl _ _) (fun c55 => ?_) (fun c55 => ?_)
        · exfalso; omega
        · refine z_aload_n 59 dX9_soon_58 rfl rfl ?_
          refine z_getf (ci := 9) 62 dX9_soon_59 rfl rfl zin_9 4 (by decide) zw_228 (by first | with_reducible assumption | with_reducible exact zup_same _ _ _) rfl ?_
          refine z_iload_n 63 dX9_soon_62 rfl rfl ?_
          refine z_cV1 66 dX9_soon_63 rfl kX1_by zw_620 (Nat.le_of_ble_eq_true rfl) ⟨Nat.le_refl _, Nat.le_refl _⟩ (by first | with_reducible assumption | with_reducible exact zup_same _ _ _) ?_
          refine c_X1_by hN' (by omega) ?_
          rw [show zby B' r = B' r from if_pos (by omega), hB' r e]
          refine z_iload_n 67 dX9_soon_66 rfl rfl ?_
          refine z_i2l 68 dX9_soon_67 rfl (by first | omega | exact zr_b _ | exact zr_and _ _ | exact zr_or _ _ | exact zr_shl _ _) ?_
          refine z_lcmp 69 dX9_soon_68 rfl (by first | omega | exact zr_b _ | exact zr_and _ _ | exact zr_or _ _ | exact zr_shl _ _) (by first | omega | exact zr_b _ | exact zr_and _ _ | exact zr_or _ _ | exact zr_shl _ _) ?_
          refine z_if_lt 74 72 dX9_soon_69 (by decide) rfl (by unfold zcmp; split; omega; split <;> omega) (fun c69 => ?_) (fun c69 => ?_)
          · exfalso; unfold zcmp at c69; split at c69; omega; split at c69 <;> omega
          · refine z_iload_n 73 dX9_soon_72 rfl rfl ?_
            refine z_ret dX9_soon_73 (by first | exact True.intro | exact Or.inl rfl | exact Or.inr rfl | exact zb_01 _ | assumption | (show _ ∨ _; omega)) ⟨Nat.le_refl _, Nat.le_refl _⟩ ?_
            have e2 := hQ _ hW' hF
            rw [if_pos e] at e2
            exact e2
      · refine z_iload_n 53 dX9_soon_52 rfl rfl ?_
        refine z_bipush 55 dX9_soon_53 rfl (by decide) ?_
        refine z_icmp_gt 80 58 dX9_soon_55 (by decide) rfl (by first | omega | exact zr_b _ | exact zr_and _ _ | exact zr_or _ _ | exact zr_shl _ _) (by first | omega | exact zr_b _ | exact zr_and _ _ | exact zr_or _ _ | exact zr_shl _ _) (fun c55 => ?_) (fun c55 => ?_)
        · refine z_bipush 82 dX9_soon_80 rfl (by decide) ?_
          refine z_ret dX9_soon_82 (by first | exact True.intro | exact Or.inl rfl | exact Or.inr rfl | exact zb_01 _ | assumption | (show _ ∨ _; omega)) ⟨Nat.le_refl _, Nat.le_refl _⟩ ?_
          have e2 := hQ _ hW' hF
          rw [if_neg e] at e2
          exact e2
        · exfalso; omega
    · intro i hi ih
      have hb := znum_b (dl := D p) (gp := G p) (by omega) (show i ≤ 60 by omega)
      have h1' := h1 i hi
      refine z_iload_n 53 dX9_soon_52 rfl rfl ?_
      refine z_bipush 55 dX9_soon_53 rfl (by decide) ?_
      refine z_icmp_gt 80 58 dX9_soon_55 (by decide) rfl (by first | omega | exact zr_b _ | exact zr_and _ _ | exact zr_or _ _ | exact zr_shl _ _) (by first | omega | exact zr_b _ | exact zr_and _ _ | exact zr_or _ _ | exact zr_shl _ _) (fun c55 => ?_) (fun c55 => ?_)
      · exfalso; omega
      · refine z_aload_n 59 dX9_soon_58 rfl rfl ?_
        refine z_getf (ci := 9) 62 dX9_soon_59 rfl rfl zin_9 4 (by decide) zw_228 (by first | with_reducible assumption | with_reducible exact zup_same _ _ _) rfl ?_
        refine z_iload_n 63 dX9_soon_62 rfl rfl ?_
        refine z_cV1 66 dX9_soon_63 rfl kX1_by zw_620 (Nat.le_of_ble_eq_true rfl) ⟨Nat.le_refl _, Nat.le_refl _⟩ (by first | with_reducible assumption | with_reducible exact zup_same _ _ _) ?_
        refine c_X1_by hN' (by omega) ?_
        rw [show zby B' i = B' i from if_pos (by omega), hB' i (by omega)]
        refine z_iload_n 67 dX9_soon_66 rfl rfl ?_
        refine z_i2l 68 dX9_soon_67 rfl (by first | omega | exact zr_b _ | exact zr_and _ _ | exact zr_or _ _ | exact zr_shl _ _) ?_
        refine z_lcmp 69 dX9_soon_68 rfl (by first | omega | exact zr_b _ | exact zr_and _ _ | exact zr_or _ _ | exact zr_shl _ _) (by first | omega | exact zr_b _ | exact zr_and _ _ | exact zr_or _ _ | exact zr_shl _ _) ?_
        refine z_if_lt 74 72 dX9_soon_69 (by decide) rfl (by unfold zcmp; split; omega; split <;> omega) (fun c69 => ?_) (fun c69 => ?_)
        · refine z_iinc 77 dX9_soon_74 rfl (by decide) rfl ?_
          refine z_goto 52 dX9_soon_77 (by decide) ?_
          exact ih
        · exfalso; unfold zcmp at c69; split at c69; omega; split at c69 <;> omega
  have zo2 := hW.ob
  have zo3 := hW.nw.2.1
  obtain ⟨B, hNu⟩ := hW.nu
  have zo18 := hNu.2.1
  refine zC.of zpl_X9 (Nat.le_of_ble_eq_true rfl) ?_
  refine z_aload_n 1 dX9_soon_0 rfl rfl ?_
  refine z_getf (ci := 9) 4 dX9_soon_1 rfl rfl zin_9 0 (by decide) zw_224 (by first | with_reducible assumption | with_reducible exact zup_same _ _ _) rfl ?_
  refine z_iload_n 5 dX9_soon_4 rfl rfl ?_
  refine z_cV1 8 dX9_soon_5 rfl kX6_hasPerson zw_482 (Nat.le_of_ble_eq_true rfl) ⟨Nat.le_refl _, Nat.le_refl _⟩ (by first | with_reducible assumption | with_reducible exact zup_same _ _ _) ?_
  refine c_X6_hasPerson hW.nw (by omega) (by omega) ?_
  refine z_if_ne 13 11 dX9_soon_8 (by decide) rfl (by first | omega | exact zr_b _ | exact zr_and _ _ | exact zr_or _ _ | exact zr_shl _ _) (fun c8 => ?_) (fun c8 => ?_)
  · try replace c8 := zb_1 c8
    refine z_iload_n 14 dX9_soon_13 rfl rfl ?_
    refine z_iconst 15 dX9_soon_14 rfl ?_
    refine z_icmp_lt 24 18 dX9_soon_15 (by decide) rfl (by first | omega | exact zr_b _ | exact zr_and _ _ | exact zr_or _ _ | exact zr_shl _ _) (by first | omega | exact zr_b _ | exact zr_and _ _ | exact zr_or _ _ | exact zr_shl _ _) (fun c15 => ?_) (fun c15 => ?_)
    · exfalso; omega
    · refine z_iload_n 19 dX9_soon_18 rfl rfl ?_
      refine z_ldc (x := 99999) 21 dX9_soon_19 rfl zw_625 ?_
      refine z_icmp_le 27 24 dX9_soon_21 (by decide) rfl (by first | omega | exact zr_b _ | exact zr_and _ _ | exact zr_or _ _ | exact zr_shl _ _) (by first | omega | exact zr_b _ | exact zr_and _ _ | exact zr_or _ _ | exact zr_shl _ _) (fun c21 => ?_) (fun c21 => ?_)
      · refine z_aload_n 28 dX9_soon_27 rfl rfl ?_
        refine z_getf (ci := 9) 31 dX9_soon_28 rfl rfl zin_9 4 (by decide) zw_228 (by first | with_reducible assumption | with_reducible exact zup_same _ _ _) rfl ?_
        refine z_aload_n 32 dX9_soon_31 rfl rfl ?_
        refine z_getf (ci := 9) 35 dX9_soon_32 rfl rfl zin_9 0 (by decide) zw_224 (by first | with_reducible assumption | with_reducible exact zup_same _ _ _) rfl ?_
        refine z_iload_n 36 dX9_soon_35 rfl rfl ?_
        refine z_cV1 39 dX9_soon_36 rfl kX6_delayOf zw_486 (Nat.le_of_ble_eq_true rfl) ⟨Nat.le_refl _, Nat.le_refl _⟩ (by first | with_reducible assumption | with_reducible exact zup_same _ _ _) ?_
        refine c_X6_delayOf hW.nw (by omega) ?_
        refine z_aload_n 40 dX9_soon_39 rfl rfl ?_
        refine z_getf (ci := 9) 43 dX9_soon_40 rfl rfl zin_9 0 (by decide) zw_224 (by first | with_reducible assumption | with_reducible exact zup_same _ _ _) rfl ?_
        refine z_iload_n 44 dX9_soon_43 rfl rfl ?_
        refine z_cV1 47 dX9_soon_44 rfl kX6_gapOf zw_487 (Nat.le_of_ble_eq_true rfl) ⟨Nat.le_refl _, Nat.le_refl _⟩ (by first | with_reducible assumption | with_reducible exact zup_same _ _ _) ?_
        refine c_X6_gapOf hW.nw (by omega) ?_
        refine z_cV2 50 dX9_soon_47 rfl kX1_count zw_612 (Nat.le_of_ble_eq_true rfl) ⟨Nat.le_refl _, Nat.le_refl _⟩ (by first | with_reducible assumption | with_reducible exact zup_same _ _ _) ?_
        refine w_count hW hNu hd (fun h1 B1 hW1 hN1 hB1 hF1 => ?_)
        refine z_iconst 51 dX9_soon_50 rfl ?_
        refine z_istore_n 52 dX9_soon_51 rfl (by decide) ?_
        exact key h1 B1 hW1 hN1 hB1 hF1 0 (Nat.zero_le _)
      · exfalso; omega
  · exact absurd (show 0 ≤ p ∧ p < ((N + 1 : Nat) : Int) by omega) (zb_0 c8)
theorem c_X9_knowers_no1 {k t : Int} (hW : zCW h (N, M, D, G, E, P) U C l fi ct S fl Kp W Kt c sd O) (hM : M ≤ 3) (hk : (-2147483648 ≤ k ∧ k ≤ 2147483647) ∧ ¬ (0 ≤ k ∧ k < M)) (hQ : Q (some (vI (-1))) h) : zC (d + 4) mX9_knowers 0 0 [vR 2, vI k, vI t] h Q := by
  have zo2 := hW.ob
  have zo3 := hW.nw.2.1
  refine zC.of zpl_X9 (Nat.le_of_ble_eq_true rfl) ?_
  refine z_aload_n 1 dX9_knowers_0 rfl rfl ?_
  refine z_getf (ci := 9) 4 dX9_knowers_1 rfl rfl zin_9 0 (by decide) zw_224 (by first | with_reducible assumption | with_reducible exact zup_same _ _ _) rfl ?_
  refine z_iload_n 5 dX9_knowers_4 rfl rfl ?_
  refine z_cV1 8 dX9_knowers_5 rfl kX6_hasNews zw_522 (Nat.le_of_ble_eq_true rfl) ⟨Nat.le_refl _, Nat.le_refl _⟩ (by first | with_reducible assumption | with_reducible exact zup_same _ _ _) ?_
  refine c_X6_hasNews hW.nw hk.1 (by omega) ?_
  refine z_if_ne 13 11 dX9_knowers_8 (by decide) rfl (by first | omega | exact zr_b _ | exact zr_and _ _ | exact zr_or _ _ | exact zr_shl _ _) (fun c8 => ?_) (fun c8 => ?_)
  · exact absurd (zb_1 c8) hk.2
  · try replace c8 := zb_0 c8
    refine z_iconst 12 dX9_knowers_11 rfl ?_
    refine z_ret dX9_knowers_12 (by first | exact True.intro | exact Or.inl rfl | exact Or.inr rfl | exact zb_01 _ | assumption | (show _ ∨ _; omega)) ⟨Nat.le_refl _, Nat.le_refl _⟩ ?_
    exact hQ
theorem c_X9_knowers_no2 {k t : Int} (hW : zCW h (N, M, D, G, E, P) U C l fi ct S fl Kp W Kt c sd O) (hM : M ≤ 3) (hk : 0 ≤ k ∧ k < M) (ht : (-2147483648 ≤ t ∧ t ≤ 2147483647) ∧ ¬ (0 ≤ t ∧ t ≤ 999)) (hQ : Q (some (vI (-2))) h) : zC (d + 4) mX9_knowers 0 0 [vR 2, vI k, vI t] h Q := by
  have zo2 := hW.ob
  have zo3 := hW.nw.2.1
  refine zC.of zpl_X9 (Nat.le_of_ble_eq_true rfl) ?_
  refine z_aload_n 1 dX9_knowers_0 rfl rfl ?_
  refine z_getf (ci := 9) 4 dX9_knowers_1 rfl rfl zin_9 0 (by decide) zw_224 (by first | with_reducible assumption | with_reducible exact zup_same _ _ _) rfl ?_
  refine z_iload_n 5 dX9_knowers_4 rfl rfl ?_
  refine z_cV1 8 dX9_knowers_5 rfl kX6_hasNews zw_522 (Nat.le_of_ble_eq_true rfl) ⟨Nat.le_refl _, Nat.le_refl _⟩ (by first | with_reducible assumption | with_reducible exact zup_same _ _ _) ?_
  refine c_X6_hasNews hW.nw (by omega) (by omega) ?_
  refine z_if_ne 13 11 dX9_knowers_8 (by decide) rfl (by first | omega | exact zr_b _ | exact zr_and _ _ | exact zr_or _ _ | exact zr_shl _ _) (fun c8 => ?_) (fun c8 => ?_)
  · try replace c8 := zb_1 c8
    refine z_iload_n 14 dX9_knowers_13 rfl rfl ?_
    refine z_if_lt 24 17 dX9_knowers_14 (by decide) rfl (by first | omega | exact zr_b _ | exact zr_and _ _ | exact zr_or _ _ | exact zr_shl _ _) (fun c14 => ?_) (fun c14 => ?_)
    · refine z_bipush 26 dX9_knowers_24 rfl (by decide) ?_
      refine z_ret dX9_knowers_26 (by first | exact True.intro | exact Or.inl rfl | exact Or.inr rfl | exact zb_01 _ | assumption | (show _ ∨ _; omega)) ⟨Nat.le_refl _, Nat.le_refl _⟩ ?_
      exact hQ
    · refine z_iload_n 18 dX9_knowers_17 rfl rfl ?_
      refine z_sipush 21 dX9_knowers_18 rfl (by decide) ?_
      refine z_icmp_le 27 24 dX9_knowers_21 (by decide) rfl (by first | omega | exact zr_b _ | exact zr_and _ _ | exact zr_or _ _ | exact zr_shl _ _) (by first | omega | exact zr_b _ | exact zr_and _ _ | exact zr_or _ _ | exact zr_shl _ _) (fun c21 => ?_) (fun c21 => ?_)
      · exfalso; omega
      · refine z_bipush 26 dX9_knowers_24 rfl (by decide) ?_
        refine z_ret dX9_knowers_26 (by first | exact True.intro | exact Or.inl rfl | exact Or.inr rfl | exact zb_01 _ | assumption | (show _ ∨ _; omega)) ⟨Nat.le_refl _, Nat.le_refl _⟩ ?_
        exact hQ
  · exact absurd hk (zb_0 c8)
theorem c_X9_knowers {k t : Int} (hW : zCW h (N, M, D, G, E, P) U C l fi ct S fl Kp W Kt c sd O) (hO : zOK 9 N D G E P) (hM : M ≤ 3) (hk : 0 ≤ k ∧ k < M) (ht : 0 ≤ t ∧ t ≤ 999) (hQ : ∀ h' : zH, zCW h' (N, M, D, G, E, P) U C l fi ct S fl Kp W Kt c sd O → zMod 2 111 h h' → Q (some (vI (zknw (fun p => zTK D G E P N M p k.toNat) t (N + 1)))) h') : zC (d + 4) mX9_knowers 0 0 [vR 2, vI k, vI t] h Q := by
  have hN := hO.1
  obtain ⟨k0, rfl⟩ : ∃ k0 : Nat, k = (k0 : Int) := ⟨k.toNat, by omega⟩
  rw [show ((k0 : Int)).toNat = k0 by omega] at hQ
  have hb : ∀ p : Nat, p ≤ N → 0 ≤ zTK D G E P N M p k0 ∧ zTK D G E P N M p k0 ≤ 840 := fun p hp => zTK_b hO (by omega) hM (by omega) (by omega) (by omega)
  have key : ∀ (h' : zH) (K' F' : Int → Int), zCW h' (N, M, D, G, E, P) U C l fi ct S fl Kp W Kt c sd O → zTim h' 13 K' F' → (∀ (p : Int) (k : Nat), 0 ≤ p → p ≤ N → k < M → K' (k * 8 + p) = zTK D G E P N M p k) → zMod 2 111 h h' → ∀ i : Nat, i ≤ N + 1 → Z (d + 4) mX9_knowers zo 44 [some (vR 2), some (vI k0), some (vI t), some (vI (zknw (fun p => zTK D G E P N M p k0) t i)), some (vI i)] [] h' Q := by
    intro h' K' F' hW' hX' hT' hF
    have zo2 := hW'.ob
    have zo3 := hW'.nw.2.1
    have zo13 := hX'.2.1
    refine z_loop (N + 1) ?_ ?_
    · refine z_iload 46 dX9_knowers_44 rfl rfl ?_
      refine z_aload_n 47 dX9_knowers_46 rfl rfl ?_
      refine z_getf (ci := 9) 50 dX9_knowers_47 rfl rfl zin_9 0 (by decide) zw_224 (by first | with_reducible assumption | with_reducible exact zup_same _ _ _) rfl ?_
      refine z_cV0 53 dX9_knowers_50 rfl kX6_people zw_401 (Nat.le_of_ble_eq_true rfl) ⟨Nat.le_refl _, Nat.le_refl _⟩ (by first | with_reducible assumption | with_reducible exact zup_same _ _ _) ?_
      refine c_X6_people hW'.nw ?_
      refine z_icmp_ge 83 56 dX9_knowers_53 (by decide) rfl (by first | omega | exact zr_b _ | exact zr_and _ _ | exact zr_or _ _ | exact zr_shl _ _) (by first | omega | exact zr_b _ | exact zr_and _ _ | exact zr_or _ _ | exact zr_shl _ _) (fun c53 => ?_) (fun c53 => ?_)
      · refine z_iload_n 84 dX9_knowers_83 rfl rfl ?_
        refine z_ret dX9_knowers_84 (by first | exact True.intro | exact Or.inl rfl | exact Or.inr rfl | exact zb_01 _ | assumption | (show _ ∨ _; omega)) ⟨Nat.le_refl _, Nat.le_refl _⟩ ?_
        exact hQ _ hW' hF
      · exfalso; omega
    · intro i hi ih
      have hbi := hb i (by omega)
      refine z_iload 46 dX9_knowers_44 rfl rfl ?_
      refine z_aload_n 47 dX9_knowers_46 rfl rfl ?_
      refine z_getf (ci := 9) 50 dX9_knowers_47 rfl rfl zin_9 0 (by decide) zw_224 (by first | with_reducible assumption | with_reducible exact zup_same _ _ _) rfl ?_
      refine z_cV0 53 dX9_knowers_50 rfl kX6_people zw_401 (Nat.le_of_ble_eq_true rfl) ⟨Nat.le_refl _, Nat.le_refl _⟩ (by first | with_reducible assumption | with_reducible exact zup_same _ _ _) ?_
      refine c_X6_people hW'.nw ?_
      refine z_icmp_ge 83 56 dX9_knowers_53 (by decide) rfl (by first | omega | exact zr_b _ | exact zr_and _ _ | exact zr_or _ _ | exact zr_shl _ _) (by first | omega | exact zr_b _ | exact zr_and _ _ | exact zr_or _ _ | exact zr_shl _ _) (fun c53 => ?_) (fun c53 => ?_)
      · exfalso; omega
      · refine z_aload_n 57 dX9_knowers_56 rfl rfl ?_
        refine z_getf (ci := 9) 60 dX9_knowers_57 rfl rfl zin_9 2 (by decide) zw_226 (by first | with_reducible assumption | with_reducible exact zup_same _ _ _) rfl ?_
        refine z_iload 62 dX9_knowers_60 rfl rfl ?_
        refine z_iload_n 63 dX9_knowers_62 rfl rfl ?_
        refine z_cV2 66 dX9_knowers_63 rfl kX8_tickOf zw_508 (Nat.le_of_ble_eq_true rfl) ⟨Nat.le_refl _, Nat.le_refl _⟩ (by first | with_reducible assumption | with_reducible exact zup_same _ _ _) ?_
        refine c_X8_tickOf hX' (by omega) ?_
        rw [hT' i k0 (by omega) (by omega) (by omega)]
        refine z_iload_n 67 dX9_knowers_66 rfl rfl ?_
        refine z_icmp_gt 77 70 dX9_knowers_67 (by decide) rfl (by first | omega | exact zr_b _ | exact zr_and _ _ | exact zr_or _ _ | exact zr_shl _ _) (by first | omega | exact zr_b _ | exact zr_and _ _ | exact zr_or _ _ | exact zr_shl _ _) (fun c67 => ?_) (fun c67 => ?_)
        · rw [show zknw (fun p => zTK D G E P N M p k0) t (i + 1) = zknw (fun p => zTK D G E P N M p k0) t i from if_neg (Int.not_le.mpr c67)] at ih
          refine z_iinc 80 dX9_knowers_77 rfl (by decide) rfl ?_
          refine z_goto 44 dX9_knowers_80 (by decide) ?_
          exact ih
        · rw [show zknw (fun p => zTK D G E P N M p k0) t (i + 1) = zor (zknw (fun p => zTK D G E P N M p k0) t i) (zshl 1 i) from if_pos c67] at ih
          refine z_iload_n 71 dX9_knowers_70 rfl rfl ?_
          refine z_iconst 72 dX9_knowers_71 rfl ?_
          refine z_iload 74 dX9_knowers_72 rfl rfl ?_
          refine z_ishl 75 dX9_knowers_74 rfl ?_
          refine z_ior 76 dX9_knowers_75 rfl ?_
          refine z_istore_n 77 dX9_knowers_76 rfl (by decide) ?_
          refine z_iinc 80 dX9_knowers_77 rfl (by decide) rfl ?_
          refine z_goto 44 dX9_knowers_80 (by decide) ?_
          exact ih
  have zo2 := hW.ob
  have zo3 := hW.nw.2.1
  obtain ⟨K, F, hX, hK0⟩ := hW.ti
  have zo13 := hX.2.1
  refine zC.of zpl_X9 (Nat.le_of_ble_eq_true rfl) ?_
  refine z_aload_n 1 dX9_knowers_0 rfl rfl ?_
  refine z_getf (ci := 9) 4 dX9_knowers_1 rfl rfl zin_9 0 (by decide) zw_224 (by first | with_reducible assumption | with_reducible exact zup_same _ _ _) rfl ?_
  refine z_iload_n 5 dX9_knowers_4 rfl rfl ?_
  refine z_cV1 8 dX9_knowers_5 rfl kX6_hasNews zw_522 (Nat.le_of_ble_eq_true rfl) ⟨Nat.le_refl _, Nat.le_refl _⟩ (by first | with_reducible assumption | with_reducible exact zup_same _ _ _) ?_
  refine c_X6_hasNews hW.nw (by omega) (by omega) ?_
  refine z_if_ne 13 11 dX9_knowers_8 (by decide) rfl (by first | omega | exact zr_b _ | exact zr_and _ _ | exact zr_or _ _ | exact zr_shl _ _) (fun c8 => ?_) (fun c8 => ?_)
  · try replace c8 := zb_1 c8
    refine z_iload_n 14 dX9_knowers_13 rfl rfl ?_
    refine z_if_lt 24 17 dX9_knowers_14 (by decide) rfl (by first | omega | exact zr_b _ | exact zr_and _ _ | exact zr_or _ _ | exact zr_shl _ _) (fun c14 => ?_) (fun c14 => ?_)
    · exfalso; omega
    · refine z_iload_n 18 dX9_knowers_17 rfl rfl ?_
      refine z_sipush 21 dX9_knowers_18 rfl (by decide) ?_
      refine z_icmp_le 27 24 dX9_knowers_21 (by decide) rfl (by first | omega | exact zr_b _ | exact zr_and _ _ | exact zr_or _ _ | exact zr_shl _ _) (by first | omega | exact zr_b _ | exact zr_and _ _ | exact zr_or _ _ | exact zr_shl _ _) (fun c21 => ?_) (fun c21 => ?_)
      · refine z_aload_n 28 dX9_knowers_27 rfl rfl ?_
        refine z_getf (ci := 9) 31 dX9_knowers_28 rfl rfl zin_9 2 (by decide) zw_226 (by first | with_reducible assumption | with_reducible exact zup_same _ _ _) rfl ?_
        refine z_aload_n 32 dX9_knowers_31 rfl rfl ?_
        refine z_getf (ci := 9) 35 dX9_knowers_32 rfl rfl zin_9 0 (by decide) zw_224 (by first | with_reducible assumption | with_reducible exact zup_same _ _ _) rfl ?_
        refine z_cV1 38 dX9_knowers_35 rfl kX8_follow zw_357 (Nat.le_of_ble_eq_true rfl) ⟨Nat.le_refl _, Nat.le_refl _⟩ (by first | with_reducible assumption | with_reducible exact zup_same _ _ _) ?_
        refine w_fol3 hW hO hM (fun h' K' F' hW' hX' hT' hF => ?_)
        refine z_pop 39 dX9_knowers_38 rfl ?_
        refine z_iconst 40 dX9_knowers_39 rfl ?_
        refine z_istore_n 41 dX9_knowers_40 rfl (by decide) ?_
        refine z_iconst 42 dX9_knowers_41 rfl ?_
        refine z_istore 44 dX9_knowers_42 rfl (by decide) ?_
        exact key h' K' F' hW' hX' hT' hF 0 (Nat.zero_le _)
      · exfalso; omega
  · exact absurd hk (zb_0 c8)
theorem c_X9_see_no1 {p t : Int} (hW : zCW h (N, M, D, G, E, P) U C l fi ct S fl Kp W Kt c sd O) (hN : N ≤ 7) (hp : (-2147483648 ≤ p ∧ p ≤ 2147483647) ∧ ¬ (0 ≤ p ∧ p < N + 1)) (hQ : Q (some (vI (-1))) h) : zC (d + 4) mX9_see 0 0 [vR 2, vI p, vI t] h Q := by
  have zo2 := hW.ob
  have zo3 := hW.nw.2.1
  refine zC.of zpl_X9 (Nat.le_of_ble_eq_true rfl) ?_
  refine z_aload_n 1 dX9_see_0 rfl rfl ?_
  refine z_getf (ci := 9) 4 dX9_see_1 rfl rfl zin_9 0 (by decide) zw_224 (by first | with_reducible assumption | with_reducible exact zup_same _ _ _) rfl ?_
  refine z_iload_n 5 dX9_see_4 rfl rfl ?_
  refine z_cV1 8 dX9_see_5 rfl kX6_hasPerson zw_482 (Nat.le_of_ble_eq_true rfl) ⟨Nat.le_refl _, Nat.le_refl _⟩ (by first | with_reducible assumption | with_reducible exact zup_same _ _ _) ?_
  refine c_X6_hasPerson hW.nw hp.1 (by omega) ?_
  refine z_if_ne 13 11 dX9_see_8 (by decide) rfl (by first | omega | exact zr_b _ | exact zr_and _ _ | exact zr_or _ _ | exact zr_shl _ _) (fun c8 => ?_) (fun c8 => ?_)
  · exact absurd (zb_1 c8) (by omega)
  · try replace c8 := zb_0 c8
    refine z_iconst 12 dX9_see_11 rfl ?_
    refine z_ret dX9_see_12 (by first | exact True.intro | exact Or.inl rfl | exact Or.inr rfl | exact zb_01 _ | assumption | (show _ ∨ _; omega)) ⟨Nat.le_refl _, Nat.le_refl _⟩ ?_
    exact hQ
theorem c_X9_see_no2 {p t : Int} (hW : zCW h (N, M, D, G, E, P) U C l fi ct S fl Kp W Kt c sd O) (hN : N ≤ 7) (hp : 0 ≤ p ∧ p < N + 1) (ht : (-2147483648 ≤ t ∧ t ≤ 2147483647) ∧ ¬ (0 ≤ t ∧ t ≤ 99)) (hQ : Q (some (vI (-2))) h) : zC (d + 4) mX9_see 0 0 [vR 2, vI p, vI t] h Q := by
  have zo2 := hW.ob
  have zo3 := hW.nw.2.1
  refine zC.of zpl_X9 (Nat.le_of_ble_eq_true rfl) ?_
  refine z_aload_n 1 dX9_see_0 rfl rfl ?_
  refine z_getf (ci := 9) 4 dX9_see_1 rfl rfl zin_9 0 (by decide) zw_224 (by first | with_reducible assumption | with_reducible exact zup_same _ _ _) rfl ?_
  refine z_iload_n 5 dX9_see_4 rfl rfl ?_
  refine z_cV1 8 dX9_see_5 rfl kX6_hasPerson zw_482 (Nat.le_of_ble_eq_true rfl) ⟨Nat.le_refl _, Nat.le_refl _⟩ (by first | with_reducible assumption | with_reducible exact zup_same _ _ _) ?_
  refine c_X6_hasPerson hW.nw (by omega) (by omega) ?_
  refine z_if_ne 13 11 dX9_see_8 (by decide) rfl (by first | omega | exact zr_b _ | exact zr_and _ _ | exact zr_or _ _ | exact zr_shl _ _) (fun c8 => ?_) (fun c8 => ?_)
  · try replace c8 := zb_1 c8
    refine z_iload_n 14 dX9_see_13 rfl rfl ?_
    refine z_if_lt 23 17 dX9_see_14 (by decide) rfl (by first | omega | exact zr_b _ | exact zr_and _ _ | exact zr_or _ _ | exact zr_shl _ _) (fun c14 => ?_) (fun c14 => ?_)
    · refine z_bipush 25 dX9_see_23 rfl (by decide) ?_
      refine z_ret dX9_see_25 (by first | exact True.intro | exact Or.inl rfl | exact Or.inr rfl | exact zb_01 _ | assumption | (show _ ∨ _; omega)) ⟨Nat.le_refl _, Nat.le_refl _⟩ ?_
      exact hQ
    · refine z_iload_n 18 dX9_see_17 rfl rfl ?_
      refine z_bipush 20 dX9_see_18 rfl (by decide) ?_
      refine z_icmp_le 26 23 dX9_see_20 (by decide) rfl (by first | omega | exact zr_b _ | exact zr_and _ _ | exact zr_or _ _ | exact zr_shl _ _) (by first | omega | exact zr_b _ | exact zr_and _ _ | exact zr_or _ _ | exact zr_shl _ _) (fun c20 => ?_) (fun c20 => ?_)
      · exfalso; omega
      · refine z_bipush 25 dX9_see_23 rfl (by decide) ?_
        refine z_ret dX9_see_25 (by first | exact True.intro | exact Or.inl rfl | exact Or.inr rfl | exact zb_01 _ | assumption | (show _ ∨ _; omega)) ⟨Nat.le_refl _, Nat.le_refl _⟩ ?_
        exact hQ
  · exact absurd (show 0 ≤ p ∧ p < ((N + 1 : Nat) : Int) by omega) (zb_0 c8)
theorem c_X9_see_no3 {p t : Int} (hW : zCW h (N, M, D, G, E, P) U C l fi ct S fl Kp W Kt c sd O) (hN : N ≤ 7) (hp : 0 ≤ p ∧ p < N + 1) (ht : 0 ≤ t ∧ t ≤ 99) (hc : c = 6) (hQ : Q (some (vI (-4))) h) : zC (d + 4) mX9_see 0 0 [vR 2, vI p, vI t] h Q := by
  have zo2 := hW.ob
  have zo3 := hW.nw.2.1
  have zo108 := hW.se.2.1
  refine zC.of zpl_X9 (Nat.le_of_ble_eq_true rfl) ?_
  refine z_aload_n 1 dX9_see_0 rfl rfl ?_
  refine z_getf (ci := 9) 4 dX9_see_1 rfl rfl zin_9 0 (by decide) zw_224 (by first | with_reducible assumption | with_reducible exact zup_same _ _ _) rfl ?_
  refine z_iload_n 5 dX9_see_4 rfl rfl ?_
  refine z_cV1 8 dX9_see_5 rfl kX6_hasPerson zw_482 (Nat.le_of_ble_eq_true rfl) ⟨Nat.le_refl _, Nat.le_refl _⟩ (by first | with_reducible assumption | with_reducible exact zup_same _ _ _) ?_
  refine c_X6_hasPerson hW.nw (by omega) (by omega) ?_
  refine z_if_ne 13 11 dX9_see_8 (by decide) rfl (by first | omega | exact zr_b _ | exact zr_and _ _ | exact zr_or _ _ | exact zr_shl _ _) (fun c8 => ?_) (fun c8 => ?_)
  · try replace c8 := zb_1 c8
    refine z_iload_n 14 dX9_see_13 rfl rfl ?_
    refine z_if_lt 23 17 dX9_see_14 (by decide) rfl (by first | omega | exact zr_b _ | exact zr_and _ _ | exact zr_or _ _ | exact zr_shl _ _) (fun c14 => ?_) (fun c14 => ?_)
    · exfalso; omega
    · refine z_iload_n 18 dX9_see_17 rfl rfl ?_
      refine z_bipush 20 dX9_see_18 rfl (by decide) ?_
      refine z_icmp_le 26 23 dX9_see_20 (by decide) rfl (by first | omega | exact zr_b _ | exact zr_and _ _ | exact zr_or _ _ | exact zr_shl _ _) (by first | omega | exact zr_b _ | exact zr_and _ _ | exact zr_or _ _ | exact zr_shl _ _) (fun c20 => ?_) (fun c20 => ?_)
      · refine z_aload_n 27 dX9_see_26 rfl rfl ?_
        refine z_getf (ci := 9) 30 dX9_see_27 rfl rfl zin_9 8 (by decide) zw_232 (by first | with_reducible assumption | with_reducible exact zup_same _ _ _) rfl ?_
        refine z_iload_n 31 dX9_see_30 rfl rfl ?_
        refine z_iload_n 32 dX9_see_31 rfl rfl ?_
        refine z_cV2 35 dX9_see_32 rfl kX2_add zw_661 (Nat.le_of_ble_eq_true rfl) ⟨Nat.le_refl _, Nat.le_refl _⟩ (by first | with_reducible assumption | with_reducible exact zup_same _ _ _) ?_
        refine c_X2_add_no hW.se (by omega) ?_
        refine z_if_eq 48 38 dX9_see_35 (by decide) rfl (by first | omega | exact zr_b _ | exact zr_and _ _ | exact zr_or _ _ | exact zr_shl _ _) (fun c35 => ?_) (fun c35 => ?_)
        · try replace c35 := zb_0 c35
          refine z_bipush 50 dX9_see_48 rfl (by decide) ?_
          refine z_ret dX9_see_50 (by first | exact True.intro | exact Or.inl rfl | exact Or.inr rfl | exact zb_01 _ | assumption | (show _ ∨ _; omega)) ⟨Nat.le_refl _, Nat.le_refl _⟩ ?_
          exact hQ
        · exact absurd rfl c35
      · exfalso; omega
  · exact absurd (show 0 ≤ p ∧ p < ((N + 1 : Nat) : Int) by omega) (zb_0 c8)
theorem c_X9_see {p t : Int} (hW : zCW h (N, M, D, G, E, P) U C l fi ct S fl Kp W Kt c sd O) (hN : N ≤ 7) (hp : 0 ≤ p ∧ p < N + 1) (ht : 0 ≤ t ∧ t ≤ 99) (hc : 0 ≤ c ∧ c < 6) (hQ : ∀ h' : zH, zCW h' (N, M, D, G, E, P) U C l fi ct S fl Kp (zst W c p) (zst Kt c t) (c + 1) sd O → zMod 2 111 h h' → Q (some (vI (c + 1))) h') : zC (d + 4) mX9_see 0 0 [vR 2, vI p, vI t] h Q := by
  have m1 : zMod 108 110 h (zup (zup (zup h (108 + 1) (zI 6 (zst W c p))) (108 + 2) (zI 6 (zst Kt c t))) 108 (zO 2 [vR (108 + 1), vR (108 + 2), vI (c + 1)])) := (((zMod.rf _ _ h).up _ (by omega)).up _ (by omega)).up _ (by omega)
  have W1 := hW.se_set (W' := zst W c p) (Kt' := zst Kt c t) (c' := c + 1) m1 ⟨by decide, zup_same _ _ _, by rw [zup_ne _ _ (by decide), zup_ne _ _ (by decide), zup_same], by rw [zup_ne _ _ (by decide), zup_same]⟩
  have zo2 := hW.ob
  have zo3 := hW.nw.2.1
  have zo108 := hW.se.2.1
  refine zC.of zpl_X9 (Nat.le_of_ble_eq_true rfl) ?_
  refine z_aload_n 1 dX9_see_0 rfl rfl ?_
  refine z_getf (ci := 9) 4 dX9_see_1 rfl rfl zin_9 0 (by decide) zw_224 (by first | with_reducible assumption | with_reducible exact zup_same _ _ _) rfl ?_
  refine z_iload_n 5 dX9_see_4 rfl rfl ?_
  refine z_cV1 8 dX9_see_5 rfl kX6_hasPerson zw_482 (Nat.le_of_ble_eq_true rfl) ⟨Nat.le_refl _, Nat.le_refl _⟩ (by first | with_reducible assumption | with_reducible exact zup_same _ _ _) ?_
  refine c_X6_hasPerson hW.nw (by omega) (by omega) ?_
  refine z_if_ne 13 11 dX9_see_8 (by decide) rfl (by first | omega | exact zr_b _ | exact zr_and _ _ | exact zr_or _ _ | exact zr_shl _ _) (fun c8 => ?_) (fun c8 => ?_)
  · try replace c8 := zb_1 c8
    refine z_iload_n 14 dX9_see_13 rfl rfl ?_
    refine z_if_lt 23 17 dX9_see_14 (by decide) rfl (by first | omega | exact zr_b _ | exact zr_and _ _ | exact zr_or _ _ | exact zr_shl _ _) (fun c14 => ?_) (fun c14 => ?_)
    · exfalso; omega
    · refine z_iload_n 18 dX9_see_17 rfl rfl ?_
      refine z_bipush 20 dX9_see_18 rfl (by decide) ?_
      refine z_icmp_le 26 23 dX9_see_20 (by decide) rfl (by first | omega | exact zr_b _ | exact zr_and _ _ | exact zr_or _ _ | exact zr_shl _ _) (by first | omega | exact zr_b _ | exact zr_and _ _ | exact zr_or _ _ | exact zr_shl _ _) (fun c20 => ?_) (fun c20 => ?_)
      · refine z_aload_n 27 dX9_see_26 rfl rfl ?_
        refine z_getf (ci := 9) 30 dX9_see_27 rfl rfl zin_9 8 (by decide) zw_232 (by first | with_reducible assumption | with_reducible exact zup_same _ _ _) rfl ?_
        refine z_iload_n 31 dX9_see_30 rfl rfl ?_
        refine z_iload_n 32 dX9_see_31 rfl rfl ?_
        refine z_cV2 35 dX9_see_32 rfl kX2_add zw_661 (Nat.le_of_ble_eq_true rfl) ⟨Nat.le_refl _, Nat.le_refl _⟩ (by first | with_reducible assumption | with_reducible exact zup_same _ _ _) ?_
        refine c_X2_add hW.se hc ?_
        have zo2 := W1.ob
        have zo108 := W1.se.2.1
        refine z_if_eq 48 38 dX9_see_35 (by decide) rfl (by first | omega | exact zr_b _ | exact zr_and _ _ | exact zr_or _ _ | exact zr_shl _ _) (fun c35 => ?_) (fun c35 => ?_)
        · exfalso; omega
        · try replace c35 := zb_1 c35
          refine z_aload_n 39 dX9_see_38 rfl rfl ?_
          refine z_getf (ci := 9) 42 dX9_see_39 rfl rfl zin_9 8 (by decide) zw_232 (by first | with_reducible assumption | with_reducible exact zup_same _ _ _) rfl ?_
          refine z_cV0 45 dX9_see_42 rfl kX2_count zw_474 (Nat.le_of_ble_eq_true rfl) ⟨Nat.le_refl _, Nat.le_refl _⟩ (by first | with_reducible assumption | with_reducible exact zup_same _ _ _) ?_
          refine c_X2_count W1.se ?_
          refine z_goto 50 dX9_see_45 (by decide) ?_
          refine z_ret dX9_see_50 (by first | exact True.intro | exact Or.inl rfl | exact Or.inr rfl | exact zb_01 _ | assumption | (show _ ∨ _; omega)) ⟨Nat.le_refl _, Nat.le_refl _⟩ ?_
          exact hQ _ W1 (m1.wd (by omega))
      · exfalso; omega
  · exact absurd (show 0 ≤ p ∧ p < ((N + 1 : Nat) : Int) by omega) (zb_0 c8)
theorem c_X9_unsee (hW : zCW h T U C l fi ct S fl Kp W Kt c sd O) (hQ : ∀ h' : zH, zCW h' T U C l fi ct S fl Kp W Kt 0 sd O → zMod 2 111 h h' → Q (some (vI c)) h') : zC (d + 4) mX9_unsee 0 0 [vR 2] h Q := by
  have m1 : zMod 108 110 h (zup h 108 (zO 2 [vR (108 + 1), vR (108 + 2), vI 0])) := (zMod.rf _ _ h).up _ (by omega)
  have W1 := hW.se_set (W' := W) (Kt' := Kt) (c' := 0) m1 ⟨by decide, zup_same _ _ _, by rw [zup_ne _ _ (by decide)]; exact hW.se.2.2.1, by rw [zup_ne _ _ (by decide)]; exact hW.se.2.2.2⟩
  have zo2 := hW.ob
  have zo108 := hW.se.2.1
  refine zC.of zpl_X9 (Nat.le_of_ble_eq_true rfl) ?_
  refine z_aload_n 1 dX9_unsee_0 rfl rfl ?_
  refine z_getf (ci := 9) 4 dX9_unsee_1 rfl rfl zin_9 8 (by decide) zw_232 (by first | with_reducible assumption | with_reducible exact zup_same _ _ _) rfl ?_
  refine z_cV0 7 dX9_unsee_4 rfl kX2_count zw_474 (Nat.le_of_ble_eq_true rfl) ⟨Nat.le_refl _, Nat.le_refl _⟩ (by first | with_reducible assumption | with_reducible exact zup_same _ _ _) ?_
  refine c_X2_count hW.se ?_
  refine z_istore_n 8 dX9_unsee_7 rfl (by decide) ?_
  refine z_aload_n 9 dX9_unsee_8 rfl rfl ?_
  refine z_getf (ci := 9) 12 dX9_unsee_9 rfl rfl zin_9 8 (by decide) zw_232 (by first | with_reducible assumption | with_reducible exact zup_same _ _ _) rfl ?_
  refine z_cV0 15 dX9_unsee_12 rfl kX2_forgetAll zw_670 (Nat.le_of_ble_eq_true rfl) ⟨Nat.le_refl _, Nat.le_refl _⟩ (by first | with_reducible assumption | with_reducible exact zup_same _ _ _) ?_
  refine c_X2_forgetAll hW.se ?_
  refine z_iload_n 16 dX9_unsee_15 rfl rfl ?_
  refine z_ret dX9_unsee_16 (by first | exact True.intro | exact Or.inl rfl | exact Or.inr rfl | exact zb_01 _ | assumption | (show _ ∨ _; omega)) ⟨Nat.le_refl _, Nat.le_refl _⟩ ?_
  exact hQ _ W1 (m1.wd (by omega))
theorem c_X9_which_no {p : Int} (hW : zCW h (N, M, D, G, E, P) U C l fi ct S fl Kp W Kt c sd O) (hN : N ≤ 7) (hp : (-2147483648 ≤ p ∧ p ≤ 2147483647) ∧ ¬ (0 ≤ p ∧ p < N + 1)) (hQ : Q (some (vI (-1))) h) : zC (d + 4) mX9_which 0 0 [vR 2, vI p] h Q := by
  have zo2 := hW.ob
  have zo3 := hW.nw.2.1
  refine zC.of zpl_X9 (Nat.le_of_ble_eq_true rfl) ?_
  refine z_aload_n 1 dX9_which_0 rfl rfl ?_
  refine z_getf (ci := 9) 4 dX9_which_1 rfl rfl zin_9 0 (by decide) zw_224 (by first | with_reducible assumption | with_reducible exact zup_same _ _ _) rfl ?_
  refine z_iload_n 5 dX9_which_4 rfl rfl ?_
  refine z_cV1 8 dX9_which_5 rfl kX6_hasPerson zw_482 (Nat.le_of_ble_eq_true rfl) ⟨Nat.le_refl _, Nat.le_refl _⟩ (by first | with_reducible assumption | with_reducible exact zup_same _ _ _) ?_
  refine c_X6_hasPerson hW.nw hp.1 (by omega) ?_
  refine z_if_ne 13 11 dX9_which_8 (by decide) rfl (by first | omega | exact zr_b _ | exact zr_and _ _ | exact zr_or _ _ | exact zr_shl _ _) (fun c8 => ?_) (fun c8 => ?_)
  · exact absurd (zb_1 c8) (by omega)
  · try replace c8 := zb_0 c8
    refine z_iconst 12 dX9_which_11 rfl ?_
    refine z_ret dX9_which_12 (by first | exact True.intro | exact Or.inl rfl | exact Or.inr rfl | exact zb_01 _ | assumption | (show _ ∨ _; omega)) ⟨Nat.le_refl _, Nat.le_refl _⟩ ?_
    exact hQ
theorem c_X9_which {p : Int} {sn : Nat} (hW : zCW h (N, M, D, G, E, P) U C l fi ct S fl Kp W Kt sn sd O) (hO : zOK 9 N D G E P) (hM : 1 ≤ M ∧ M ≤ 3) (hp : 0 ≤ p ∧ p < N + 1) (hsn : sn ≤ 6) (hse : ∀ i : Nat, i < sn → -2147483648 ≤ W i ∧ W i ≤ 2147483647 ∧ -2147483648 ≤ Kt i ∧ Kt i ≤ 2147483647)
    (hQ : ∀ (h' : zH) (U' : zTD), zCW h' (N, M, D, G, E, P) U' C l fi ct S fl Kp W Kt sn sd O → zMod 2 111 h h' → Q (some (vI (zwhi (fun d => zissb W Kt (fun q => zTK (zst D p d) G E P N M q 0) ((N + 1 : Nat) : Int) sn) 9))) h') : zC (d + 4) mX9_which 0 0 [vR 2, vI p] h Q := by
  have hN := hO.1
  have hOj : ∀ j : Nat, 1 ≤ j → j ≤ 9 → zOK 9 N (zst D p j) G E P := fun j h1 h2 => hO.setD (by omega) (by omega)
  have key : ∀ i : Nat, i ≤ 9 → ∀ (h' : zH) (x : Int), zCW h' (N, M, D, G, E, P) (N, M, zst D p x, G, E, P) C l fi ct S fl Kp W Kt sn sd O → zMod 2 111 h h' → Z (d + 4) mX9_which zo 28 [some (vR 2), some (vI p), some (vI (zwhi (fun d => zissb W Kt (fun q => zTK (zst D p d) G E P N M q 0) ((N + 1 : Nat) : Int) sn) i)), some (vI ((i + 1 : Nat) : Int))] [] h' Q := by
    refine z_loop 9 ?_ ?_
    · intro h' x hW' hF
      refine z_iload_n 29 dX9_which_28 rfl rfl ?_
      refine z_bipush 31 dX9_which_29 rfl (by decide) ?_
      refine z_icmp_gt 85 34 dX9_which_31 (by decide) rfl (by first | omega | exact zr_b _ | exact zr_and _ _ | exact zr_or _ _ | exact zr_shl _ _) (by first | omega | exact zr_b _ | exact zr_and _ _ | exact zr_or _ _ | exact zr_shl _ _) (fun c31 => ?_) (fun c31 => ?_)
      · refine z_iload_n 86 dX9_which_85 rfl rfl ?_
        refine z_ret dX9_which_86 (by first | exact True.intro | exact Or.inl rfl | exact Or.inr rfl | exact zb_01 _ | assumption | (show _ ∨ _; omega)) ⟨Nat.le_refl _, Nat.le_refl _⟩ ?_
        exact hQ _ _ hW' hF
      · exfalso; omega
    · intro i hi ih h' x hW' hF
      have hO1 := hOj (i + 1) (by omega) (by omega)
      have zo2 := hW'.ob
      have zo8 := hW'.su.2.1
      refine z_iload_n 29 dX9_which_28 rfl rfl ?_
      refine z_bipush 31 dX9_which_29 rfl (by decide) ?_
      refine z_icmp_gt 85 34 dX9_which_31 (by decide) rfl (by first | omega | exact zr_b _ | exact zr_and _ _ | exact zr_or _ _ | exact zr_shl _ _) (by first | omega | exact zr_b _ | exact zr_and _ _ | exact zr_or _ _ | exact zr_shl _ _) (fun c31 => ?_) (fun c31 => ?_)
      · exfalso; omega
      · refine z_aload_n 35 dX9_which_34 rfl rfl ?_
        refine z_getf (ci := 9) 38 dX9_which_35 rfl rfl zin_9 1 (by decide) zw_225 (by first | with_reducible assumption | with_reducible exact zup_same _ _ _) rfl ?_
        refine z_iload_n 39 dX9_which_38 rfl rfl ?_
        refine z_iload_n 40 dX9_which_39 rfl rfl ?_
        refine z_cV2 43 dX9_which_40 rfl kX6_setDelay zw_503 (Nat.le_of_ble_eq_true rfl) ⟨Nat.le_refl _, Nat.le_refl _⟩ (by first | with_reducible assumption | with_reducible exact zup_same _ _ _) ?_
        refine w_setD8 hW' (by omega) (fun h2 hW2 hF2 => ?_)
        rw [zst_zst] at hW2
        have zo2 := hW2.ob
        obtain ⟨K, F, hX, hK0⟩ := hW2.ti
        have zo13 := hX.2.1
        have zo8 := hW2.su.2.1
        refine z_aload_n 44 dX9_which_43 rfl rfl ?_
        refine z_getf (ci := 9) 47 dX9_which_44 rfl rfl zin_9 2 (by decide) zw_226 (by first | with_reducible assumption | with_reducible exact zup_same _ _ _) rfl ?_
        refine z_aload_n 48 dX9_which_47 rfl rfl ?_
        refine z_getf (ci := 9) 51 dX9_which_48 rfl rfl zin_9 1 (by decide) zw_225 (by first | with_reducible assumption | with_reducible exact zup_same _ _ _) rfl ?_
        refine z_cV1 54 dX9_which_51 rfl kX8_follow zw_357 (Nat.le_of_ble_eq_true rfl) ⟨Nat.le_refl _, Nat.le_refl _⟩ (by first | with_reducible assumption | with_reducible exact zup_same _ _ _) ?_
        refine w_fol8 hW2 hO1 (by omega) hM.2 (fun h3 K3 F3 hW3 hX3 hT3 hF3 => ?_)
        have zo2 := hW3.ob
        have zo108 := hW3.se.2.1
        refine z_pop 55 dX9_which_54 rfl ?_
        refine z_aload_n 56 dX9_which_55 rfl rfl ?_
        refine z_getf (ci := 9) 59 dX9_which_56 rfl rfl zin_9 8 (by decide) zw_232 (by first | with_reducible assumption | with_reducible exact zup_same _ _ _) rfl ?_
        refine z_aload_n 60 dX9_which_59 rfl rfl ?_
        refine z_getf (ci := 9) 63 dX9_which_60 rfl rfl zin_9 1 (by decide) zw_225 (by first | with_reducible assumption | with_reducible exact zup_same _ _ _) rfl ?_
        refine z_aload_n 64 dX9_which_63 rfl rfl ?_
        refine z_getf (ci := 9) 67 dX9_which_64 rfl rfl zin_9 2 (by decide) zw_226 (by first | with_reducible assumption | with_reducible exact zup_same _ _ _) rfl ?_
        refine z_cV2 70 dX9_which_67 rfl kX2_isSo zw_678 (Nat.le_of_ble_eq_true rfl) ⟨Nat.le_refl _, Nat.le_refl _⟩ (by first | with_reducible assumption | with_reducible exact zup_same _ _ _) ?_
        have hiff := zissb_iff (W := W) (K := Kt) (T := fun q => zTK (zst D p ((i + 1 : Nat) : Int)) G E P N M q 0) (T' := K3) (n := ((N + 1 : Nat) : Int)) (fun q h1 h2 => by have := hT3 q 0 h1 (by omega) (by omega); simpa using this) (N := sn)
        suffices hs : Z (d + 3 + 1) mX9_which zo 70 [some (vR 2), some (vI p), some (vI (zwhi (fun d => zissb W Kt (fun q => zTK (zst D p d) G E P N M q 0) ((N + 1 : Nat) : Int) sn) i)), some (vI ((i + 1 : Nat) : Int))] [vI (zb (zissb W Kt (fun q => zTK (zst D p ((i + 1 : Nat) : Int)) G E P N M q 0) ((N + 1 : Nat) : Int) sn = true))] h3 Q from by
          refine c_X2_isSo hW3.se hsn hX3 hW3.su (by omega) hse (fun q h1 h2 => ?_) (fun hy => ?_) (fun hn => ?_)
          · have := hT3 q 0 h1 (by omega) (by omega)
            have hb := zTK_b hO1 (by omega) hM.2 (p := q) (k := 0) h1 (by omega) (by omega)
            rw [show ((0 : Nat) : Int) * 8 + q = q by omega] at this
            omega
          · rw [zb_t (hiff.mpr hy)] at hs; exact hs
          · rw [zb_f (fun q => hn (hiff.mp q))] at hs; exact hs
        refine z_if_eq 79 73 dX9_which_70 (by decide) rfl (by first | omega | exact zr_b _ | exact zr_and _ _ | exact zr_or _ _ | exact zr_shl _ _) (fun c70 => ?_) (fun c70 => ?_)
        · try replace c70 := zb_0 c70
          rw [show zwhi (fun d => zissb W Kt (fun q => zTK (zst D p d) G E P N M q 0) ((N + 1 : Nat) : Int) sn) (i + 1) = zwhi (fun d => zissb W Kt (fun q => zTK (zst D p d) G E P N M q 0) ((N + 1 : Nat) : Int) sn) i from if_neg c70] at ih
          refine z_iinc 82 dX9_which_79 rfl (by decide) rfl ?_
          refine z_goto 28 dX9_which_82 (by decide) ?_
          exact ih h3 _ hW3 (hF.tr (hF2.tr hF3))
        · try replace c70 := zb_1 c70
          rw [show zwhi (fun d => zissb W Kt (fun q => zTK (zst D p d) G E P N M q 0) ((N + 1 : Nat) : Int) sn) (i + 1) = zor (zwhi (fun d => zissb W Kt (fun q => zTK (zst D p d) G E P N M q 0) ((N + 1 : Nat) : Int) sn) i) (zshl 1 ((i + 1 : Nat) : Int)) from if_pos c70] at ih
          refine z_iload_n 74 dX9_which_73 rfl rfl ?_
          refine z_iconst 75 dX9_which_74 rfl ?_
          refine z_iload_n 76 dX9_which_75 rfl rfl ?_
          refine z_ishl 77 dX9_which_76 rfl ?_
          refine z_ior 78 dX9_which_77 rfl ?_
          refine z_istore_n 79 dX9_which_78 rfl (by decide) ?_
          refine z_iinc 82 dX9_which_79 rfl (by decide) rfl ?_
          refine z_goto 28 dX9_which_82 (by decide) ?_
          exact ih h3 _ hW3 (hF.tr (hF2.tr hF3))
  obtain ⟨N0, M0, D0, G0, E0, P0⟩ := U
  have zo2 := hW.ob
  have zo3 := hW.nw.2.1
  have zo8 := hW.su.2.1
  refine zC.of zpl_X9 (Nat.le_of_ble_eq_true rfl) ?_
  refine z_aload_n 1 dX9_which_0 rfl rfl ?_
  refine z_getf (ci := 9) 4 dX9_which_1 rfl rfl zin_9 0 (by decide) zw_224 (by first | with_reducible assumption | with_reducible exact zup_same _ _ _) rfl ?_
  refine z_iload_n 5 dX9_which_4 rfl rfl ?_
  refine z_cV1 8 dX9_which_5 rfl kX6_hasPerson zw_482 (Nat.le_of_ble_eq_true rfl) ⟨Nat.le_refl _, Nat.le_refl _⟩ (by first | with_reducible assumption | with_reducible exact zup_same _ _ _) ?_
  refine c_X6_hasPerson hW.nw (by omega) (by omega) ?_
  refine z_if_ne 13 11 dX9_which_8 (by decide) rfl (by first | omega | exact zr_b _ | exact zr_and _ _ | exact zr_or _ _ | exact zr_shl _ _) (fun c8 => ?_) (fun c8 => ?_)
  · try replace c8 := zb_1 c8
    refine z_aload_n 14 dX9_which_13 rfl rfl ?_
    refine z_getf (ci := 9) 17 dX9_which_14 rfl rfl zin_9 1 (by decide) zw_225 (by first | with_reducible assumption | with_reducible exact zup_same _ _ _) rfl ?_
    refine z_aload_n 18 dX9_which_17 rfl rfl ?_
    refine z_getf (ci := 9) 21 dX9_which_18 rfl rfl zin_9 0 (by decide) zw_224 (by first | with_reducible assumption | with_reducible exact zup_same _ _ _) rfl ?_
    refine z_cV1 24 dX9_which_21 rfl kX6_become zw_410 (Nat.le_of_ble_eq_true rfl) ⟨Nat.le_refl _, Nat.le_refl _⟩ (by first | with_reducible assumption | with_reducible exact zup_same _ _ _) ?_
    refine w_bec hW (fun h2 hW2 hF2 => ?_)
    refine z_iconst 25 dX9_which_24 rfl ?_
    refine z_istore_n 26 dX9_which_25 rfl (by decide) ?_
    refine z_iconst 27 dX9_which_26 rfl ?_
    refine z_istore_n 28 dX9_which_27 rfl (by decide) ?_
    refine key 0 (Nat.zero_le _) h2 (D p) ?_ hF2
    rw [zst_self]
    exact hW2
  · exact absurd (show 0 ≤ p ∧ p < ((N + 1 : Nat) : Int) by omega) (zb_0 c8)
theorem c_X9_seed {v : Int} (hW : zCW h T U C l fi ct S fl Kp W Kt c sd O) (hQ : ∀ h' : zH, zCW h' T U C l fi ct S fl Kp W Kt c v O → zMod 2 111 h h' → Q (some (vJ sd)) h') : zC d mX9_seed 0 0 [vR 2, vJ v] h Q := by
  have m1 : zMod 2 2 h (zup h 2 (zO 9 [vR 3, vR 8, vR 13, vR 16, vR 18, vR 20, vR 22, vR 95, vR 108, vR 111, vJ v])) := (zMod.rf _ _ h).up _ (by omega)
  have zo2 := hW.ob
  refine zC.of zpl_X9 (Nat.le_of_ble_eq_true rfl) ?_
  refine z_aload_n 1 dX9_seed_0 rfl rfl ?_
  refine z_getf (ci := 9) 4 dX9_seed_1 rfl rfl zin_9 10 (by decide) zw_234 (by first | with_reducible assumption | with_reducible exact zup_same _ _ _) rfl ?_
  refine z_lstore_n 5 dX9_seed_4 rfl (by decide) ?_
  refine z_aload_n 6 dX9_seed_5 rfl rfl ?_
  refine z_lload_n 7 dX9_seed_6 rfl rfl ?_
  refine z_putf (ci := 9) 10 dX9_seed_7 rfl rfl zin_9 tyX9_ok nmX9 10 (by decide) zw_234 rfl (fun _ => ⟨rfl, rfl⟩) (by omega) (by first | with_reducible assumption | with_reducible exact zup_same _ _ _) (Nat.le_of_ble_eq_true rfl) ?_
  refine z_lload_n 11 dX9_seed_10 rfl rfl ?_
  refine z_lret dX9_seed_11 (by first | exact True.intro | exact Or.inl rfl | exact Or.inr rfl | exact zb_01 _ | assumption | (show _ ∨ _; omega)) ⟨Nat.le_refl _, Nat.le_refl _⟩ ?_
  exact hQ _ (hW.ob_set m1 (zup_same _ _ _)) (m1.wd (by omega))
end ASKED
