/-! LateLetters: fractions, shares, chances -/
/-- how many of the first k bits -/
def zones (x : Int) : Nat → Int
  | 0 => 0
  | k + 1 => zones x k + zand (zshr x k) 1
/-- Integer.bitCount, as its code has it -/
def zbc1 (x : Int) : Int := x - zand (zushr x 1) 1431655765
def zbc2 (x : Int) : Int := zand (zbc1 x) 858993459 + zand (zushr (zbc1 x) 2) 858993459
def zbc3 (x : Int) : Int := zand (zbc2 x + zushr (zbc2 x) 4) 252645135
def zbc4 (x : Int) : Int := zbc3 x + zushr (zbc3 x) 8
def zbc5 (x : Int) : Int := zbc4 x + zushr (zbc4 x) 16
def zbc (x : Int) : Int := zand (zbc5 x) 63
theorem zbc_256 : ∀ n : Nat, n < 256 → zbc n = zones n 8 ∧ 0 ≤ zones n 8 ∧ zones n 8 ≤ 8 := by decide +kernel
theorem zbc_ok {x : Int} (h : 0 ≤ x ∧ x < 256) : zbc x = zones x 8 ∧ 0 ≤ zones x 8 ∧ zones x 8 ≤ 8 := by
  have := zbc_256 x.toNat (by omega)
  rw [show ((x.toNat : Nat) : Int) = x by omega] at this
  exact this
/-- Euclid's way -/
def zeu (a b : Nat) : Nat → Nat × Nat
  | 0 => (a, b)
  | k + 1 => if (zeu a b k).2 = 0 then zeu a b k else ((zeu a b k).2, (zeu a b k).1 % (zeu a b k).2)
theorem zeu_gcd (a b : Nat) : ∀ k : Nat, Nat.gcd (zeu a b k).1 (zeu a b k).2 = Nat.gcd a b
  | 0 => rfl
  | k + 1 => by
    have ih := zeu_gcd a b k
    unfold zeu
    split
    · exact ih
    · rw [← ih, Nat.gcd_comm (zeu a b k).1, Nat.gcd_rec (zeu a b k).2 (zeu a b k).1, Nat.gcd_comm]
theorem zeu_add (a b : Nat) (j : Nat) : ∀ k : Nat, zeu a b (j + k) = zeu (zeu a b j).1 (zeu a b j).2 k
  | 0 => rfl
  | k + 1 => by
    have ih := zeu_add a b j k
    show (if (zeu a b (j + k)).2 = 0 then zeu a b (j + k) else ((zeu a b (j + k)).2, (zeu a b (j + k)).1 % (zeu a b (j + k)).2)) = _
    rw [ih]; rfl
theorem zeu_z {a : Nat} : ∀ k : Nat, zeu a 0 k = (a, 0)
  | 0 => rfl
  | k + 1 => by unfold zeu; rw [zeu_z k]; rfl
theorem zeu_end : ∀ (k a b : Nat), b < 2 ^ k → (zeu a b (2 * k)).2 = 0
  | 0, a, b, h => by simp at h; subst h; rfl
  | k + 1, a, b, h => by
    by_cases hb : b = 0
    · subst hb; rw [zeu_z]
    · have e1 : zeu a b 1 = (b, a % b) := by
        show (if b = 0 then (a, b) else (b, a % b)) = _
        rw [if_neg hb]
      have hr : a % b < b := Nat.mod_lt _ (by omega)
      by_cases hr0 : a % b = 0
      · rw [show 2 * (k + 1) = 1 + (2 * k + 1) by omega, zeu_add, e1, hr0, zeu_z]
      · have e2 : zeu a b 2 = (a % b, b % (a % b)) := by
          rw [show 2 = 1 + 1 from rfl, zeu_add, e1]
          show (if a % b = 0 then (b, a % b) else (a % b, b % (a % b))) = _
          rw [if_neg hr0]
        have hr2 : b % (a % b) < a % b := Nat.mod_lt _ (by omega)
        have hdm := Nat.div_add_mod b (a % b)
        have hdiv : 1 ≤ b / (a % b) := (Nat.one_le_div_iff (by omega)).mpr (by omega)
        have hmul : a % b ≤ (a % b) * (b / (a % b)) := Nat.le_mul_of_pos_right _ hdiv
        rw [show 2 * (k + 1) = 2 + 2 * k by omega, zeu_add, e2]
        refine zeu_end k _ _ ?_
        have : 2 ^ (k + 1) = 2 * 2 ^ k := by rw [Nat.pow_succ]; omega
        omega
theorem zeu_le (a b : Nat) : ∀ k : Nat, (zeu a b k).1 ≤ max a b ∧ (zeu a b k).2 ≤ max a b
  | 0 => by show a ≤ max a b ∧ b ≤ max a b; omega
  | k + 1 => by
    have ih := zeu_le a b k
    unfold zeu
    split
    · exact ih
    · next h => have := Nat.mod_lt (zeu a b k).1 (show 0 < (zeu a b k).2 by omega); dsimp only; omega
/-- a part of a fraction in least terms -/
def zpart (a b : Nat) (up : Int) : Int := if up ≠ 0 then ((a / Nat.gcd a b : Nat) : Int) else ((b / Nat.gcd a b : Nat) : Int)
theorem zl2i_nat {n : Nat} (h : n ≤ 2147483647) : zl2i (n : Int) = n := zl2i_small (by omega)
section FRACT
variable {d : Nat} {h : zH} {Q : Option zV → zH → Prop}
theorem c_bitCount {x : Int} (hx : 0 ≤ x ∧ x < 256) (hQ : Q (some (vI (zones x 8))) h) : zC d mJ6_bitCount_0f7a4 0 0 [vI x] h Q := by
  rw [← (zbc_ok hx).1] at hQ
  refine zC.of zpl_J6 (Nat.le_of_ble_eq_true rfl) ?_
  refine z_iload_n 1 dJ6_bitCount_0f7a4_0 rfl rfl ?_
  refine z_iload_n 2 dJ6_bitCount_0f7a4_1 rfl rfl ?_
  refine z_iconst 3 dJ6_bitCount_0f7a4_2 rfl ?_
  refine z_iushr 4 dJ6_bitCount_0f7a4_3 rfl ?_
  refine z_ldcw (x := 1431655765) 7 dJ6_bitCount_0f7a4_4 rfl zw_705 ?_
  refine z_iand 8 dJ6_bitCount_0f7a4_7 rfl ?_
  refine z_isub 9 dJ6_bitCount_0f7a4_8 rfl ?_
  refine z_istore_n 10 dJ6_bitCount_0f7a4_9 rfl (by decide) ?_
  refine z_iload_n 11 dJ6_bitCount_0f7a4_10 rfl rfl ?_
  refine z_ldcw (x := 858993459) 14 dJ6_bitCount_0f7a4_11 rfl zw_706 ?_
  refine z_iand 15 dJ6_bitCount_0f7a4_14 rfl ?_
  refine z_iload_n 16 dJ6_bitCount_0f7a4_15 rfl rfl ?_
  refine z_iconst 17 dJ6_bitCount_0f7a4_16 rfl ?_
  refine z_iushr 18 dJ6_bitCount_0f7a4_17 rfl ?_
  refine z_ldcw (x := 858993459) 21 dJ6_bitCount_0f7a4_18 rfl zw_706 ?_
  refine z_iand 22 dJ6_bitCount_0f7a4_21 rfl ?_
  refine z_iadd 23 dJ6_bitCount_0f7a4_22 rfl ?_
  refine z_istore_n 24 dJ6_bitCount_0f7a4_23 rfl (by decide) ?_
  refine z_iload_n 25 dJ6_bitCount_0f7a4_24 rfl rfl ?_
  refine z_iload_n 26 dJ6_bitCount_0f7a4_25 rfl rfl ?_
  refine z_iconst 27 dJ6_bitCount_0f7a4_26 rfl ?_
  refine z_iushr 28 dJ6_bitCount_0f7a4_27 rfl ?_
  refine z_iadd 29 dJ6_bitCount_0f7a4_28 rfl ?_
  refine z_ldcw (x := 252645135) 32 dJ6_bitCount_0f7a4_29 rfl zw_707 ?_
  refine z_iand 33 dJ6_bitCount_0f7a4_32 rfl ?_
  refine z_istore_n 34 dJ6_bitCount_0f7a4_33 rfl (by decide) ?_
  refine z_iload_n 35 dJ6_bitCount_0f7a4_34 rfl rfl ?_
  refine z_iload_n 36 dJ6_bitCount_0f7a4_35 rfl rfl ?_
  refine z_bipush 38 dJ6_bitCount_0f7a4_36 rfl (by decide) ?_
  refine z_iushr 39 dJ6_bitCount_0f7a4_38 rfl ?_
  refine z_iadd 40 dJ6_bitCount_0f7a4_39 rfl ?_
  refine z_istore_n 41 dJ6_bitCount_0f7a4_40 rfl (by decide) ?_
  refine z_iload_n 42 dJ6_bitCount_0f7a4_41 rfl rfl ?_
  refine z_iload_n 43 dJ6_bitCount_0f7a4_42 rfl rfl ?_
  refine z_bipush 45 dJ6_bitCount_0f7a4_43 rfl (by decide) ?_
  refine z_iushr 46 dJ6_bitCount_0f7a4_45 rfl ?_
  refine z_iadd 47 dJ6_bitCount_0f7a4_46 rfl ?_
  refine z_istore_n 48 dJ6_bitCount_0f7a4_47 rfl (by decide) ?_
  refine z_iload_n 49 dJ6_bitCount_0f7a4_48 rfl rfl ?_
  refine z_bipush 51 dJ6_bitCount_0f7a4_49 rfl (by decide) ?_
  refine z_iand 52 dJ6_bitCount_0f7a4_51 rfl ?_
  refine z_ret dJ6_bitCount_0f7a4_52 (by first | exact True.intro | exact Or.inl rfl | exact Or.inr rfl | exact zb_01 _ | assumption | (show _ ∨ _; omega)) ⟨Nat.le_refl _, Nat.le_refl _⟩ ?_
  exact hQ
theorem c_X9_factorial {k : Int} (hf : h.1 1 = some (zJ 9 zfac)) (hk : 0 ≤ k ∧ k < 9) (hQ : Q (some (vJ (zfac k))) h) : zC d mX9_factorial 0 0 [vI k] h Q := by
  refine zC.of zpl_X9 (Nat.le_of_ble_eq_true rfl) ?_
  refine z_iload_n 1 dX9_factorial_0 rfl rfl ?_
  refine z_if_lt 20 4 dX9_factorial_1 (by decide) rfl (by first | omega | exact zr_b _ | exact zr_and _ _ | exact zr_or _ _ | exact zr_shl _ _) (fun c1 => ?_) (fun c1 => ?_)
  · exfalso; omega
  · refine z_iload_n 5 dX9_factorial_4 rfl rfl ?_
    refine z_gets 8 dX9_factorial_5 rfl zw_711 ?_
    refine z_alen 9 dX9_factorial_8 rfl (by first | with_reducible assumption | with_reducible exact zup_same _ _ _) ?_
    refine z_icmp_ge 20 12 dX9_factorial_9 (by decide) rfl (by first | omega | exact zr_b _ | exact zr_and _ _ | exact zr_or _ _ | exact zr_shl _ _) (by first | omega | exact zr_b _ | exact zr_and _ _ | exact zr_or _ _ | exact zr_shl _ _) (fun c9 => ?_) (fun c9 => ?_)
    · exfalso; omega
    · refine z_gets 15 dX9_factorial_12 rfl zw_711 ?_
      refine z_iload_n 16 dX9_factorial_15 rfl rfl ?_
      refine z_lald 17 dX9_factorial_16 rfl (by first | with_reducible assumption | with_reducible exact zup_same _ _ _) (by omega) (by first | omega | exact zr_b _ | exact zr_and _ _ | exact zr_or _ _ | exact zr_shl _ _) ?_
      refine z_goto 21 dX9_factorial_17 (by decide) ?_
      refine z_lret dX9_factorial_21 (by first | exact True.intro | exact Or.inl rfl | exact Or.inr rfl | exact zb_01 _ | assumption | (show _ ∨ _; omega)) ⟨Nat.le_refl _, Nat.le_refl _⟩ ?_
      exact hQ
theorem c_X9_commonDivisor {a b : Nat} (ha : a ≤ 4611686018427387904) (hb : b ≤ 4611686018427387904) (hQ : Q (some (vJ (Nat.gcd a b : Nat))) h) : zC d mX9_commonDivisor 0 0 [vJ a, vJ b] h Q := by
  have hz : (zeu a b 128).2 = 0 := by
    have h63 : (2 : Nat) ^ 63 = 9223372036854775808 := by decide
    have := zeu_end 63 a b (by omega)
    rw [show 128 = 2 * 63 + 2 from rfl, zeu_add]
    have e : zeu a b (2 * 63) = ((zeu a b (2 * 63)).1, 0) := by rw [← this]
    rw [e]; dsimp only; rw [zeu_z]
  have key : ∀ i : Nat, i ≤ 128 → ∀ w : Option zV, Z d mX9_commonDivisor zo 9 [some (vJ a), none, some (vJ b), none, some (vJ ((zeu a b i).1 : Nat)), none, some (vJ ((zeu a b i).2 : Nat)), none, some (vI i), w, none] [] h Q := by
    refine z_loop 128 ?_ ?_
    · intro w
      have hg := zeu_gcd a b 128
      rw [hz, Nat.gcd_zero_right] at hg
      rw [hg, hz]
      refine z_iload 11 dX9_commonDivisor_9 rfl rfl ?_
      refine z_sipush 14 dX9_commonDivisor_11 rfl (by decide) ?_
      refine z_icmp_ge 45 17 dX9_commonDivisor_14 (by decide) rfl (by first | omega | exact zr_b _ | exact zr_and _ _ | exact zr_or _ _ | exact zr_shl _ _) (by first | omega | exact zr_b _ | exact zr_and _ _ | exact zr_or _ _ | exact zr_shl _ _) (fun c14 => ?_) (fun c14 => ?_)
      · refine z_lload 47 dX9_commonDivisor_45 rfl rfl ?_
        refine z_lret dX9_commonDivisor_47 (by first | exact True.intro | exact Or.inl rfl | exact Or.inr rfl | exact zb_01 _ | assumption | (show _ ∨ _; omega)) ⟨Nat.le_refl _, Nat.le_refl _⟩ ?_
        exact hQ
      · exfalso; omega
    · intro i hi ih w
      have hle := zeu_le a b i
      by_cases e : (zeu a b i).2 = 0
      · have hg := zeu_gcd a b i
        rw [e, Nat.gcd_zero_right] at hg
        rw [hg, e]
        refine z_iload 11 dX9_commonDivisor_9 rfl rfl ?_
        refine z_sipush 14 dX9_commonDivisor_11 rfl (by decide) ?_
        refine z_icmp_ge 45 17 dX9_commonDivisor_14 (by decide) rfl (by first | omega | exact zr_b _ | exact zr_and _ _ | exact zr_or _ _ | exact zr_shl _ _) (by first | omega | exact zr_b _ | exact zr_and _ _ | exact zr_or _ _ | exact zr_shl _ _) (fun c14 => ?_) (fun c14 => ?_)
        · exfalso; omega
        · refine z_lload 19 dX9_commonDivisor_17 rfl rfl ?_
          refine z_lconst 20 dX9_commonDivisor_19 rfl ?_
          refine z_lcmp 21 dX9_commonDivisor_20 rfl (by first | omega | exact zr_b _ | exact zr_and _ _ | exact zr_or _ _ | exact zr_shl _ _) (by first | omega | exact zr_b _ | exact zr_and _ _ | exact zr_or _ _ | exact zr_shl _ _) ?_
          refine z_if_eq 45 24 dX9_commonDivisor_21 (by decide) rfl (by unfold zcmp; split; omega; split <;> omega) (fun c21 => ?_) (fun c21 => ?_)
          · try replace c21 := zb_0 c21
            refine z_lload 47 dX9_commonDivisor_45 rfl rfl ?_
            refine z_lret dX9_commonDivisor_47 (by first | exact True.intro | exact Or.inl rfl | exact Or.inr rfl | exact zb_01 _ | assumption | (show _ ∨ _; omega)) ⟨Nat.le_refl _, Nat.le_refl _⟩ ?_
            exact hQ
          · exact absurd rfl c21
      · have e1 : zeu a b (i + 1) = ((zeu a b i).2, (zeu a b i).1 % (zeu a b i).2) := if_neg e
        rw [e1] at ih
        generalize zeu a b i = S at *
        refine z_iload 11 dX9_commonDivisor_9 rfl rfl ?_
        refine z_sipush 14 dX9_commonDivisor_11 rfl (by decide) ?_
        refine z_icmp_ge 45 17 dX9_commonDivisor_14 (by decide) rfl (by first | omega | exact zr_b _ | exact zr_and _ _ | exact zr_or _ _ | exact zr_shl _ _) (by first | omega | exact zr_b _ | exact zr_and _ _ | exact zr_or _ _ | exact zr_shl _ _) (fun c14 => ?_) (fun c14 => ?_)
        · exfalso; omega
        · refine z_lload 19 dX9_commonDivisor_17 rfl rfl ?_
          refine z_lconst 20 dX9_commonDivisor_19 rfl ?_
          refine z_lcmp 21 dX9_commonDivisor_20 rfl (by first | omega | (simp; done) | (constructor <;> simp <;> omega)) (by first | omega | (simp; done) | (constructor <;> simp <;> omega)) ?_
          refine z_if_eq 45 24 dX9_commonDivisor_21 (by decide) rfl (by unfold zcmp; split; omega; split <;> omega) (fun c21 => ?_) (fun c21 => ?_)
          · exact absurd (zcmp_0 c21) (by simp; omega)
          · try replace c21 := zb_1 c21
            refine z_lload 26 dX9_commonDivisor_24 rfl rfl ?_
            refine z_lload 28 dX9_commonDivisor_26 rfl rfl ?_
            refine z_lrem 29 dX9_commonDivisor_28 rfl (by first | omega | exact zr_b _ | exact zr_and _ _ | exact zr_or _ _ | exact zr_shl _ _) (by first | omega | exact zr_b _ | exact zr_and _ _ | exact zr_or _ _ | exact zr_shl _ _) ?_
            refine z_lstore 31 dX9_commonDivisor_29 rfl (by decide) ?_
            refine z_lload 33 dX9_commonDivisor_31 rfl rfl ?_
            refine z_lstore 35 dX9_commonDivisor_33 rfl (by decide) ?_
            refine z_lload 37 dX9_commonDivisor_35 rfl rfl ?_
            refine z_lstore 39 dX9_commonDivisor_37 rfl (by decide) ?_
            refine z_iinc 42 dX9_commonDivisor_39 rfl (by decide) rfl ?_
            refine z_goto 9 dX9_commonDivisor_42 (by decide) ?_
            exact ih _
  refine zC.of zpl_X9 (Nat.le_of_ble_eq_true rfl) ?_
  refine z_lload_n 1 dX9_commonDivisor_0 rfl rfl ?_
  refine z_lstore 3 dX9_commonDivisor_1 rfl (by decide) ?_
  refine z_lload_n 4 dX9_commonDivisor_3 rfl rfl ?_
  refine z_lstore 6 dX9_commonDivisor_4 rfl (by decide) ?_
  refine z_iconst 7 dX9_commonDivisor_6 rfl ?_
  refine z_istore 9 dX9_commonDivisor_7 rfl (by decide) ?_
  exact key 0 (Nat.zero_le _) _
theorem c_X9_partOfFraction {a b : Nat} {up : Int} (ha : a ≤ 2147483647) (hb : 1 ≤ b ∧ b ≤ 2147483647) (hup : up = 0 ∨ up = 1) (hQ : Q (some (vI (zpart a b up))) h) : zC (d + 1) mX9_partOfFraction 0 0 [vJ a, vJ b, vI up] h Q := by
  have hg : 0 < Nat.gcd a b := Nat.gcd_pos_of_pos_right a (by omega)
  have hgb : Nat.gcd a b ≤ b := Nat.gcd_le_right a (by omega)
  have q1 : a / Nat.gcd a b ≤ a := Nat.div_le_self _ _
  have q2 : b / Nat.gcd a b ≤ b := Nat.div_le_self _ _
  have e1 : (a : Int) / (Nat.gcd a b : Nat) = ((a / Nat.gcd a b : Nat) : Int) := by simp
  have e2 : (b : Int) / (Nat.gcd a b : Nat) = ((b / Nat.gcd a b : Nat) : Int) := by simp
  unfold zpart at hQ
  refine zC.of zpl_X9 (Nat.le_of_ble_eq_true rfl) ?_
  refine z_lload_n 1 dX9_partOfFraction_0 rfl rfl ?_
  refine z_abs 4 dX9_partOfFraction_1 rfl zw_696 zw_697 zw_68 zw_698 (Nat.le_of_ble_eq_true rfl) ⟨Nat.le_refl _, Nat.le_refl _⟩ (by first | omega | exact zr_b _ | exact zr_and _ _ | exact zr_or _ _ | exact zr_shl _ _) ?_
  refine z_lload_n 5 dX9_partOfFraction_4 rfl rfl ?_
  refine z_cS2 8 dX9_partOfFraction_5 rfl kX9_commonDivisor zw_699 (Nat.le_of_ble_eq_true rfl) ⟨Nat.le_refl _, Nat.le_refl _⟩ ?_
  refine c_X9_commonDivisor (by omega) (by omega) ?_
  refine z_lstore 10 dX9_partOfFraction_8 rfl (by decide) ?_
  refine z_lload 12 dX9_partOfFraction_10 rfl rfl ?_
  refine z_lconst 13 dX9_partOfFraction_12 rfl ?_
  refine z_lcmp 14 dX9_partOfFraction_13 rfl (by first | omega | (constructor <;> simp <;> omega)) (by first | omega | (constructor <;> simp <;> omega)) ?_
  refine z_if_ne 19 17 dX9_partOfFraction_14 (by decide) rfl (by unfold zcmp; split; omega; split <;> omega) (fun c14 => ?_) (fun c14 => ?_)
  · try replace c14 := zb_1 c14
    refine z_iload 21 dX9_partOfFraction_19 rfl rfl ?_
    refine z_if_eq 28 24 dX9_partOfFraction_21 (by decide) rfl (by first | omega | exact zr_b _ | exact zr_and _ _ | exact zr_or _ _ | exact zr_shl _ _) (fun c21 => ?_) (fun c21 => ?_)
    · try replace c21 := zb_0 c21
      rw [if_neg (fun q => q c21)] at hQ
      refine z_lload_n 29 dX9_partOfFraction_28 rfl rfl ?_
      refine z_lload 31 dX9_partOfFraction_29 rfl rfl ?_
      refine z_ldiv 32 dX9_partOfFraction_31 rfl (by first | omega | exact zr_b _ | exact zr_and _ _ | exact zr_or _ _ | exact zr_shl _ _) (by first | omega | exact zr_b _ | exact zr_and _ _ | exact zr_or _ _ | exact zr_shl _ _) ?_
      refine z_l2i 33 dX9_partOfFraction_32 rfl ?_
      refine z_ret dX9_partOfFraction_33 (by first | exact True.intro | exact Or.inl rfl | exact Or.inr rfl | exact zb_01 _ | assumption | (show _ ∨ _; omega)) ⟨Nat.le_refl _, Nat.le_refl _⟩ ?_
      first | (rw [e1, zl2i_nat (Nat.le_trans q1 ha)]; exact hQ) | (rw [e2, zl2i_nat (Nat.le_trans q2 hb.2)]; exact hQ)
    · try replace c21 := zb_1 c21
      rw [if_pos c21] at hQ
      refine z_lload_n 25 dX9_partOfFraction_24 rfl rfl ?_
      refine z_goto 29 dX9_partOfFraction_25 (by decide) ?_
      refine z_lload 31 dX9_partOfFraction_29 rfl rfl ?_
      refine z_ldiv 32 dX9_partOfFraction_31 rfl (by first | omega | exact zr_b _ | exact zr_and _ _ | exact zr_or _ _ | exact zr_shl _ _) (by first | omega | exact zr_b _ | exact zr_and _ _ | exact zr_or _ _ | exact zr_shl _ _) ?_
      refine z_l2i 33 dX9_partOfFraction_32 rfl ?_
      refine z_ret dX9_partOfFraction_33 (by first | exact True.intro | exact Or.inl rfl | exact Or.inr rfl | exact zb_01 _ | assumption | (show _ ∨ _; omega)) ⟨Nat.le_refl _, Nat.le_refl _⟩ ?_
      first | (rw [e1, zl2i_nat (Nat.le_trans q1 ha)]; exact hQ) | (rw [e2, zl2i_nat (Nat.le_trans q2 hb.2)]; exact hQ)
  · exact absurd (zcmp_0 c14) (by simp; omega)
end FRACT
