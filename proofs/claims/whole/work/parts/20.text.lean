/-! LateLetters$Text -/
def zTxt (h : zH) (z : Nat) (C : Int → Int) (l : Int) : Prop := 2 ≤ z ∧ h.1 z = some (zO 7 [vR (z + 1), vI l]) ∧ h.1 (z + 1) = some (zI 60 C)
/-- one of those that stand, of the first a -/
def zstb (C : Int → Int) (p st : Int) : Nat → Bool
  | 0 => false
  | j + 1 => zstb C p st j || decide (C (st + 1 + 3 * j) - 48 = p)
/-- does a letter fit, all ahead of it being fit -/
def zfits (C : Int → Int) (i : Int) : Bool :=
  if i = 0 then decide (C i = 84) else if i = 1 then decide (1 ≤ C i - 48 ∧ C i - 48 ≤ 3) else if i = 2 then decide (1 ≤ C i - 48 ∧ C i - 48 ≤ 8)
  else if i < 3 + 2 * (C 2 - 48) then decide (1 ≤ C i - 48 ∧ C i - 48 ≤ (if (i - 3) % 2 = 0 then 9 else 5))
  else if i < 3 + 2 * (C 2 - 48) + 3 * (C 2 - 48 - 1) then
    (if (i - (3 + 2 * (C 2 - 48))) % 3 = 0 then decide (C i = 116)
    else if (i - (3 + 2 * (C 2 - 48))) % 3 = 1 then decide (1 ≤ C i - 48 ∧ C i - 48 ≤ C 2 - 48 - 1) && !zstb C (C i - 48) (3 + 2 * (C 2 - 48)) ((i - (3 + 2 * (C 2 - 48))) / 3).toNat
    else decide (C i - 48 = 0) || zstb C (C i - 48) (3 + 2 * (C 2 - 48)) ((i - (3 + 2 * (C 2 - 48))) / 3).toNat)
  else false
theorem zb_cg {p q : Prop} [Decidable p] [Decidable q] (h : p ↔ q) : zb p = zb q := by
  by_cases e : p
  · rw [zb_t e, zb_t (h.mp e)]
  · rw [zb_f e, zb_f (fun x => e (h.mpr x))]
section TEXT
variable {d : Nat} {h : zH} {Q : Option zV → zH → Prop} {z : Nat} {C : Int → Int} {l : Int}
theorem zTxt.ar (hZ : zTxt h z C l) (C' : Int → Int) : zTxt (zup h (z + 1) (zI 60 C')) z C' l := by
  obtain ⟨h0, h1, h2⟩ := hZ
  refine ⟨h0, ?_, zup_same _ _ _⟩ <;> (rw [zup_ne _ _ (by omega)]; assumption)
theorem zTxt.ot (hZ : zTxt h z C l) {a : Nat} {c : zE} (ha : a < z ∨ z + 1 < a) : zTxt (zup h a c) z C l := by
  obtain ⟨h0, h1, h2⟩ := hZ
  refine ⟨h0, ?_, ?_⟩ <;> (rw [zup_ne _ _ (by omega)]; assumption)
theorem zTxt.mod {lo hi : Nat} {h' : zH} (hZ : zTxt h z C l) (hm : zMod lo hi h h') (ha : z + 1 < lo ∨ hi < z) : zTxt h' z C l := by
  obtain ⟨h0, h1, h2⟩ := hZ
  refine ⟨h0, ?_, ?_⟩ <;> (rw [hm.1 _ (by omega)]; assumption)
theorem c_X7_length (hZ : zTxt h z C l) (hQ : Q (some (vI l)) h) : zC d mX7_length 0 0 [vR z] h Q := by
  refine zC.of zpl_X7 (Nat.le_of_ble_eq_true rfl) ?_
  have zh0 := hZ.2.1
  refine z_aload_n 1 dX7_length_0 rfl rfl ?_
  refine z_getf (ci := 7) 4 dX7_length_1 rfl rfl zin_7 1 (by decide) zw_155 (by first | with_reducible assumption | with_reducible exact zup_same _ _ _) rfl ?_
  refine z_ret dX7_length_4 (by first | exact True.intro | exact Or.inl rfl | exact Or.inr rfl | exact zb_01 _ | assumption | (show _ ∨ _; omega)) ⟨Nat.le_refl _, Nat.le_refl _⟩ ?_
  exact hQ
theorem c_X7_clear (hZ : zTxt h z C l) (hQ : Q none (zup h z (zO 7 [vR (z + 1), vI 0]))) : zC d mX7_clear 0 0 [vR z] h Q := by
  have h2 := hZ.1
  refine zC.of zpl_X7 (Nat.le_of_ble_eq_true rfl) ?_
  have zh0 := hZ.2.1
  refine z_aload_n 1 dX7_clear_0 rfl rfl ?_
  refine z_iconst 2 dX7_clear_1 rfl ?_
  refine z_putf (ci := 7) 5 dX7_clear_2 rfl rfl zin_7 tyX7_ok nmX7 1 (by decide) zw_155 rfl (fun _ => ⟨rfl, rfl⟩) (by omega) (by first | with_reducible assumption | with_reducible exact zup_same _ _ _) (Nat.le_of_ble_eq_true rfl) ?_
  refine z_vret dX7_clear_5 (by first | exact True.intro | exact Or.inl rfl | exact Or.inr rfl | exact zb_01 _ | assumption | (show _ ∨ _; omega)) ⟨Nat.le_refl _, Nat.le_refl _⟩ ?_
  exact hQ
theorem c_X7_add_no {x : Int} (hZ : zTxt h z C l) (hl : 60 ≤ l ∧ l ≤ 100) (hQ : Q (some (vI 0)) h) : zC (d + 1) mX7_add 0 0 [vR z, vI x] h Q := by
  refine zC.of zpl_X7 (Nat.le_of_ble_eq_true rfl) ?_
  have zh0 := hZ.2.1
  refine z_aload_n 1 dX7_add_0 rfl rfl ?_
  refine z_getf (ci := 7) 4 dX7_add_1 rfl rfl zin_7 1 (by decide) zw_155 (by first | with_reducible assumption | with_reducible exact zup_same _ _ _) rfl ?_
  refine z_bipush 6 dX7_add_4 rfl (by decide) ?_
  refine z_icmp_lt 11 9 dX7_add_6 (by decide) rfl (by first | omega | exact zr_b _ | exact zr_and _ _ | exact zr_or _ _ | exact zr_shl _ _) (by first | omega | exact zr_b _ | exact zr_and _ _ | exact zr_or _ _ | exact zr_shl _ _) (fun c6 => ?_) (fun c6 => ?_)
  · exfalso; omega
  · refine z_iconst 10 dX7_add_9 rfl ?_
    refine z_ret dX7_add_10 (by first | exact True.intro | exact Or.inl rfl | exact Or.inr rfl | exact zb_01 _ | assumption | (show _ ∨ _; omega)) ⟨Nat.le_refl _, Nat.le_refl _⟩ ?_
    exact hQ
theorem c_X7_add {x : Int} (hZ : zTxt h z C l) (hl : 0 ≤ l ∧ l < 60) (hQ : Q (some (vI 1)) (zup (zup h (z + 1) (zI 60 (zst C l x))) z (zO 7 [vR (z + 1), vI (l + 1)]))) : zC (d + 1) mX7_add 0 0 [vR z, vI x] h Q := by
  have h2 := hZ.1
  refine zC.of zpl_X7 (Nat.le_of_ble_eq_true rfl) ?_
  have zh0 := hZ.2.1
  refine z_aload_n 1 dX7_add_0 rfl rfl ?_
  refine z_getf (ci := 7) 4 dX7_add_1 rfl rfl zin_7 1 (by decide) zw_155 (by first | with_reducible assumption | with_reducible exact zup_same _ _ _) rfl ?_
  refine z_bipush 6 dX7_add_4 rfl (by decide) ?_
  refine z_icmp_lt 11 9 dX7_add_6 (by decide) rfl (by first | omega | exact zr_b _ | exact zr_and _ _ | exact zr_or _ _ | exact zr_shl _ _) (by first | omega | exact zr_b _ | exact zr_and _ _ | exact zr_or _ _ | exact zr_shl _ _) (fun c6 => ?_) (fun c6 => ?_)
  · refine z_aload_n 12 dX7_add_11 rfl rfl ?_
    refine z_getf (ci := 7) 15 dX7_add_12 rfl rfl zin_7 0 (by decide) zw_154 (by first | with_reducible assumption | with_reducible exact zup_same _ _ _) rfl ?_
    refine z_aload_n 16 dX7_add_15 rfl rfl ?_
    refine z_getf (ci := 7) 19 dX7_add_16 rfl rfl zin_7 1 (by decide) zw_155 (by first | with_reducible assumption | with_reducible exact zup_same _ _ _) rfl ?_
    refine z_iload_n 20 dX7_add_19 rfl rfl ?_
    refine z_cSN3 23 dX7_add_20 rfl kX9_put zn_266 (Nat.le_of_ble_eq_true rfl) ⟨Nat.le_refl _, Nat.le_refl _⟩ ?_
    refine c_X9_put hZ.2.2 (by decide) (by omega) (by omega) ?_
    have hZ := hZ.ar (zst C l x)
    have k0 := hZ.2.1
    refine z_aload_n 24 dX7_add_23 rfl rfl ?_
    refine z_dup_a 25 dX7_add_24 rfl ?_
    refine z_getf (ci := 7) 28 dX7_add_25 rfl rfl zin_7 1 (by decide) zw_155 (by first | with_reducible assumption | with_reducible exact zup_same _ _ _) rfl ?_
    refine z_iconst 29 dX7_add_28 rfl ?_
    refine z_iadd 30 dX7_add_29 rfl ?_
    refine z_putf (ci := 7) 33 dX7_add_30 rfl rfl zin_7 tyX7_ok nmX7 1 (by decide) zw_155 rfl (fun _ => ⟨rfl, rfl⟩) (by omega) (by first | with_reducible assumption | with_reducible exact zup_same _ _ _) (Nat.le_of_ble_eq_true rfl) ?_
    refine z_iconst 34 dX7_add_33 rfl ?_
    refine z_ret dX7_add_34 (by first | exact True.intro | exact Or.inl rfl | exact Or.inr rfl | exact zb_01 _ | assumption | (show _ ∨ _; omega)) ⟨Nat.le_refl _, Nat.le_refl _⟩ ?_
    exact hQ
  · exfalso; omega
theorem c_X7_figureAt {i : Int} (hZ : zTxt h z C l) (hi : 0 ≤ i ∧ i < 60) (hQ : Q (some (vI (C i - 48))) h) : zC (d + 1) mX7_figureAt 0 0 [vR z, vI i] h Q := by
  refine zC.of zpl_X7 (Nat.le_of_ble_eq_true rfl) ?_
  have zh0 := hZ.2.1
  refine z_aload_n 1 dX7_figureAt_0 rfl rfl ?_
  refine z_getf (ci := 7) 4 dX7_figureAt_1 rfl rfl zin_7 0 (by decide) zw_154 (by first | with_reducible assumption | with_reducible exact zup_same _ _ _) rfl ?_
  refine z_iload_n 5 dX7_figureAt_4 rfl rfl ?_
  refine z_cSN2 8 dX7_figureAt_5 rfl kX9_at zn_305 (Nat.le_of_ble_eq_true rfl) ⟨Nat.le_refl _, Nat.le_refl _⟩ ?_
  refine c_X9_at hZ.2.2 (by decide) (by omega) ?_
  refine z_bipush 10 dX7_figureAt_8 rfl (by decide) ?_
  refine z_isub 11 dX7_figureAt_10 rfl ?_
  refine z_ret dX7_figureAt_11 (by first | exact True.intro | exact Or.inl rfl | exact Or.inr rfl | exact zb_01 _ | assumption | (show _ ∨ _; omega)) ⟨Nat.le_refl _, Nat.le_refl _⟩ ?_
  exact hQ
theorem c_X7_isFigure {i a b : Int} (hZ : zTxt h z C l) (hi : 0 ≤ i ∧ i < 60) (hC : 0 ≤ C i ∧ C i ≤ 255) (ha : -1000 ≤ a ∧ a ≤ 1000) (hb : -1000 ≤ b ∧ b ≤ 1000) (hQ : Q (some (vI (zb (a ≤ C i - 48 ∧ C i - 48 ≤ b)))) h) : zC (d + 2) mX7_isFigure 0 0 [vR z, vI i, vI a, vI b] h Q := by
  refine zC.of zpl_X7 (Nat.le_of_ble_eq_true rfl) ?_
  have zh0 := hZ.2.1
  refine z_aload_n 1 dX7_isFigure_0 rfl rfl ?_
  refine z_iload_n 2 dX7_isFigure_1 rfl rfl ?_
  refine z_cV1 5 dX7_isFigure_2 rfl kX7_figureAt zw_301 (Nat.le_of_ble_eq_true rfl) ⟨Nat.le_refl _, Nat.le_refl _⟩ (by first | with_reducible assumption | with_reducible exact zup_same _ _ _) ?_
  refine c_X7_figureAt hZ hi ?_
  refine z_istore 7 dX7_isFigure_5 rfl (by decide) ?_
  refine z_iload 9 dX7_isFigure_7 rfl rfl ?_
  refine z_iload_n 10 dX7_isFigure_9 rfl rfl ?_
  refine z_icmp_lt 23 13 dX7_isFigure_10 (by decide) rfl (by first | omega | exact zr_b _ | exact zr_and _ _ | exact zr_or _ _ | exact zr_shl _ _) (by first | omega | exact zr_b _ | exact zr_and _ _ | exact zr_or _ _ | exact zr_shl _ _) (fun c10 => ?_) (fun c10 => ?_)
  · refine z_iconst 24 dX7_isFigure_23 rfl ?_
    refine z_ret dX7_isFigure_24 (by first | exact True.intro | exact Or.inl rfl | exact Or.inr rfl | exact zb_01 _ | assumption | (show _ ∨ _; omega)) ⟨Nat.le_refl _, Nat.le_refl _⟩ ?_
    first | (rw [zb_t (by omega)] at hQ; exact hQ) | (rw [zb_f (by omega)] at hQ; exact hQ)
  · refine z_iload 15 dX7_isFigure_13 rfl rfl ?_
    refine z_iload_n 16 dX7_isFigure_15 rfl rfl ?_
    refine z_icmp_gt 23 19 dX7_isFigure_16 (by decide) rfl (by first | omega | exact zr_b _ | exact zr_and _ _ | exact zr_or _ _ | exact zr_shl _ _) (by first | omega | exact zr_b _ | exact zr_and _ _ | exact zr_or _ _ | exact zr_shl _ _) (fun c16 => ?_) (fun c16 => ?_)
    · refine z_iconst 24 dX7_isFigure_23 rfl ?_
      refine z_ret dX7_isFigure_24 (by first | exact True.intro | exact Or.inl rfl | exact Or.inr rfl | exact zb_01 _ | assumption | (show _ ∨ _; omega)) ⟨Nat.le_refl _, Nat.le_refl _⟩ ?_
      first | (rw [zb_t (by omega)] at hQ; exact hQ) | (rw [zb_f (by omega)] at hQ; exact hQ)
    · refine z_iconst 20 dX7_isFigure_19 rfl ?_
      refine z_goto 24 dX7_isFigure_20 (by decide) ?_
      refine z_ret dX7_isFigure_24 (by first | exact True.intro | exact Or.inl rfl | exact Or.inr rfl | exact zb_01 _ | assumption | (show _ ∨ _; omega)) ⟨Nat.le_refl _, Nat.le_refl _⟩ ?_
      first | (rw [zb_t (by omega)] at hQ; exact hQ) | (rw [zb_f (by omega)] at hQ; exact hQ)
theorem c_X7_planStart (hZ : zTxt h z C l) (hQ : Q (some (vI (3 + 2 * (C 2 - 48)))) h) : zC (d + 2) mX7_planStart 0 0 [vR z] h Q := by
  refine zC.of zpl_X7 (Nat.le_of_ble_eq_true rfl) ?_
  have zh0 := hZ.2.1
  refine z_iconst 1 dX7_planStart_0 rfl ?_
  refine z_iconst 2 dX7_planStart_1 rfl ?_
  refine z_aload_n 3 dX7_planStart_2 rfl rfl ?_
  refine z_iconst 4 dX7_planStart_3 rfl ?_
  refine z_cV1 7 dX7_planStart_4 rfl kX7_figureAt zw_301 (Nat.le_of_ble_eq_true rfl) ⟨Nat.le_refl _, Nat.le_refl _⟩ (by first | with_reducible assumption | with_reducible exact zup_same _ _ _) ?_
  refine c_X7_figureAt hZ (by omega) ?_
  refine z_imul 8 dX7_planStart_7 rfl ?_
  refine z_iadd 9 dX7_planStart_8 rfl ?_
  refine z_ret dX7_planStart_9 (by first | exact True.intro | exact Or.inl rfl | exact Or.inr rfl | exact zb_01 _ | assumption | (show _ ∨ _; omega)) ⟨Nat.le_refl _, Nat.le_refl _⟩ ?_
  exact hQ
theorem c_X7_wholeLength (hZ : zTxt h z C l) (hQ : Q (some (vI (3 + 2 * (C 2 - 48) + 3 * (C 2 - 48 - 1)))) h) : zC (d + 3) mX7_wholeLength 0 0 [vR z] h Q := by
  refine zC.of zpl_X7 (Nat.le_of_ble_eq_true rfl) ?_
  have zh0 := hZ.2.1
  refine z_aload_n 1 dX7_wholeLength_0 rfl rfl ?_
  refine z_cV0 4 dX7_wholeLength_1 rfl kX7_planStart zw_308 (Nat.le_of_ble_eq_true rfl) ⟨Nat.le_refl _, Nat.le_refl _⟩ (by first | with_reducible assumption | with_reducible exact zup_same _ _ _) ?_
  refine c_X7_planStart hZ ?_
  refine z_iconst 5 dX7_wholeLength_4 rfl ?_
  refine z_aload_n 6 dX7_wholeLength_5 rfl rfl ?_
  refine z_iconst 7 dX7_wholeLength_6 rfl ?_
  refine z_cV1 10 dX7_wholeLength_7 rfl kX7_figureAt zw_301 (Nat.le_of_ble_eq_true rfl) ⟨Nat.le_refl _, Nat.le_refl _⟩ (by first | with_reducible assumption | with_reducible exact zup_same _ _ _) ?_
  refine c_X7_figureAt hZ (by omega) ?_
  refine z_iconst 11 dX7_wholeLength_10 rfl ?_
  refine z_isub 12 dX7_wholeLength_11 rfl ?_
  refine z_imul 13 dX7_wholeLength_12 rfl ?_
  refine z_iadd 14 dX7_wholeLength_13 rfl ?_
  refine z_ret dX7_wholeLength_14 (by first | exact True.intro | exact Or.inl rfl | exact Or.inr rfl | exact zb_01 _ | assumption | (show _ ∨ _; omega)) ⟨Nat.le_refl _, Nat.le_refl _⟩ ?_
  exact hQ
theorem zstb_f {p st : Int} : ∀ {a : Nat}, zstb C p st a = false → ∀ j : Nat, j < a → C (st + 1 + 3 * j) - 48 ≠ p
  | a + 1, he, j, hj => by
    unfold zstb at he
    rw [Bool.or_eq_false_iff] at he
    rcases Nat.lt_or_ge j a with g | g
    · exact zstb_f he.1 j g
    · rw [show j = a by omega]; simpa using he.2
theorem zstb_t {p st : Int} : ∀ {a : Nat}, zstb C p st a = true → ∃ j : Nat, j < a ∧ C (st + 1 + 3 * j) - 48 = p ∧ zstb C p st j = false
  | a + 1, he => by
    cases hz : zstb C p st a with
    | true =>
      obtain ⟨j, h1, h2⟩ := zstb_t hz
      exact ⟨j, by omega, h2⟩
    | false =>
      unfold zstb at he
      rw [hz] at he
      exact ⟨a, by omega, by simpa using he, hz⟩
theorem c_X7_stands {p st en : Int} {a : Nat} (hZ : zTxt h z C l) (hs : 0 ≤ st ∧ en = st + 3 * a + 1 ∧ en ≤ 60) (hC : ∀ i : Int, 0 ≤ i → i < 60 → 0 ≤ C i ∧ C i ≤ 255) (hp : -1000 ≤ p ∧ p ≤ 1000) (hQ : Q (some (vI (zb (zstb C p st a = true)))) h) : zC (d + 2) mX7_stands 0 0 [vR z, vI p, vI st, vI en] h Q := by
  have k0 := hZ.2.1
  have key : ∀ j : Nat, j ≤ a → zstb C p st j = false → Z (d + 2) mX7_stands zo 5 [some (vR z), some (vI p), some (vI st), some (vI en), some (vI (st + 1 + 3 * j))] [] h Q := by
    refine z_loop a ?_ ?_
    · intro hj
      refine z_iload 7 dX7_stands_5 rfl rfl ?_
      refine z_iload_n 8 dX7_stands_7 rfl rfl ?_
      refine z_icmp_ge 29 11 dX7_stands_8 (by decide) rfl (by first | omega | exact zr_b _ | exact zr_and _ _ | exact zr_or _ _ | exact zr_shl _ _) (by first | omega | exact zr_b _ | exact zr_and _ _ | exact zr_or _ _ | exact zr_shl _ _) (fun c8 => ?_) (fun c8 => ?_)
      · refine z_iconst 30 dX7_stands_29 rfl ?_
        refine z_ret dX7_stands_30 (by first | exact True.intro | exact Or.inl rfl | exact Or.inr rfl | exact zb_01 _ | assumption | (show _ ∨ _; omega)) ⟨Nat.le_refl _, Nat.le_refl _⟩ ?_
        rw [zb_f (by rw [hj]; decide)] at hQ
        exact hQ
      · exfalso; omega
    · intro j hj ih hf
      have hCj := hC (st + 1 + 3 * j) (by omega) (by omega)
      refine z_iload 7 dX7_stands_5 rfl rfl ?_
      refine z_iload_n 8 dX7_stands_7 rfl rfl ?_
      refine z_icmp_ge 29 11 dX7_stands_8 (by decide) rfl (by first | omega | exact zr_b _ | exact zr_and _ _ | exact zr_or _ _ | exact zr_shl _ _) (by first | omega | exact zr_b _ | exact zr_and _ _ | exact zr_or _ _ | exact zr_shl _ _) (fun c8 => ?_) (fun c8 => ?_)
      · exfalso; omega
      · refine z_aload_n 12 dX7_stands_11 rfl rfl ?_
        refine z_iload 14 dX7_stands_12 rfl rfl ?_
        refine z_cV1 17 dX7_stands_14 rfl kX7_figureAt zw_301 (Nat.le_of_ble_eq_true rfl) ⟨Nat.le_refl _, Nat.le_refl _⟩ (by first | with_reducible assumption | with_reducible exact zup_same _ _ _) ?_
        refine c_X7_figureAt hZ (by omega) ?_
        refine z_iload_n 18 dX7_stands_17 rfl rfl ?_
        refine z_icmp_ne 23 21 dX7_stands_18 (by decide) rfl (by first | omega | exact zr_b _ | exact zr_and _ _ | exact zr_or _ _ | exact zr_shl _ _) (by first | omega | exact zr_b _ | exact zr_and _ _ | exact zr_or _ _ | exact zr_shl _ _) (fun c18 => ?_) (fun c18 => ?_)
        · refine z_iinc 26 dX7_stands_23 rfl (by decide) rfl ?_
          refine z_goto 5 dX7_stands_26 (by decide) ?_
          have k := ih (by unfold zstb; rw [hf, decide_eq_false c18]; rfl)
          rw [show st + 1 + 3 * ((j + 1 : Nat) : Int) = st + 1 + 3 * j + 3 by omega] at k
          exact k
        · refine z_iconst 22 dX7_stands_21 rfl ?_
          refine z_ret dX7_stands_22 (by first | exact True.intro | exact Or.inl rfl | exact Or.inr rfl | exact zb_01 _ | assumption | (show _ ∨ _; omega)) ⟨Nat.le_refl _, Nat.le_refl _⟩ ?_
          have : zstb C p st a = true := by
            cases hz : zstb C p st a with
            | true => rfl
            | false => exact absurd c18 (zstb_f hz j hj)
          rw [zb_t this] at hQ
          exact hQ
  refine zC.of zpl_X7 (Nat.le_of_ble_eq_true rfl) ?_
  refine z_iload_n 1 dX7_stands_0 rfl rfl ?_
  refine z_iconst 2 dX7_stands_1 rfl ?_
  refine z_iadd 3 dX7_stands_2 rfl ?_
  refine z_istore 5 dX7_stands_3 rfl (by decide) ?_
  have k := key 0 (Nat.zero_le _) rfl
  rw [show st + 1 + 3 * ((0 : Nat) : Int) = st + 1 by omega] at k
  exact k
theorem c_X7_fitsInHead {i : Int} (hZ : zTxt h z C l) (hi : 0 ≤ i ∧ i < 3) (hC : ∀ i : Int, 0 ≤ i → i < 60 → 0 ≤ C i ∧ C i ≤ 255) (hQ : Q (some (vI (zb (zfits C i = true)))) h) : zC (d + 3) mX7_fitsInHead 0 0 [vR z, vI i] h Q := by
  have k0 := hZ.2.1
  have hCi := hC i (by omega) (by omega)
  rcases (show i = 0 ∨ i = 1 ∨ i = 2 by omega) with rfl | rfl | rfl
  · have e : (zfits C 0 = true) = (C 0 = 84) := by unfold zfits; rw [if_pos rfl]; simp
    refine zC.of zpl_X7 (Nat.le_of_ble_eq_true rfl) ?_
    refine z_iload_n 1 dX7_fitsInHead_0 rfl rfl ?_
    · refine z_lookup 45 dX7_fitsInHead_1 (by decide) (by omega) rfl (by decide) ?_
      refine z_aload_n 46 dX7_fitsInHead_45 rfl rfl ?_
      refine z_getf (ci := 7) 49 dX7_fitsInHead_46 rfl rfl zin_7 0 (by decide) zw_154 (by first | with_reducible assumption | with_reducible exact zup_same _ _ _) rfl ?_
      refine z_iload_n 50 dX7_fitsInHead_49 rfl rfl ?_
      refine z_cSN2 53 dX7_fitsInHead_50 rfl kX9_at zn_305 (Nat.le_of_ble_eq_true rfl) ⟨Nat.le_refl _, Nat.le_refl _⟩ ?_
      refine c_X9_at hZ.2.2 (by decide) (by omega) ?_
      refine z_bipush 55 dX7_fitsInHead_53 rfl (by decide) ?_
      refine z_icmp_ne 62 58 dX7_fitsInHead_55 (by decide) rfl (by first | omega | exact zr_b _ | exact zr_and _ _ | exact zr_or _ _ | exact zr_shl _ _) (by first | omega | exact zr_b _ | exact zr_and _ _ | exact zr_or _ _ | exact zr_shl _ _) (fun c55 => ?_) (fun c55 => ?_)
      · refine z_iconst 63 dX7_fitsInHead_62 rfl ?_
        refine z_ret dX7_fitsInHead_63 (by first | exact True.intro | exact Or.inl rfl | exact Or.inr rfl | exact zb_01 _ | assumption | (show _ ∨ _; omega)) ⟨Nat.le_refl _, Nat.le_refl _⟩ ?_
        first | (rw [zb_t (by rw [e]; exact c55)] at hQ; exact hQ) | (rw [zb_f (by rw [e]; exact c55)] at hQ; exact hQ)
      · refine z_iconst 59 dX7_fitsInHead_58 rfl ?_
        refine z_goto 63 dX7_fitsInHead_59 (by decide) ?_
        refine z_ret dX7_fitsInHead_63 (by first | exact True.intro | exact Or.inl rfl | exact Or.inr rfl | exact zb_01 _ | assumption | (show _ ∨ _; omega)) ⟨Nat.le_refl _, Nat.le_refl _⟩ ?_
        first | (rw [zb_t (by rw [e]; exact c55)] at hQ; exact hQ) | (rw [zb_f (by rw [e]; exact c55)] at hQ; exact hQ)
  · have e : (zfits C 1 = true) ↔ (1 ≤ C 1 - 48 ∧ C 1 - 48 ≤ 3) := by unfold zfits; simp
    refine zC.of zpl_X7 (Nat.le_of_ble_eq_true rfl) ?_
    refine z_iload_n 1 dX7_fitsInHead_0 rfl rfl ?_
    · refine z_lookup 28 dX7_fitsInHead_1 (by decide) (by omega) rfl (by decide) ?_
      refine z_aload_n 29 dX7_fitsInHead_28 rfl rfl ?_
      refine z_iload_n 30 dX7_fitsInHead_29 rfl rfl ?_
      refine z_iconst 31 dX7_fitsInHead_30 rfl ?_
      refine z_iconst 32 dX7_fitsInHead_31 rfl ?_
      refine z_cV3 35 dX7_fitsInHead_32 rfl kX7_isFigure zw_297 (Nat.le_of_ble_eq_true rfl) ⟨Nat.le_refl _, Nat.le_refl _⟩ (by first | with_reducible assumption | with_reducible exact zup_same _ _ _) ?_
      refine c_X7_isFigure hZ (by omega) hCi (by omega) (by omega) ?_
      refine z_ret dX7_fitsInHead_35 (by first | exact True.intro | exact Or.inl rfl | exact Or.inr rfl | exact zb_01 _ | assumption | (show _ ∨ _; omega)) ⟨Nat.le_refl _, Nat.le_refl _⟩ ?_
      rw [zb_cg e] at hQ; exact hQ
  · have e : (zfits C 2 = true) ↔ (1 ≤ C 2 - 48 ∧ C 2 - 48 ≤ 8) := by unfold zfits; simp
    refine zC.of zpl_X7 (Nat.le_of_ble_eq_true rfl) ?_
    refine z_iload_n 1 dX7_fitsInHead_0 rfl rfl ?_
    · refine z_lookup 36 dX7_fitsInHead_1 (by decide) (by omega) rfl (by decide) ?_
      refine z_aload_n 37 dX7_fitsInHead_36 rfl rfl ?_
      refine z_iload_n 38 dX7_fitsInHead_37 rfl rfl ?_
      refine z_iconst 39 dX7_fitsInHead_38 rfl ?_
      refine z_bipush 41 dX7_fitsInHead_39 rfl (by decide) ?_
      refine z_cV3 44 dX7_fitsInHead_41 rfl kX7_isFigure zw_297 (Nat.le_of_ble_eq_true rfl) ⟨Nat.le_refl _, Nat.le_refl _⟩ (by first | with_reducible assumption | with_reducible exact zup_same _ _ _) ?_
      refine c_X7_isFigure hZ (by omega) hCi (by omega) (by omega) ?_
      refine z_ret dX7_fitsInHead_44 (by first | exact True.intro | exact Or.inl rfl | exact Or.inr rfl | exact zb_01 _ | assumption | (show _ ∨ _; omega)) ⟨Nat.le_refl _, Nat.le_refl _⟩ ?_
      rw [zb_cg e] at hQ; exact hQ
theorem c_X7_fitsInPlan {i st : Int} (hZ : zTxt h z C l) (hC : ∀ i : Int, 0 ≤ i → i < 60 → 0 ≤ C i ∧ C i ≤ 255) (hq : 1 ≤ C 2 - 48 ∧ C 2 - 48 ≤ 8) (hst : st = 3 + 2 * (C 2 - 48)) (hi : st ≤ i ∧ i < st + 3 * (C 2 - 48 - 1)) (hQ : Q (some (vI (zb (zfits C i = true)))) h) : zC (d + 3) mX7_fitsInPlan 0 0 [vR z, vI i, vI st] h Q := by
  have k0 := hZ.2.1
  have hCi := hC i (by omega) (by omega)
  obtain ⟨a, r, ha, hr⟩ : ∃ (a : Nat) (r : Int), i - st = 3 * a + r ∧ (r = 0 ∨ r = 1 ∨ r = 2) := ⟨((i - st) / 3).toNat, (i - st) % 3, by omega, by omega⟩
  have e0 : zfits C i = (if (i - st) % 3 = 0 then decide (C i = 116) else if (i - st) % 3 = 1 then decide (1 ≤ C i - 48 ∧ C i - 48 ≤ C 2 - 48 - 1) && !zstb C (C i - 48) st ((i - st) / 3).toNat else decide (C i - 48 = 0) || zstb C (C i - 48) st ((i - st) / 3).toNat) := by
    unfold zfits
    rw [if_neg (by omega), if_neg (by omega), if_neg (by omega), if_neg (by omega), if_pos (by omega), ← hst]
  rw [show ((i - st) / 3).toNat = a by omega, show (i - st) % 3 = r by omega] at e0
  rcases hr with rfl | rfl | rfl
  · rw [if_pos rfl] at e0
    refine zC.of zpl_X7 (Nat.le_of_ble_eq_true rfl) ?_
    refine z_aload_n 1 dX7_fitsInPlan_0 rfl rfl ?_
    refine z_iload_n 2 dX7_fitsInPlan_1 rfl rfl ?_
    refine z_cV1 5 dX7_fitsInPlan_2 rfl kX7_figureAt zw_301 (Nat.le_of_ble_eq_true rfl) ⟨Nat.le_refl _, Nat.le_refl _⟩ (by first | with_reducible assumption | with_reducible exact zup_same _ _ _) ?_
    refine c_X7_figureAt hZ (by omega) ?_
    refine z_istore_n 6 dX7_fitsInPlan_5 rfl (by decide) ?_
    refine z_iload_n 7 dX7_fitsInPlan_6 rfl rfl ?_
    refine z_iload_n 8 dX7_fitsInPlan_7 rfl rfl ?_
    refine z_isub 9 dX7_fitsInPlan_8 rfl ?_
    refine z_iconst 10 dX7_fitsInPlan_9 rfl ?_
    refine z_irem 11 dX7_fitsInPlan_10 rfl (by first | omega | exact zr_b _ | exact zr_and _ _ | exact zr_or _ _ | exact zr_shl _ _) (by first | omega | exact zr_b _ | exact zr_and _ _ | exact zr_or _ _ | exact zr_shl _ _) ?_
    rw [show (i - st) % 3 = 0 by omega]
    · refine z_lookup 36 dX7_fitsInPlan_11 (by decide) (by omega) rfl (by decide) ?_
      refine z_aload_n 37 dX7_fitsInPlan_36 rfl rfl ?_
      refine z_getf (ci := 7) 40 dX7_fitsInPlan_37 rfl rfl zin_7 0 (by decide) zw_154 (by first | with_reducible assumption | with_reducible exact zup_same _ _ _) rfl ?_
      refine z_iload_n 41 dX7_fitsInPlan_40 rfl rfl ?_
      refine z_cSN2 44 dX7_fitsInPlan_41 rfl kX9_at zn_305 (Nat.le_of_ble_eq_true rfl) ⟨Nat.le_refl _, Nat.le_refl _⟩ ?_
      refine c_X9_at hZ.2.2 (by decide) (by omega) ?_
      refine z_bipush 46 dX7_fitsInPlan_44 rfl (by decide) ?_
      refine z_icmp_ne 53 49 dX7_fitsInPlan_46 (by decide) rfl (by first | omega | exact zr_b _ | exact zr_and _ _ | exact zr_or _ _ | exact zr_shl _ _) (by first | omega | exact zr_b _ | exact zr_and _ _ | exact zr_or _ _ | exact zr_shl _ _) (fun c46 => ?_) (fun c46 => ?_)
      · refine z_iconst 54 dX7_fitsInPlan_53 rfl ?_
        refine z_ret dX7_fitsInPlan_54 (by first | exact True.intro | exact Or.inl rfl | exact Or.inr rfl | exact zb_01 _ | assumption | (show _ ∨ _; omega)) ⟨Nat.le_refl _, Nat.le_refl _⟩ ?_
        first | (rw [zb_t (by rw [e0]; exact decide_eq_true c46)] at hQ; exact hQ) | (rw [zb_f (by rw [e0, decide_eq_false c46]; decide)] at hQ; exact hQ)
      · refine z_iconst 50 dX7_fitsInPlan_49 rfl ?_
        refine z_goto 54 dX7_fitsInPlan_50 (by decide) ?_
        refine z_ret dX7_fitsInPlan_54 (by first | exact True.intro | exact Or.inl rfl | exact Or.inr rfl | exact zb_01 _ | assumption | (show _ ∨ _; omega)) ⟨Nat.le_refl _, Nat.le_refl _⟩ ?_
        first | (rw [zb_t (by rw [e0]; exact decide_eq_true c46)] at hQ; exact hQ) | (rw [zb_f (by rw [e0, decide_eq_false c46]; decide)] at hQ; exact hQ)
  · rw [if_neg (by omega), if_pos rfl] at e0
    refine zC.of zpl_X7 (Nat.le_of_ble_eq_true rfl) ?_
    refine z_aload_n 1 dX7_fitsInPlan_0 rfl rfl ?_
    refine z_iload_n 2 dX7_fitsInPlan_1 rfl rfl ?_
    refine z_cV1 5 dX7_fitsInPlan_2 rfl kX7_figureAt zw_301 (Nat.le_of_ble_eq_true rfl) ⟨Nat.le_refl _, Nat.le_refl _⟩ (by first | with_reducible assumption | with_reducible exact zup_same _ _ _) ?_
    refine c_X7_figureAt hZ (by omega) ?_
    refine z_istore_n 6 dX7_fitsInPlan_5 rfl (by decide) ?_
    refine z_iload_n 7 dX7_fitsInPlan_6 rfl rfl ?_
    refine z_iload_n 8 dX7_fitsInPlan_7 rfl rfl ?_
    refine z_isub 9 dX7_fitsInPlan_8 rfl ?_
    refine z_iconst 10 dX7_fitsInPlan_9 rfl ?_
    refine z_irem 11 dX7_fitsInPlan_10 rfl (by first | omega | exact zr_b _ | exact zr_and _ _ | exact zr_or _ _ | exact zr_shl _ _) (by first | omega | exact zr_b _ | exact zr_and _ _ | exact zr_or _ _ | exact zr_shl _ _) ?_
    rw [show (i - st) % 3 = 1 by omega]
    · refine z_lookup 55 dX7_fitsInPlan_11 (by decide) (by omega) rfl (by decide) ?_
      refine z_aload_n 56 dX7_fitsInPlan_55 rfl rfl ?_
      refine z_iload_n 57 dX7_fitsInPlan_56 rfl rfl ?_
      refine z_iconst 58 dX7_fitsInPlan_57 rfl ?_
      refine z_aload_n 59 dX7_fitsInPlan_58 rfl rfl ?_
      refine z_iconst 60 dX7_fitsInPlan_59 rfl ?_
      refine z_cV1 63 dX7_fitsInPlan_60 rfl kX7_figureAt zw_301 (Nat.le_of_ble_eq_true rfl) ⟨Nat.le_refl _, Nat.le_refl _⟩ (by first | with_reducible assumption | with_reducible exact zup_same _ _ _) ?_
      refine c_X7_figureAt hZ (by omega) ?_
      refine z_iconst 64 dX7_fitsInPlan_63 rfl ?_
      refine z_isub 65 dX7_fitsInPlan_64 rfl ?_
      refine z_cV3 68 dX7_fitsInPlan_65 rfl kX7_isFigure zw_297 (Nat.le_of_ble_eq_true rfl) ⟨Nat.le_refl _, Nat.le_refl _⟩ (by first | with_reducible assumption | with_reducible exact zup_same _ _ _) ?_
      refine c_X7_isFigure hZ (by omega) hCi (by omega) (by omega) ?_
      refine z_if_eq 85 71 dX7_fitsInPlan_68 (by decide) rfl (by first | omega | exact zr_b _ | exact zr_and _ _ | exact zr_or _ _ | exact zr_shl _ _) (fun c68 => ?_) (fun c68 => ?_)
      · try replace c68 := zb_0 c68
        refine z_iconst 86 dX7_fitsInPlan_85 rfl ?_
        refine z_ret dX7_fitsInPlan_86 (by first | exact True.intro | exact Or.inl rfl | exact Or.inr rfl | exact zb_01 _ | assumption | (show _ ∨ _; omega)) ⟨Nat.le_refl _, Nat.le_refl _⟩ ?_
        first | (rw [zb_t (by rw [e0, decide_eq_true c68, Bool.true_and]; simpa using c78)] at hQ; exact hQ) | (rw [zb_f (by rw [e0, c78]; simp)] at hQ; exact hQ) | (rw [zb_f (by rw [e0, decide_eq_false c68]; simp)] at hQ; exact hQ)
      · try replace c68 := zb_1 c68
        refine z_aload_n 72 dX7_fitsInPlan_71 rfl rfl ?_
        refine z_iload_n 73 dX7_fitsInPlan_72 rfl rfl ?_
        refine z_iload_n 74 dX7_fitsInPlan_73 rfl rfl ?_
        refine z_iload_n 75 dX7_fitsInPlan_74 rfl rfl ?_
        refine z_cV3 78 dX7_fitsInPlan_75 rfl kX7_stands zw_320 (Nat.le_of_ble_eq_true rfl) ⟨Nat.le_refl _, Nat.le_refl _⟩ (by first | with_reducible assumption | with_reducible exact zup_same _ _ _) ?_
        refine c_X7_stands (a := a) hZ (by omega) hC (by omega) ?_
        refine z_if_ne 85 81 dX7_fitsInPlan_78 (by decide) rfl (by first | omega | exact zr_b _ | exact zr_and _ _ | exact zr_or _ _ | exact zr_shl _ _) (fun c78 => ?_) (fun c78 => ?_)
        · try replace c78 := zb_1 c78
          refine z_iconst 86 dX7_fitsInPlan_85 rfl ?_
          refine z_ret dX7_fitsInPlan_86 (by first | exact True.intro | exact Or.inl rfl | exact Or.inr rfl | exact zb_01 _ | assumption | (show _ ∨ _; omega)) ⟨Nat.le_refl _, Nat.le_refl _⟩ ?_
          first | (rw [zb_t (by rw [e0, decide_eq_true c68, Bool.true_and]; simpa using c78)] at hQ; exact hQ) | (rw [zb_f (by rw [e0, c78]; simp)] at hQ; exact hQ) | (rw [zb_f (by rw [e0, decide_eq_false c68]; simp)] at hQ; exact hQ)
        · try replace c78 := zb_0 c78
          refine z_iconst 82 dX7_fitsInPlan_81 rfl ?_
          refine z_goto 86 dX7_fitsInPlan_82 (by decide) ?_
          refine z_ret dX7_fitsInPlan_86 (by first | exact True.intro | exact Or.inl rfl | exact Or.inr rfl | exact zb_01 _ | assumption | (show _ ∨ _; omega)) ⟨Nat.le_refl _, Nat.le_refl _⟩ ?_
          first | (rw [zb_t (by rw [e0, decide_eq_true c68, Bool.true_and]; simpa using c78)] at hQ; exact hQ) | (rw [zb_f (by rw [e0, c78]; simp)] at hQ; exact hQ) | (rw [zb_f (by rw [e0, decide_eq_false c68]; simp)] at hQ; exact hQ)
  · rw [if_neg (by omega), if_neg (by omega)] at e0
    refine zC.of zpl_X7 (Nat.le_of_ble_eq_true rfl) ?_
    refine z_aload_n 1 dX7_fitsInPlan_0 rfl rfl ?_
    refine z_iload_n 2 dX7_fitsInPlan_1 rfl rfl ?_
    refine z_cV1 5 dX7_fitsInPlan_2 rfl kX7_figureAt zw_301 (Nat.le_of_ble_eq_true rfl) ⟨Nat.le_refl _, Nat.le_refl _⟩ (by first | with_reducible assumption | with_reducible exact zup_same _ _ _) ?_
    refine c_X7_figureAt hZ (by omega) ?_
    refine z_istore_n 6 dX7_fitsInPlan_5 rfl (by decide) ?_
    refine z_iload_n 7 dX7_fitsInPlan_6 rfl rfl ?_
    refine z_iload_n 8 dX7_fitsInPlan_7 rfl rfl ?_
    refine z_isub 9 dX7_fitsInPlan_8 rfl ?_
    refine z_iconst 10 dX7_fitsInPlan_9 rfl ?_
    refine z_irem 11 dX7_fitsInPlan_10 rfl (by first | omega | exact zr_b _ | exact zr_and _ _ | exact zr_or _ _ | exact zr_shl _ _) (by first | omega | exact zr_b _ | exact zr_and _ _ | exact zr_or _ _ | exact zr_shl _ _) ?_
    rw [show (i - st) % 3 = 2 by omega]
    · refine z_lookup 87 dX7_fitsInPlan_11 (by decide) (by omega) rfl (by decide) ?_
      refine z_iload_n 88 dX7_fitsInPlan_87 rfl rfl ?_
      refine z_if_eq 103 91 dX7_fitsInPlan_88 (by decide) rfl (by first | omega | exact zr_b _ | exact zr_and _ _ | exact zr_or _ _ | exact zr_shl _ _) (fun c88 => ?_) (fun c88 => ?_)
      · try replace c88 := zb_0 c88
        refine z_iconst 104 dX7_fitsInPlan_103 rfl ?_
        refine z_goto 108 dX7_fitsInPlan_104 (by decide) ?_
        refine z_ret dX7_fitsInPlan_108 (by first | exact True.intro | exact Or.inl rfl | exact Or.inr rfl | exact zb_01 _ | assumption | (show _ ∨ _; omega)) ⟨Nat.le_refl _, Nat.le_refl _⟩ ?_
        first | (rw [zb_t (by rw [e0, decide_eq_true c88]; simp)] at hQ; exact hQ) | (rw [zb_t (by rw [e0, c100]; simp)] at hQ; exact hQ) | (rw [zb_f (by rw [e0, decide_eq_false c88]; simpa using c100)] at hQ; exact hQ)
      · try replace c88 := zb_1 c88
        refine z_aload_n 92 dX7_fitsInPlan_91 rfl rfl ?_
        refine z_iload_n 93 dX7_fitsInPlan_92 rfl rfl ?_
        refine z_iload_n 94 dX7_fitsInPlan_93 rfl rfl ?_
        refine z_iload_n 95 dX7_fitsInPlan_94 rfl rfl ?_
        refine z_iconst 96 dX7_fitsInPlan_95 rfl ?_
        refine z_isub 97 dX7_fitsInPlan_96 rfl ?_
        refine z_cV3 100 dX7_fitsInPlan_97 rfl kX7_stands zw_320 (Nat.le_of_ble_eq_true rfl) ⟨Nat.le_refl _, Nat.le_refl _⟩ (by first | with_reducible assumption | with_reducible exact zup_same _ _ _) ?_
        refine c_X7_stands (a := a) hZ (by omega) hC (by omega) ?_
        refine z_if_eq 107 103 dX7_fitsInPlan_100 (by decide) rfl (by first | omega | exact zr_b _ | exact zr_and _ _ | exact zr_or _ _ | exact zr_shl _ _) (fun c100 => ?_) (fun c100 => ?_)
        · try replace c100 := zb_0 c100
          refine z_iconst 108 dX7_fitsInPlan_107 rfl ?_
          refine z_ret dX7_fitsInPlan_108 (by first | exact True.intro | exact Or.inl rfl | exact Or.inr rfl | exact zb_01 _ | assumption | (show _ ∨ _; omega)) ⟨Nat.le_refl _, Nat.le_refl _⟩ ?_
          first | (rw [zb_t (by rw [e0, decide_eq_true c88]; simp)] at hQ; exact hQ) | (rw [zb_t (by rw [e0, c100]; simp)] at hQ; exact hQ) | (rw [zb_f (by rw [e0, decide_eq_false c88]; simpa using c100)] at hQ; exact hQ)
        · try replace c100 := zb_1 c100
          refine z_iconst 104 dX7_fitsInPlan_103 rfl ?_
          refine z_goto 108 dX7_fitsInPlan_104 (by decide) ?_
          refine z_ret dX7_fitsInPlan_108 (by first | exact True.intro | exact Or.inl rfl | exact Or.inr rfl | exact zb_01 _ | assumption | (show _ ∨ _; omega)) ⟨Nat.le_refl _, Nat.le_refl _⟩ ?_
          first | (rw [zb_t (by rw [e0, decide_eq_true c88]; simp)] at hQ; exact hQ) | (rw [zb_t (by rw [e0, c100]; simp)] at hQ; exact hQ) | (rw [zb_f (by rw [e0, decide_eq_false c88]; simpa using c100)] at hQ; exact hQ)
theorem c_X7_fits {i : Int} (hZ : zTxt h z C l) (hC : ∀ i : Int, 0 ≤ i → i < 60 → 0 ≤ C i ∧ C i ≤ 255) (hi : 0 ≤ i ∧ i < 60) (hq : 3 ≤ i → 1 ≤ C 2 - 48 ∧ C 2 - 48 ≤ 8) (hQ : Q (some (vI (zb (zfits C i = true)))) h) : zC (d + 4) mX7_fits 0 0 [vR z, vI i] h Q := by
  have k0 := hZ.2.1
  have hCi := hC i (by omega) (by omega)
  refine zC.of zpl_X7 (Nat.le_of_ble_eq_true rfl) ?_
  refine z_iload_n 1 dX7_fits_0 rfl rfl ?_
  refine z_iconst 2 dX7_fits_1 rfl ?_
  refine z_icmp_ge 11 5 dX7_fits_2 (by decide) rfl (by first | omega | exact zr_b _ | exact zr_and _ _ | exact zr_or _ _ | exact zr_shl _ _) (by first | omega | exact zr_b _ | exact zr_and _ _ | exact zr_or _ _ | exact zr_shl _ _) (fun c2 => ?_) (fun c2 => ?_)
  · have hq := hq c2
    refine z_aload_n 12 dX7_fits_11 rfl rfl ?_
    refine z_cV0 15 dX7_fits_12 rfl kX7_planStart zw_308 (Nat.le_of_ble_eq_true rfl) ⟨Nat.le_refl _, Nat.le_refl _⟩ (by first | with_reducible assumption | with_reducible exact zup_same _ _ _) ?_
    refine c_X7_planStart hZ ?_
    refine z_istore_n 16 dX7_fits_15 rfl (by decide) ?_
    refine z_iload_n 17 dX7_fits_16 rfl rfl ?_
    refine z_iload_n 18 dX7_fits_17 rfl rfl ?_
    refine z_icmp_ge 42 21 dX7_fits_18 (by decide) rfl (by first | omega | exact zr_b _ | exact zr_and _ _ | exact zr_or _ _ | exact zr_shl _ _) (by first | omega | exact zr_b _ | exact zr_and _ _ | exact zr_or _ _ | exact zr_shl _ _) (fun c18 => ?_) (fun c18 => ?_)
    · refine z_iload_n 43 dX7_fits_42 rfl rfl ?_
      refine z_aload_n 44 dX7_fits_43 rfl rfl ?_
      refine z_cV0 47 dX7_fits_44 rfl kX7_wholeLength zw_312 (Nat.le_of_ble_eq_true rfl) ⟨Nat.le_refl _, Nat.le_refl _⟩ (by first | with_reducible assumption | with_reducible exact zup_same _ _ _) ?_
      refine c_X7_wholeLength hZ ?_
      refine z_icmp_ge 63 50 dX7_fits_47 (by decide) rfl (by first | omega | exact zr_b _ | exact zr_and _ _ | exact zr_or _ _ | exact zr_shl _ _) (by first | omega | exact zr_b _ | exact zr_and _ _ | exact zr_or _ _ | exact zr_shl _ _) (fun c47 => ?_) (fun c47 => ?_)
      · refine z_iconst 64 dX7_fits_63 rfl ?_
        refine z_ret dX7_fits_64 (by first | exact True.intro | exact Or.inl rfl | exact Or.inr rfl | exact zb_01 _ | assumption | (show _ ∨ _; omega)) ⟨Nat.le_refl _, Nat.le_refl _⟩ ?_
        first | (rw [zb_t c56] at hQ; exact hQ) | (rw [zb_f c56] at hQ; exact hQ) | (rw [zb_f (by unfold zfits; rw [if_neg (by omega), if_neg (by omega), if_neg (by omega), if_neg (by omega), if_neg (by omega)]; decide)] at hQ; exact hQ)
      · refine z_aload_n 51 dX7_fits_50 rfl rfl ?_
        refine z_iload_n 52 dX7_fits_51 rfl rfl ?_
        refine z_iload_n 53 dX7_fits_52 rfl rfl ?_
        refine z_cV2 56 dX7_fits_53 rfl kX7_fitsInPlan zw_316 (Nat.le_of_ble_eq_true rfl) ⟨Nat.le_refl _, Nat.le_refl _⟩ (by first | with_reducible assumption | with_reducible exact zup_same _ _ _) ?_
        refine c_X7_fitsInPlan hZ hC hq rfl (by omega) ?_
        refine z_if_eq 63 59 dX7_fits_56 (by decide) rfl (by first | omega | exact zr_b _ | exact zr_and _ _ | exact zr_or _ _ | exact zr_shl _ _) (fun c56 => ?_) (fun c56 => ?_)
        · try replace c56 := zb_0 c56
          refine z_iconst 64 dX7_fits_63 rfl ?_
          refine z_ret dX7_fits_64 (by first | exact True.intro | exact Or.inl rfl | exact Or.inr rfl | exact zb_01 _ | assumption | (show _ ∨ _; omega)) ⟨Nat.le_refl _, Nat.le_refl _⟩ ?_
          first | (rw [zb_t c56] at hQ; exact hQ) | (rw [zb_f c56] at hQ; exact hQ) | (rw [zb_f (by unfold zfits; rw [if_neg (by omega), if_neg (by omega), if_neg (by omega), if_neg (by omega), if_neg (by omega)]; decide)] at hQ; exact hQ)
        · try replace c56 := zb_1 c56
          refine z_iconst 60 dX7_fits_59 rfl ?_
          refine z_goto 64 dX7_fits_60 (by decide) ?_
          refine z_ret dX7_fits_64 (by first | exact True.intro | exact Or.inl rfl | exact Or.inr rfl | exact zb_01 _ | assumption | (show _ ∨ _; omega)) ⟨Nat.le_refl _, Nat.le_refl _⟩ ?_
          first | (rw [zb_t c56] at hQ; exact hQ) | (rw [zb_f c56] at hQ; exact hQ) | (rw [zb_f (by unfold zfits; rw [if_neg (by omega), if_neg (by omega), if_neg (by omega), if_neg (by omega), if_neg (by omega)]; decide)] at hQ; exact hQ)
    · have e0 : zfits C i = decide (1 ≤ C i - 48 ∧ C i - 48 ≤ (if (i - 3) % 2 = 0 then 9 else 5)) := by unfold zfits; rw [if_neg (by omega), if_neg (by omega), if_neg (by omega), if_pos (by omega)]
      refine z_aload_n 22 dX7_fits_21 rfl rfl ?_
      refine z_iload_n 23 dX7_fits_22 rfl rfl ?_
      refine z_iconst 24 dX7_fits_23 rfl ?_
      refine z_iload_n 25 dX7_fits_24 rfl rfl ?_
      refine z_iconst 26 dX7_fits_25 rfl ?_
      refine z_isub 27 dX7_fits_26 rfl ?_
      refine z_iconst 28 dX7_fits_27 rfl ?_
      refine z_irem 29 dX7_fits_28 rfl (by first | omega | exact zr_b _ | exact zr_and _ _ | exact zr_or _ _ | exact zr_shl _ _) (by first | omega | exact zr_b _ | exact zr_and _ _ | exact zr_or _ _ | exact zr_shl _ _) ?_
      refine z_if_ne 37 32 dX7_fits_29 (by decide) rfl (by first | omega | exact zr_b _ | exact zr_and _ _ | exact zr_or _ _ | exact zr_shl _ _) (fun c29 => ?_) (fun c29 => ?_)
      · try replace c29 := zb_1 c29
        rw [if_neg c29] at e0
        refine z_iconst 38 dX7_fits_37 rfl ?_
        refine z_cV3 41 dX7_fits_38 rfl kX7_isFigure zw_297 (Nat.le_of_ble_eq_true rfl) ⟨Nat.le_refl _, Nat.le_refl _⟩ (by first | with_reducible assumption | with_reducible exact zup_same _ _ _) ?_
        refine c_X7_isFigure hZ (by omega) hCi (by omega) (by omega) ?_
        refine z_ret dX7_fits_41 (by first | exact True.intro | exact Or.inl rfl | exact Or.inr rfl | exact zb_01 _ | assumption | (show _ ∨ _; omega)) ⟨Nat.le_refl _, Nat.le_refl _⟩ ?_
        rw [e0, zb_cg decide_eq_true_iff] at hQ
        exact hQ
      · try replace c29 := zb_0 c29
        rw [if_pos c29] at e0
        refine z_bipush 34 dX7_fits_32 rfl (by decide) ?_
        refine z_goto 38 dX7_fits_34 (by decide) ?_
        refine z_cV3 41 dX7_fits_38 rfl kX7_isFigure zw_297 (Nat.le_of_ble_eq_true rfl) ⟨Nat.le_refl _, Nat.le_refl _⟩ (by first | with_reducible assumption | with_reducible exact zup_same _ _ _) ?_
        refine c_X7_isFigure hZ (by omega) hCi (by omega) (by omega) ?_
        refine z_ret dX7_fits_41 (by first | exact True.intro | exact Or.inl rfl | exact Or.inr rfl | exact zb_01 _ | assumption | (show _ ∨ _; omega)) ⟨Nat.le_refl _, Nat.le_refl _⟩ ?_
        rw [e0, zb_cg decide_eq_true_iff] at hQ
        exact hQ
  · refine z_aload_n 6 dX7_fits_5 rfl rfl ?_
    refine z_iload_n 7 dX7_fits_6 rfl rfl ?_
    refine z_cV1 10 dX7_fits_7 rfl kX7_fitsInHead zw_293 (Nat.le_of_ble_eq_true rfl) ⟨Nat.le_refl _, Nat.le_refl _⟩ (by first | with_reducible assumption | with_reducible exact zup_same _ _ _) ?_
    refine c_X7_fitsInHead hZ (by omega) hC ?_
    refine z_ret dX7_fits_10 (by first | exact True.intro | exact Or.inl rfl | exact Or.inr rfl | exact zb_01 _ | assumption | (show _ ∨ _; omega)) ⟨Nat.le_refl _, Nat.le_refl _⟩ ?_
    exact hQ
end TEXT
