/-! LateLetters$Text: the first fault, the telling -/
section TEXT2
variable {d : Nat} {h : zH} {Q : Option zV → zH → Prop} {z : Nat} {C : Int → Int}
theorem zfits_q (h : zfits C 2 = true) : 1 ≤ C 2 - 48 ∧ C 2 - 48 ≤ 8 := by
  unfold zfits at h
  simpa using h
/-- the first fault: k, that does not fit, or all fit -/
theorem c_X7_firstFault_at {l k : Nat} (hZ : zTxt h z C l) (hl : l ≤ 60) (hC : ∀ i : Int, 0 ≤ i → i < 60 → 0 ≤ C i ∧ C i ≤ 255) (hk : k < l) (h1 : ∀ j : Nat, j < k → zfits C j = true) (h2 : zfits C k = false) (hQ : Q (some (vI k)) h) : zC (d + 5) mX7_firstFault 0 0 [vR z] h Q := by
  have k0 := hZ.2.1
  have hq : ∀ i : Nat, i ≤ k → 3 ≤ (i : Int) → 1 ≤ C 2 - 48 ∧ C 2 - 48 ≤ 8 := fun i hi h3 => zfits_q (h1 2 (by omega))
  have key : ∀ i : Nat, i ≤ k → Z (d + 5) mX7_firstFault zo 2 [some (vR z), some (vI i)] [] h Q := by
    refine z_loop k ?_ ?_
    · refine z_iload_n 3 dX7_firstFault_2 rfl rfl ?_
      refine z_aload_n 4 dX7_firstFault_3 rfl rfl ?_
      refine z_getf (ci := 7) 7 dX7_firstFault_4 rfl rfl zin_7 1 (by decide) zw_155 (by first | with_reducible assumption | with_reducible exact zup_same _ _ _) rfl ?_
      refine z_icmp_ge 26 10 dX7_firstFault_7 (by decide) rfl (by first | omega | exact zr_b _ | exact zr_and _ _ | exact zr_or _ _ | exact zr_shl _ _) (by first | omega | exact zr_b _ | exact zr_and _ _ | exact zr_or _ _ | exact zr_shl _ _) (fun c7 => ?_) (fun c7 => ?_)
      · exfalso; omega
      · refine z_aload_n 11 dX7_firstFault_10 rfl rfl ?_
        refine z_iload_n 12 dX7_firstFault_11 rfl rfl ?_
        refine z_cV1 15 dX7_firstFault_12 rfl kX7_fits zw_289 (Nat.le_of_ble_eq_true rfl) ⟨Nat.le_refl _, Nat.le_refl _⟩ (by first | with_reducible assumption | with_reducible exact zup_same _ _ _) ?_
        refine c_X7_fits hZ hC (by omega) (hq k (Nat.le_refl _)) ?_
        refine z_if_ne 20 18 dX7_firstFault_15 (by decide) rfl (by first | omega | exact zr_b _ | exact zr_and _ _ | exact zr_or _ _ | exact zr_shl _ _) (fun c15 => ?_) (fun c15 => ?_)
        · exact absurd c15 (by rw [h2]; decide)
        · try replace c15 := zb_0 c15
          refine z_iload_n 19 dX7_firstFault_18 rfl rfl ?_
          refine z_ret dX7_firstFault_19 (by first | exact True.intro | exact Or.inl rfl | exact Or.inr rfl | exact zb_01 _ | assumption | (show _ ∨ _; omega)) ⟨Nat.le_refl _, Nat.le_refl _⟩ ?_
          exact hQ
    · intro i hi ih
      refine z_iload_n 3 dX7_firstFault_2 rfl rfl ?_
      refine z_aload_n 4 dX7_firstFault_3 rfl rfl ?_
      refine z_getf (ci := 7) 7 dX7_firstFault_4 rfl rfl zin_7 1 (by decide) zw_155 (by first | with_reducible assumption | with_reducible exact zup_same _ _ _) rfl ?_
      refine z_icmp_ge 26 10 dX7_firstFault_7 (by decide) rfl (by first | omega | exact zr_b _ | exact zr_and _ _ | exact zr_or _ _ | exact zr_shl _ _) (by first | omega | exact zr_b _ | exact zr_and _ _ | exact zr_or _ _ | exact zr_shl _ _) (fun c7 => ?_) (fun c7 => ?_)
      · exfalso; omega
      · refine z_aload_n 11 dX7_firstFault_10 rfl rfl ?_
        refine z_iload_n 12 dX7_firstFault_11 rfl rfl ?_
        refine z_cV1 15 dX7_firstFault_12 rfl kX7_fits zw_289 (Nat.le_of_ble_eq_true rfl) ⟨Nat.le_refl _, Nat.le_refl _⟩ (by first | with_reducible assumption | with_reducible exact zup_same _ _ _) ?_
        refine c_X7_fits hZ hC (by omega) (hq i (by omega)) ?_
        refine z_if_ne 20 18 dX7_firstFault_15 (by decide) rfl (by first | omega | exact zr_b _ | exact zr_and _ _ | exact zr_or _ _ | exact zr_shl _ _) (fun c15 => ?_) (fun c15 => ?_)
        · try replace c15 := zb_1 c15
          refine z_iinc 23 dX7_firstFault_20 rfl (by decide) rfl ?_
          refine z_goto 2 dX7_firstFault_23 (by decide) ?_
          exact ih
        · exact absurd (h1 i hi) (zb_0 c15)
  refine zC.of zpl_X7 (Nat.le_of_ble_eq_true rfl) ?_
  refine z_iconst 1 dX7_firstFault_0 rfl ?_
  refine z_istore_n 2 dX7_firstFault_1 rfl (by decide) ?_
  exact key 0 (Nat.zero_le _)
theorem c_X7_firstFault_all {l : Nat} (hZ : zTxt h z C l) (hl : l ≤ 60) (hC : ∀ i : Int, 0 ≤ i → i < 60 → 0 ≤ C i ∧ C i ≤ 255) (h1 : ∀ j : Nat, j < l → zfits C j = true) (hQ : Q (some (vI (if 2 < l ∧ (l : Int) = 3 + 2 * (C 2 - 48) + 3 * (C 2 - 48 - 1) then -9 else l))) h) : zC (d + 5) mX7_firstFault 0 0 [vR z] h Q := by
  have k0 := hZ.2.1
  have hC2 := hC 2 (by omega) (by omega)
  have hq : ∀ i : Nat, i < l → 3 ≤ (i : Int) → 1 ≤ C 2 - 48 ∧ C 2 - 48 ≤ 8 := fun i hi h3 => zfits_q (h1 2 (by omega))
  have key : ∀ i : Nat, i ≤ l → Z (d + 5) mX7_firstFault zo 2 [some (vR z), some (vI i)] [] h Q := by
    refine z_loop l ?_ ?_
    · refine z_iload_n 3 dX7_firstFault_2 rfl rfl ?_
      refine z_aload_n 4 dX7_firstFault_3 rfl rfl ?_
      refine z_getf (ci := 7) 7 dX7_firstFault_4 rfl rfl zin_7 1 (by decide) zw_155 (by first | with_reducible assumption | with_reducible exact zup_same _ _ _) rfl ?_
      refine z_icmp_ge 26 10 dX7_firstFault_7 (by decide) rfl (by first | omega | exact zr_b _ | exact zr_and _ _ | exact zr_or _ _ | exact zr_shl _ _) (by first | omega | exact zr_b _ | exact zr_and _ _ | exact zr_or _ _ | exact zr_shl _ _) (fun c7 => ?_) (fun c7 => ?_)
      · refine z_aload_n 27 dX7_firstFault_26 rfl rfl ?_
        refine z_getf (ci := 7) 30 dX7_firstFault_27 rfl rfl zin_7 1 (by decide) zw_155 (by first | with_reducible assumption | with_reducible exact zup_same _ _ _) rfl ?_
        refine z_iconst 31 dX7_firstFault_30 rfl ?_
        refine z_icmp_le 50 34 dX7_firstFault_31 (by decide) rfl (by first | omega | exact zr_b _ | exact zr_and _ _ | exact zr_or _ _ | exact zr_shl _ _) (by first | omega | exact zr_b _ | exact zr_and _ _ | exact zr_or _ _ | exact zr_shl _ _) (fun c31 => ?_) (fun c31 => ?_)
        · refine z_aload_n 51 dX7_firstFault_50 rfl rfl ?_
          refine z_getf (ci := 7) 54 dX7_firstFault_51 rfl rfl zin_7 1 (by decide) zw_155 (by first | with_reducible assumption | with_reducible exact zup_same _ _ _) rfl ?_
          refine z_ret dX7_firstFault_54 (by first | exact True.intro | exact Or.inl rfl | exact Or.inr rfl | exact zb_01 _ | assumption | (show _ ∨ _; omega)) ⟨Nat.le_refl _, Nat.le_refl _⟩ ?_
          first | (rw [if_pos (by omega)] at hQ; exact hQ) | (rw [if_neg (by omega)] at hQ; exact hQ)
        · refine z_aload_n 35 dX7_firstFault_34 rfl rfl ?_
          refine z_getf (ci := 7) 38 dX7_firstFault_35 rfl rfl zin_7 1 (by decide) zw_155 (by first | with_reducible assumption | with_reducible exact zup_same _ _ _) rfl ?_
          refine z_aload_n 39 dX7_firstFault_38 rfl rfl ?_
          refine z_cV0 42 dX7_firstFault_39 rfl kX7_wholeLength zw_312 (Nat.le_of_ble_eq_true rfl) ⟨Nat.le_refl _, Nat.le_refl _⟩ (by first | with_reducible assumption | with_reducible exact zup_same _ _ _) ?_
          refine c_X7_wholeLength hZ ?_
          refine z_icmp_ne 50 45 dX7_firstFault_42 (by decide) rfl (by first | omega | exact zr_b _ | exact zr_and _ _ | exact zr_or _ _ | exact zr_shl _ _) (by first | omega | exact zr_b _ | exact zr_and _ _ | exact zr_or _ _ | exact zr_shl _ _) (fun c42 => ?_) (fun c42 => ?_)
          · refine z_aload_n 51 dX7_firstFault_50 rfl rfl ?_
            refine z_getf (ci := 7) 54 dX7_firstFault_51 rfl rfl zin_7 1 (by decide) zw_155 (by first | with_reducible assumption | with_reducible exact zup_same _ _ _) rfl ?_
            refine z_ret dX7_firstFault_54 (by first | exact True.intro | exact Or.inl rfl | exact Or.inr rfl | exact zb_01 _ | assumption | (show _ ∨ _; omega)) ⟨Nat.le_refl _, Nat.le_refl _⟩ ?_
            first | (rw [if_pos (by omega)] at hQ; exact hQ) | (rw [if_neg (by omega)] at hQ; exact hQ)
          · refine z_bipush 47 dX7_firstFault_45 rfl (by decide) ?_
            refine z_goto 54 dX7_firstFault_47 (by decide) ?_
            refine z_ret dX7_firstFault_54 (by first | exact True.intro | exact Or.inl rfl | exact Or.inr rfl | exact zb_01 _ | assumption | (show _ ∨ _; omega)) ⟨Nat.le_refl _, Nat.le_refl _⟩ ?_
            first | (rw [if_pos (by omega)] at hQ; exact hQ) | (rw [if_neg (by omega)] at hQ; exact hQ)
      · exfalso; omega
    · intro i hi ih
      refine z_iload_n 3 dX7_firstFault_2 rfl rfl ?_
      refine z_aload_n 4 dX7_firstFault_3 rfl rfl ?_
      refine z_getf (ci := 7) 7 dX7_firstFault_4 rfl rfl zin_7 1 (by decide) zw_155 (by first | with_reducible assumption | with_reducible exact zup_same _ _ _) rfl ?_
      refine z_icmp_ge 26 10 dX7_firstFault_7 (by decide) rfl (by first | omega | exact zr_b _ | exact zr_and _ _ | exact zr_or _ _ | exact zr_shl _ _) (by first | omega | exact zr_b _ | exact zr_and _ _ | exact zr_or _ _ | exact zr_shl _ _) (fun c7 => ?_) (fun c7 => ?_)
      · exfalso; omega
      · refine z_aload_n 11 dX7_firstFault_10 rfl rfl ?_
        refine z_iload_n 12 dX7_firstFault_11 rfl rfl ?_
        refine z_cV1 15 dX7_firstFault_12 rfl kX7_fits zw_289 (Nat.le_of_ble_eq_true rfl) ⟨Nat.le_refl _, Nat.le_refl _⟩ (by first | with_reducible assumption | with_reducible exact zup_same _ _ _) ?_
        refine c_X7_fits hZ hC (by omega) (hq i hi) ?_
        refine z_if_ne 20 18 dX7_firstFault_15 (by decide) rfl (by first | omega | exact zr_b _ | exact zr_and _ _ | exact zr_or _ _ | exact zr_shl _ _) (fun c15 => ?_) (fun c15 => ?_)
        · try replace c15 := zb_1 c15
          refine z_iinc 23 dX7_firstFault_20 rfl (by decide) rfl ?_
          refine z_goto 2 dX7_firstFault_23 (by decide) ?_
          exact ih
        · exact absurd (h1 i hi) (zb_0 c15)
  refine zC.of zpl_X7 (Nat.le_of_ble_eq_true rfl) ?_
  refine z_iconst 1 dX7_firstFault_0 rfl ?_
  refine z_istore_n 2 dX7_firstFault_1 rfl (by decide) ?_
  exact key 0 (Nat.zero_le _)
/-- tellers and plan as they are read -/
def zte (C : Int → Int) (st : Int) (E P : Int → Int) : Nat → (Int → Int) × (Int → Int)
  | 0 => (E, P)
  | j + 1 => (zst (zte C st E P j).1 (C (st + 3 * j + 1) - 48) (C (st + 3 * j + 2) - 48), zst (zte C st E P j).2 j (C (st + 3 * j + 1) - 48))
/-- delays and gaps as they are read, of the first k -/
def ztd (C D : Int → Int) : Nat → (Int → Int)
  | 0 => D
  | k + 1 => zst (ztd C D k) k (C (3 + 2 * k) - 48)
def ztg (C G : Int → Int) : Nat → (Int → Int)
  | 0 => G
  | k + 1 => zst (ztg C G k) k (C (3 + 2 * k + 1) - 48)
set_option maxHeartbeats 1000000 in
theorem c_X7_tellInto {l q t : Nat} {n m s : Int} {D G E P : Int → Int} (hZ : zTxt h z C l) (hT : zTel h t n m s D G E P) (hx : z + 1 < t ∨ t + 4 < z) (hq : C 2 - 48 = q) (hq8 : 1 ≤ q ∧ q ≤ 8) (hl : (l : Int) = 3 + 2 * q + 3 * (q - 1)) (hv : ∀ j : Nat, j < q - 1 → 0 ≤ C (3 + 2 * q + 3 * j + 1) - 48 ∧ C (3 + 2 * q + 3 * j + 1) - 48 < 8)
    (hQ : ∀ h', zTel h' t q (C 1 - 48) ((q - 1 : Nat) : Int) (ztd C D q) (ztg C G q) (zte C (3 + 2 * q) E P (q - 1)).1 (zte C (3 + 2 * q) E P (q - 1)).2 → zMod t (t + 4) h h' → Q none h') : zC (d + 3) mX7_tellInto 0 0 [vR z, vR t] h Q := by
  have k0 := hZ.2.1
  have ht2 := hT.1
  have lp2 : ∀ j : Nat, j ≤ q - 1 → ∀ h', zTel h' t q (C 1 - 48) j (ztd C D q) (ztg C G q) (zte C (3 + 2 * q) E P j).1 (zte C (3 + 2 * q) E P j).2 → zMod t (t + 4) h h' → Z (d + 3) mX7_tellInto zo 64 [some (vR z), some (vR t), some (vI q), some (vI (3 + 2 * q + 3 * j))] [] h' Q := by
    refine z_loop (q - 1) ?_ ?_
    · intro h' hT' hM
      have hZ' := hZ.mod hM (by omega)
      have zh0 := hZ'.2.1
      refine z_iload_n 65 dX7_tellInto_64 rfl rfl ?_
      refine z_aload_n 66 dX7_tellInto_65 rfl rfl ?_
      refine z_getf (ci := 7) 69 dX7_tellInto_66 rfl rfl zin_7 1 (by decide) zw_155 (by first | with_reducible assumption | with_reducible exact zup_same _ _ _) rfl ?_
      refine z_icmp_ge 96 72 dX7_tellInto_69 (by decide) rfl (by first | omega | exact zr_b _ | exact zr_and _ _ | exact zr_or _ _ | exact zr_shl _ _) (by first | omega | exact zr_b _ | exact zr_and _ _ | exact zr_or _ _ | exact zr_shl _ _) (fun c69 => ?_) (fun c69 => ?_)
      · refine z_vret dX7_tellInto_96 (by first | exact True.intro | exact Or.inl rfl | exact Or.inr rfl | exact zb_01 _ | assumption | (show _ ∨ _; omega)) ⟨Nat.le_refl _, Nat.le_refl _⟩ ?_
        exact hQ _ hT' hM
      · exfalso; omega
    · intro j hj ih h' hT' hM
      have hZ' := hZ.mod hM (by omega)
      have hvj := hv j hj
      have zh0 := hZ'.2.1
      have zh1 := hT'.2.1
      refine z_iload_n 65 dX7_tellInto_64 rfl rfl ?_
      refine z_aload_n 66 dX7_tellInto_65 rfl rfl ?_
      refine z_getf (ci := 7) 69 dX7_tellInto_66 rfl rfl zin_7 1 (by decide) zw_155 (by first | with_reducible assumption | with_reducible exact zup_same _ _ _) rfl ?_
      refine z_icmp_ge 96 72 dX7_tellInto_69 (by decide) rfl (by first | omega | exact zr_b _ | exact zr_and _ _ | exact zr_or _ _ | exact zr_shl _ _) (by first | omega | exact zr_b _ | exact zr_and _ _ | exact zr_or _ _ | exact zr_shl _ _) (fun c69 => ?_) (fun c69 => ?_)
      · exfalso; omega
      · refine z_aload_n 73 dX7_tellInto_72 rfl rfl ?_
        refine z_aload_n 74 dX7_tellInto_73 rfl rfl ?_
        refine z_iload_n 75 dX7_tellInto_74 rfl rfl ?_
        refine z_iconst 76 dX7_tellInto_75 rfl ?_
        refine z_iadd 77 dX7_tellInto_76 rfl ?_
        refine z_cV1 80 dX7_tellInto_77 rfl kX7_figureAt zw_301 (Nat.le_of_ble_eq_true rfl) ⟨Nat.le_refl _, Nat.le_refl _⟩ (by first | with_reducible assumption | with_reducible exact zup_same _ _ _) ?_
        refine c_X7_figureAt hZ' (by omega) ?_
        refine z_aload_n 81 dX7_tellInto_80 rfl rfl ?_
        refine z_iload_n 82 dX7_tellInto_81 rfl rfl ?_
        refine z_iconst 83 dX7_tellInto_82 rfl ?_
        refine z_iadd 84 dX7_tellInto_83 rfl ?_
        refine z_cV1 87 dX7_tellInto_84 rfl kX7_figureAt zw_301 (Nat.le_of_ble_eq_true rfl) ⟨Nat.le_refl _, Nat.le_refl _⟩ (by first | with_reducible assumption | with_reducible exact zup_same _ _ _) ?_
        refine c_X7_figureAt hZ' (by omega) ?_
        refine z_cV2 90 dX7_tellInto_87 rfl kX6_putLast zw_345 (Nat.le_of_ble_eq_true rfl) ⟨Nat.le_refl _, Nat.le_refl _⟩ (by first | with_reducible assumption | with_reducible exact zup_same _ _ _) ?_
        refine c_X6_putLast hT' (by omega) (by omega) ?_
        refine z_iinc 93 dX7_tellInto_90 rfl (by decide) rfl ?_
        refine z_goto 64 dX7_tellInto_93 (by decide) ?_
        have k := ih _ (((hT'.pl _).tl _).fd (q : Int) (C 1 - 48) ((j : Int) + 1)) (((hM.up _ (by omega)).up _ (by omega)).up _ (by omega))
        rw [show (3 : Int) + 2 * q + 3 * ((j + 1 : Nat) : Int) = 3 + 2 * q + 3 * j + 3 by omega] at k
        exact k
  have lp1 : ∀ k : Nat, k ≤ q → ∀ h', zTel h' t q (C 1 - 48) 0 (ztd C D k) (ztg C G k) E P → zMod t (t + 4) h h' → Z (d + 3) mX7_tellInto zo 18 [some (vR z), some (vR t), some (vI q), some (vI k)] [] h' Q := by
    refine z_loop q ?_ ?_
    · intro h' hT' hM
      have hZ' := hZ.mod hM (by omega)
      have zh0 := hZ'.2.1
      refine z_iload_n 19 dX7_tellInto_18 rfl rfl ?_
      refine z_iload_n 20 dX7_tellInto_19 rfl rfl ?_
      refine z_icmp_ge 59 23 dX7_tellInto_20 (by decide) rfl (by first | omega | exact zr_b _ | exact zr_and _ _ | exact zr_or _ _ | exact zr_shl _ _) (by first | omega | exact zr_b _ | exact zr_and _ _ | exact zr_or _ _ | exact zr_shl _ _) (fun c20 => ?_) (fun c20 => ?_)
      · refine z_aload_n 60 dX7_tellInto_59 rfl rfl ?_
        refine z_cV0 63 dX7_tellInto_60 rfl kX7_planStart zw_308 (Nat.le_of_ble_eq_true rfl) ⟨Nat.le_refl _, Nat.le_refl _⟩ (by first | with_reducible assumption | with_reducible exact zup_same _ _ _) ?_
        refine c_X7_planStart hZ' ?_
        rw [hq]
        refine z_istore_n 64 dX7_tellInto_63 rfl (by decide) ?_
        have k := lp2 0 (Nat.zero_le _) h' hT' hM
        rw [show (3 : Int) + 2 * q + 3 * ((0 : Nat) : Int) = 3 + 2 * q by omega] at k
        exact k
      · exfalso; omega
    · intro k hk ih h' hT' hM
      have hZ' := hZ.mod hM (by omega)
      have zh0 := hZ'.2.1
      have zh1 := hT'.2.1
      refine z_iload_n 19 dX7_tellInto_18 rfl rfl ?_
      refine z_iload_n 20 dX7_tellInto_19 rfl rfl ?_
      refine z_icmp_ge 59 23 dX7_tellInto_20 (by decide) rfl (by first | omega | exact zr_b _ | exact zr_and _ _ | exact zr_or _ _ | exact zr_shl _ _) (by first | omega | exact zr_b _ | exact zr_and _ _ | exact zr_or _ _ | exact zr_shl _ _) (fun c20 => ?_) (fun c20 => ?_)
      · exfalso; omega
      · refine z_aload_n 24 dX7_tellInto_23 rfl rfl ?_
        refine z_iload_n 25 dX7_tellInto_24 rfl rfl ?_
        refine z_aload_n 26 dX7_tellInto_25 rfl rfl ?_
        refine z_iconst 27 dX7_tellInto_26 rfl ?_
        refine z_iconst 28 dX7_tellInto_27 rfl ?_
        refine z_iload_n 29 dX7_tellInto_28 rfl rfl ?_
        refine z_imul 30 dX7_tellInto_29 rfl ?_
        refine z_iadd 31 dX7_tellInto_30 rfl ?_
        refine z_cV1 34 dX7_tellInto_31 rfl kX7_figureAt zw_301 (Nat.le_of_ble_eq_true rfl) ⟨Nat.le_refl _, Nat.le_refl _⟩ (by first | with_reducible assumption | with_reducible exact zup_same _ _ _) ?_
        refine c_X7_figureAt hZ' (by omega) ?_
        refine z_cV2 37 dX7_tellInto_34 rfl kX6_setDelay zw_336 (Nat.le_of_ble_eq_true rfl) ⟨Nat.le_refl _, Nat.le_refl _⟩ (by first | with_reducible assumption | with_reducible exact zup_same _ _ _) ?_
        refine c_X6_setDelay hT' (by omega) ?_
        have hT2 := hT'.dl (zst (ztd C D k) k (C (3 + 2 * k) - 48))
        have hZ'2 := hZ'.ot (a := t + 1) (c := zI 8 (zst (ztd C D k) k (C (3 + 2 * k) - 48))) (by omega)
        have zh0 := hZ'2.2.1
        have zh1 := hT2.2.1
        refine z_aload_n 38 dX7_tellInto_37 rfl rfl ?_
        refine z_iload_n 39 dX7_tellInto_38 rfl rfl ?_
        refine z_aload_n 40 dX7_tellInto_39 rfl rfl ?_
        refine z_iconst 41 dX7_tellInto_40 rfl ?_
        refine z_iconst 42 dX7_tellInto_41 rfl ?_
        refine z_iload_n 43 dX7_tellInto_42 rfl rfl ?_
        refine z_imul 44 dX7_tellInto_43 rfl ?_
        refine z_iadd 45 dX7_tellInto_44 rfl ?_
        refine z_iconst 46 dX7_tellInto_45 rfl ?_
        refine z_iadd 47 dX7_tellInto_46 rfl ?_
        refine z_cV1 50 dX7_tellInto_47 rfl kX7_figureAt zw_301 (Nat.le_of_ble_eq_true rfl) ⟨Nat.le_refl _, Nat.le_refl _⟩ (by first | with_reducible assumption | with_reducible exact zup_same _ _ _) ?_
        refine c_X7_figureAt hZ'2 (by omega) ?_
        refine z_cV2 53 dX7_tellInto_50 rfl kX6_setGap zw_341 (Nat.le_of_ble_eq_true rfl) ⟨Nat.le_refl _, Nat.le_refl _⟩ (by first | with_reducible assumption | with_reducible exact zup_same _ _ _) ?_
        refine c_X6_setGap hT2 (by omega) ?_
        refine z_iinc 56 dX7_tellInto_53 rfl (by decide) rfl ?_
        refine z_goto 18 dX7_tellInto_56 (by decide) ?_
        exact ih _ (hT2.gp (zst (ztg C G k) k (C (3 + 2 * k + 1) - 48))) ((hM.up _ (by omega)).up _ (by omega))
  refine zC.of zpl_X7 (Nat.le_of_ble_eq_true rfl) ?_
  have zh0 := hZ.2.1
  have zh1 := hT.2.1
  refine z_aload_n 1 dX7_tellInto_0 rfl rfl ?_
  refine z_iconst 2 dX7_tellInto_1 rfl ?_
  refine z_cV1 5 dX7_tellInto_2 rfl kX7_figureAt zw_301 (Nat.le_of_ble_eq_true rfl) ⟨Nat.le_refl _, Nat.le_refl _⟩ (by first | with_reducible assumption | with_reducible exact zup_same _ _ _) ?_
  refine c_X7_figureAt hZ (by omega) ?_
  rw [hq]
  refine z_istore_n 6 dX7_tellInto_5 rfl (by decide) ?_
  refine z_aload_n 7 dX7_tellInto_6 rfl rfl ?_
  refine z_iload_n 8 dX7_tellInto_7 rfl rfl ?_
  refine z_aload_n 9 dX7_tellInto_8 rfl rfl ?_
  refine z_iconst 10 dX7_tellInto_9 rfl ?_
  refine z_cV1 13 dX7_tellInto_10 rfl kX7_figureAt zw_301 (Nat.le_of_ble_eq_true rfl) ⟨Nat.le_refl _, Nat.le_refl _⟩ (by first | with_reducible assumption | with_reducible exact zup_same _ _ _) ?_
  refine c_X7_figureAt hZ (by omega) ?_
  refine z_cV2 16 dX7_tellInto_13 rfl kX6_startWith zw_332 (Nat.le_of_ble_eq_true rfl) ⟨Nat.le_refl _, Nat.le_refl _⟩ (by first | with_reducible assumption | with_reducible exact zup_same _ _ _) ?_
  refine c_X6_startWith hT ?_
  refine z_iconst 17 dX7_tellInto_16 rfl ?_
  refine z_istore_n 18 dX7_tellInto_17 rfl (by decide) ?_
  exact lp1 0 (Nat.zero_le _) _ (hT.fd (q : Int) (C 1 - 48) 0) ((zMod.rf _ _ h).up _ (by omega))
end TEXT2
