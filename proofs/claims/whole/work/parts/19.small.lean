/-! LateLetters$Numbers, $Shelf, $Acts, $Slots, $Seen -/
def zby (B : Int → Int) (t : Int) : Int := if 0 ≤ t ∧ t < 61 then B t else 1
def zcn (B : Int → Int) (dl gp : Int) : Nat → (Int → Int)
  | 0 => B
  | t + 1 => zst (zcn B dl gp t) t (if (t : Int) < dl then 1 else zby (zcn B dl gp t) (t - dl) + zby (zcn B dl gp t) (t - gp))
def zNum (h : zH) (z : Nat) (B : Int → Int) : Prop := 2 ≤ z ∧ h.1 z = some (zO 1 [vR (z + 1)]) ∧ h.1 (z + 1) = some (zJ 61 B)
/-- a Shelf of n TELLINGS, the first one at b -/
def zShl (h : zH) (z n b : Nat) : Prop := 2 ≤ z ∧ h.1 z = some (zO 3 [vR (z + 1)]) ∧ ∃ f : Int → Option Nat, h.1 (z + 1) = some (zT n f) ∧ ∀ i : Nat, i < n → f i = some (b + 5 * i)
def zSee (h : zH) (z : Nat) (W K : Int → Int) (c : Int) : Prop := 2 ≤ z ∧ h.1 z = some (zO 2 [vR (z + 1), vR (z + 2), vI c]) ∧ h.1 (z + 1) = some (zI 6 W) ∧ h.1 (z + 2) = some (zI 6 K)
section SMALL
variable {d : Nat} {h : zH} {Q : Option zV → zH → Prop} {z : Nat} {B : Int → Int}
theorem zNum.ar (hZ : zNum h z B) (B' : Int → Int) : zNum (zup h (z + 1) (zJ 61 B')) z B' := by
  obtain ⟨h0, h1, h2⟩ := hZ
  refine ⟨h0, ?_, zup_same _ _ _⟩ <;> (rw [zup_ne _ _ (by omega)]; assumption)
theorem c_X1_by {t : Int} (hZ : zNum h z B) (ht : -2147483648 ≤ t ∧ t ≤ 2147483647) (hQ : Q (some (vJ (zby B t))) h) : zC d mX1_by 0 0 [vR z, vI t] h Q := by
  refine zC.of zpl_X1 (Nat.le_of_ble_eq_true rfl) ?_
  have zh0 := hZ.2.1
  have zh1 := hZ.2.2
  refine z_iload_n 1 dX1_by_0 rfl rfl ?_
  refine z_if_lt 22 4 dX1_by_1 (by decide) rfl (by first | omega | exact zr_b _ | exact zr_and _ _ | exact zr_or _ _ | exact zr_shl _ _) (fun c1 => ?_) (fun c1 => ?_)
  · rw [show zby B t = 1 from if_neg (by omega)] at hQ
    refine z_lconst 23 dX1_by_22 rfl ?_
    refine z_lret dX1_by_23 (by first | exact True.intro | exact Or.inl rfl | exact Or.inr rfl | exact zb_01 _ | assumption | (show _ ∨ _; omega)) ⟨Nat.le_refl _, Nat.le_refl _⟩ ?_
    exact hQ
  · refine z_iload_n 5 dX1_by_4 rfl rfl ?_
    refine z_aload_n 6 dX1_by_5 rfl rfl ?_
    refine z_getf (ci := 1) 9 dX1_by_6 rfl rfl zin_1 0 (by decide) zw_143 (by first | with_reducible assumption | with_reducible exact zup_same _ _ _) rfl ?_
    refine z_alen 10 dX1_by_9 rfl (by first | with_reducible assumption | with_reducible exact zup_same _ _ _) ?_
    refine z_icmp_ge 22 13 dX1_by_10 (by decide) rfl (by first | omega | exact zr_b _ | exact zr_and _ _ | exact zr_or _ _ | exact zr_shl _ _) (by first | omega | exact zr_b _ | exact zr_and _ _ | exact zr_or _ _ | exact zr_shl _ _) (fun c10 => ?_) (fun c10 => ?_)
    · rw [show zby B t = 1 from if_neg (by omega)] at hQ
      refine z_lconst 23 dX1_by_22 rfl ?_
      refine z_lret dX1_by_23 (by first | exact True.intro | exact Or.inl rfl | exact Or.inr rfl | exact zb_01 _ | assumption | (show _ ∨ _; omega)) ⟨Nat.le_refl _, Nat.le_refl _⟩ ?_
      exact hQ
    · rw [show zby B t = B t from if_pos (by omega)] at hQ
      refine z_aload_n 14 dX1_by_13 rfl rfl ?_
      refine z_getf (ci := 1) 17 dX1_by_14 rfl rfl zin_1 0 (by decide) zw_143 (by first | with_reducible assumption | with_reducible exact zup_same _ _ _) rfl ?_
      refine z_iload_n 18 dX1_by_17 rfl rfl ?_
      refine z_lald 19 dX1_by_18 rfl (by first | with_reducible assumption | with_reducible exact zup_same _ _ _) (by omega) (by first | omega | exact zr_b _ | exact zr_and _ _ | exact zr_or _ _ | exact zr_shl _ _) ?_
      refine z_goto 23 dX1_by_19 (by decide) ?_
      refine z_lret dX1_by_23 (by first | exact True.intro | exact Or.inl rfl | exact Or.inr rfl | exact zb_01 _ | assumption | (show _ ∨ _; omega)) ⟨Nat.le_refl _, Nat.le_refl _⟩ ?_
      exact hQ
theorem c_X1_count {dl gp : Int} (hZ : zNum h z B) (hd : 0 ≤ dl ∧ dl ≤ 1000 ∧ 0 ≤ gp ∧ gp ≤ 1000) (hQ : Q none (zup h (z + 1) (zJ 61 (zcn B dl gp 61)))) : zC (d + 1) mX1_count 0 0 [vR z, vI dl, vI gp] h Q := by
  have hz2 := hZ.1
  have key : ∀ i : Nat, i ≤ 61 → Z (d + 1) mX1_count zo 2 [some (vR z), some (vI dl), some (vI gp), some (vI i)] [] (zup h (z + 1) (zJ 61 (zcn B dl gp i))) Q := by
    refine z_loop 61 ?_ ?_
    · have hZ := hZ.ar (zcn B dl gp 61)
      have zh0 := hZ.2.1
      have zh1 := hZ.2.2
      refine z_iload_n 3 dX1_count_2 rfl rfl ?_
      refine z_aload_n 4 dX1_count_3 rfl rfl ?_
      refine z_getf (ci := 1) 7 dX1_count_4 rfl rfl zin_1 0 (by decide) zw_143 (by first | with_reducible assumption | with_reducible exact zup_same _ _ _) rfl ?_
      refine z_alen 8 dX1_count_7 rfl (by first | with_reducible assumption | with_reducible exact zup_same _ _ _) ?_
      refine z_icmp_ge 47 11 dX1_count_8 (by decide) rfl (by first | omega | exact zr_b _ | exact zr_and _ _ | exact zr_or _ _ | exact zr_shl _ _) (by first | omega | exact zr_b _ | exact zr_and _ _ | exact zr_or _ _ | exact zr_shl _ _) (fun c8 => ?_) (fun c8 => ?_)
      · refine z_vret dX1_count_47 (by first | exact True.intro | exact Or.inl rfl | exact Or.inr rfl | exact zb_01 _ | assumption | (show _ ∨ _; omega)) ⟨Nat.le_refl _, Nat.le_refl _⟩ ?_
        exact hQ
      · exfalso; omega
    · intro i hi ih
      have hZ := hZ.ar (zcn B dl gp i)
      have zh0 := hZ.2.1
      have zh1 := hZ.2.2
      refine z_iload_n 3 dX1_count_2 rfl rfl ?_
      refine z_aload_n 4 dX1_count_3 rfl rfl ?_
      refine z_getf (ci := 1) 7 dX1_count_4 rfl rfl zin_1 0 (by decide) zw_143 (by first | with_reducible assumption | with_reducible exact zup_same _ _ _) rfl ?_
      refine z_alen 8 dX1_count_7 rfl (by first | with_reducible assumption | with_reducible exact zup_same _ _ _) ?_
      refine z_icmp_ge 47 11 dX1_count_8 (by decide) rfl (by first | omega | exact zr_b _ | exact zr_and _ _ | exact zr_or _ _ | exact zr_shl _ _) (by first | omega | exact zr_b _ | exact zr_and _ _ | exact zr_or _ _ | exact zr_shl _ _) (fun c8 => ?_) (fun c8 => ?_)
      · exfalso; omega
      · refine z_aload_n 12 dX1_count_11 rfl rfl ?_
        refine z_getf (ci := 1) 15 dX1_count_12 rfl rfl zin_1 0 (by decide) zw_143 (by first | with_reducible assumption | with_reducible exact zup_same _ _ _) rfl ?_
        refine z_iload_n 16 dX1_count_15 rfl rfl ?_
        refine z_iload_n 17 dX1_count_16 rfl rfl ?_
        refine z_iload_n 18 dX1_count_17 rfl rfl ?_
        refine z_icmp_ge 25 21 dX1_count_18 (by decide) rfl (by first | omega | exact zr_b _ | exact zr_and _ _ | exact zr_or _ _ | exact zr_shl _ _) (by first | omega | exact zr_b _ | exact zr_and _ _ | exact zr_or _ _ | exact zr_shl _ _) (fun c18 => ?_) (fun c18 => ?_)
        · rw [show zcn B dl gp (i + 1) = zst (zcn B dl gp i) i (zby (zcn B dl gp i) (i - dl) + zby (zcn B dl gp i) (i - gp)) from congrArg (zst _ _) (if_neg (by omega))] at ih
          refine z_aload_n 26 dX1_count_25 rfl rfl ?_
          refine z_iload_n 27 dX1_count_26 rfl rfl ?_
          refine z_iload_n 28 dX1_count_27 rfl rfl ?_
          refine z_isub 29 dX1_count_28 rfl ?_
          refine z_cV1 32 dX1_count_29 rfl kX1_by zw_616 (Nat.le_of_ble_eq_true rfl) ⟨Nat.le_refl _, Nat.le_refl _⟩ (by first | with_reducible assumption | with_reducible exact zup_same _ _ _) ?_
          refine c_X1_by hZ (by omega) ?_
          refine z_aload_n 33 dX1_count_32 rfl rfl ?_
          refine z_iload_n 34 dX1_count_33 rfl rfl ?_
          refine z_iload_n 35 dX1_count_34 rfl rfl ?_
          refine z_isub 36 dX1_count_35 rfl ?_
          refine z_cV1 39 dX1_count_36 rfl kX1_by zw_616 (Nat.le_of_ble_eq_true rfl) ⟨Nat.le_refl _, Nat.le_refl _⟩ (by first | with_reducible assumption | with_reducible exact zup_same _ _ _) ?_
          refine c_X1_by hZ (by omega) ?_
          refine z_ladd 40 dX1_count_39 rfl ?_
          refine z_last 41 dX1_count_40 rfl (by omega) (by first | with_reducible assumption | with_reducible exact zup_same _ _ _) (by omega) (by first | omega | exact zr_b _ | exact zr_and _ _ | exact zr_or _ _ | exact zr_shl _ _) ?_
          rw [zup_zup]
          refine z_iinc 44 dX1_count_41 rfl (by decide) rfl ?_
          refine z_goto 2 dX1_count_44 (by decide) ?_
          exact ih
        · rw [show zcn B dl gp (i + 1) = zst (zcn B dl gp i) i 1 from congrArg (zst _ _) (if_pos c18)] at ih
          refine z_lconst 22 dX1_count_21 rfl ?_
          refine z_goto 40 dX1_count_22 (by decide) ?_
          refine z_last 41 dX1_count_40 rfl (by omega) (by first | with_reducible assumption | with_reducible exact zup_same _ _ _) (by omega) (by first | omega | exact zr_b _ | exact zr_and _ _ | exact zr_or _ _ | exact zr_shl _ _) ?_
          rw [zup_zup]
          refine z_iinc 44 dX1_count_41 rfl (by decide) rfl ?_
          refine z_goto 2 dX1_count_44 (by decide) ?_
          exact ih
  refine zC.of zpl_X1 (Nat.le_of_ble_eq_true rfl) ?_
  refine z_iconst 1 dX1_count_0 rfl ?_
  refine z_istore_n 2 dX1_count_1 rfl (by decide) ?_
  have k := key 0 (by omega)
  rw [show zcn B dl gp 0 = B from rfl, zup_self h hZ.2.2] at k
  exact k
theorem c_X3_placeAt {n b : Nat} {i : Int} (hZ : zShl h z n b) (hn : n ≤ 1000) (hi : 0 ≤ i ∧ i < n) (hQ : Q (some (vR (b + 5 * i.toNat))) h) : zC d mX3_placeAt 0 0 [vR z, vI i] h Q := by
  obtain ⟨h2, h3, f, h4, h5⟩ := hZ
  have e := h5 i.toNat (by omega)
  rw [show ((i.toNat : Nat) : Int) = i by omega] at e
  refine zC.of zpl_X3 (Nat.le_of_ble_eq_true rfl) ?_
  have zh0 := h3
  have zh1 := h4
  refine z_iload_n 1 dX3_placeAt_0 rfl rfl ?_
  refine z_if_lt 22 4 dX3_placeAt_1 (by decide) rfl (by first | omega | exact zr_b _ | exact zr_and _ _ | exact zr_or _ _ | exact zr_shl _ _) (fun c1 => ?_) (fun c1 => ?_)
  · exfalso; omega
  · refine z_iload_n 5 dX3_placeAt_4 rfl rfl ?_
    refine z_aload_n 6 dX3_placeAt_5 rfl rfl ?_
    refine z_getf (ci := 3) 9 dX3_placeAt_6 rfl rfl zin_3 0 (by decide) zw_179 (by first | with_reducible assumption | with_reducible exact zup_same _ _ _) rfl ?_
    refine z_alenT 10 dX3_placeAt_9 rfl (by first | with_reducible assumption | with_reducible exact zup_same _ _ _) ?_
    refine z_icmp_ge 22 13 dX3_placeAt_10 (by decide) rfl (by first | omega | exact zr_b _ | exact zr_and _ _ | exact zr_or _ _ | exact zr_shl _ _) (by first | omega | exact zr_b _ | exact zr_and _ _ | exact zr_or _ _ | exact zr_shl _ _) (fun c10 => ?_) (fun c10 => ?_)
    · exfalso; omega
    · refine z_aload_n 14 dX3_placeAt_13 rfl rfl ?_
      refine z_getf (ci := 3) 17 dX3_placeAt_14 rfl rfl zin_3 0 (by decide) zw_179 (by first | with_reducible assumption | with_reducible exact zup_same _ _ _) rfl ?_
      refine z_iload_n 18 dX3_placeAt_17 rfl rfl ?_
      refine z_aald 19 dX3_placeAt_18 rfl (by first | with_reducible assumption | with_reducible exact zup_same _ _ _) (by omega) (by first | omega | exact zr_b _ | exact zr_and _ _ | exact zr_or _ _ | exact zr_shl _ _) ?_
      refine z_goto 23 dX3_placeAt_19 (by decide) ?_
      refine z_aret dX3_placeAt_23 (by first | exact True.intro | exact Or.inl rfl | exact Or.inr rfl | exact zb_01 _ | assumption | (show _ ∨ _; omega)) ⟨Nat.le_refl _, Nat.le_refl _⟩ ?_
      rw [e]; exact hQ
theorem c_X3_store {n b t u : Nat} {i n1 m1 s1 n2 m2 s2 : Int} {D1 G1 E1 P1 D2 G2 E2 P2 : Int → Int} (hZ : zShl h z n b) (hn : n ≤ 1000) (hi : 0 ≤ i ∧ i < n) (hu : u = b + 5 * i.toNat) (hT : zTel h t n1 m1 s1 D1 G1 E1 P1) (hU : zTel h u n2 m2 s2 D2 G2 E2 P2) (ht : t + 4 < u ∨ u + 4 < t) (hQ : ∀ h', zTel h' u n1 m1 s1 D1 G1 E1 P1 → zMod u (u + 4) h h' → Q none h') : zC (d + 2) mX3_store 0 0 [vR z, vI i, vR t] h Q := by
  have z3 := hZ.2.1
  refine zC.of zpl_X3 (Nat.le_of_ble_eq_true rfl) ?_
  have zh0 := hT.2.1
  have zh1 := hU.2.1
  refine z_aload_n 1 dX3_store_0 rfl rfl ?_
  refine z_iload_n 2 dX3_store_1 rfl rfl ?_
  refine z_cV1 5 dX3_store_2 rfl kX3_placeAt zw_550 (Nat.le_of_ble_eq_true rfl) ⟨Nat.le_refl _, Nat.le_refl _⟩ (by first | with_reducible assumption | with_reducible exact zup_same _ _ _) ?_
  refine c_X3_placeAt hZ hn hi ?_
  rw [← hu]
  refine z_astore_n 6 dX3_store_5 rfl (by decide) ?_
  refine z_aload_n 7 dX3_store_6 rfl rfl ?_
  refine z_ifnull 10 dX3_store_7 rfl ?_
  refine z_aload_n 11 dX3_store_10 rfl rfl ?_
  refine z_aload_n 12 dX3_store_11 rfl rfl ?_
  refine z_cV1 15 dX3_store_12 rfl kX6_become zw_554 (Nat.le_of_ble_eq_true rfl) ⟨Nat.le_refl _, Nat.le_refl _⟩ (by first | with_reducible assumption | with_reducible exact zup_same _ _ _) ?_
  refine c_X6_become hU hT (by omega) (fun h' hT' hM => ?_)
  refine z_vret dX3_store_15 (by first | exact True.intro | exact Or.inl rfl | exact Or.inr rfl | exact zb_01 _ | assumption | (show _ ∨ _; omega)) ⟨Nat.le_refl _, Nat.le_refl _⟩ ?_
  exact hQ _ hT' hM
theorem c_X3_bring {n b t u : Nat} {i n1 m1 s1 n2 m2 s2 : Int} {D1 G1 E1 P1 D2 G2 E2 P2 : Int → Int} (hZ : zShl h z n b) (hn : n ≤ 1000) (hi : 0 ≤ i ∧ i < n) (hu : u = b + 5 * i.toNat) (hT : zTel h t n1 m1 s1 D1 G1 E1 P1) (hU : zTel h u n2 m2 s2 D2 G2 E2 P2) (ht : t + 4 < u ∨ u + 4 < t) (hQ : ∀ h', zTel h' t n2 m2 s2 D2 G2 E2 P2 → zMod t (t + 4) h h' → Q none h') : zC (d + 2) mX3_bring 0 0 [vR z, vI i, vR t] h Q := by
  have z3 := hZ.2.1
  refine zC.of zpl_X3 (Nat.le_of_ble_eq_true rfl) ?_
  have zh0 := hT.2.1
  have zh1 := hU.2.1
  refine z_aload_n 1 dX3_bring_0 rfl rfl ?_
  refine z_iload_n 2 dX3_bring_1 rfl rfl ?_
  refine z_cV1 5 dX3_bring_2 rfl kX3_placeAt zw_550 (Nat.le_of_ble_eq_true rfl) ⟨Nat.le_refl _, Nat.le_refl _⟩ (by first | with_reducible assumption | with_reducible exact zup_same _ _ _) ?_
  refine c_X3_placeAt hZ hn hi ?_
  rw [← hu]
  refine z_astore_n 6 dX3_bring_5 rfl (by decide) ?_
  refine z_aload_n 7 dX3_bring_6 rfl rfl ?_
  refine z_ifnull 10 dX3_bring_7 rfl ?_
  refine z_aload_n 11 dX3_bring_10 rfl rfl ?_
  refine z_aload_n 12 dX3_bring_11 rfl rfl ?_
  refine z_cV1 15 dX3_bring_12 rfl kX6_become zw_554 (Nat.le_of_ble_eq_true rfl) ⟨Nat.le_refl _, Nat.le_refl _⟩ (by first | with_reducible assumption | with_reducible exact zup_same _ _ _) ?_
  refine c_X6_become hT hU (by omega) (fun h' hT' hM => ?_)
  refine z_vret dX3_bring_15 (by first | exact True.intro | exact Or.inl rfl | exact Or.inr rfl | exact zb_01 _ | assumption | (show _ ∨ _; omega)) ⟨Nat.le_refl _, Nat.le_refl _⟩ ?_
  exact hQ _ hT' hM
theorem zShl.mod {n b lo hi : Nat} {h' : zH} (hZ : zShl h z n b) (hm : zMod lo hi h h') (ha : z + 1 < lo ∨ hi < z) : zShl h' z n b := by
  obtain ⟨h2, h3, f, h4, h5⟩ := hZ
  exact ⟨h2, by rw [hm.1 _ (by omega)]; exact h3, f, by rw [hm.1 _ (by omega)]; exact h4, h5⟩
theorem zShl.ot {n b a : Nat} {c : zE} (hZ : zShl h z n b) (ha : a < z ∨ z + 1 < a) : zShl (zup h a c) z n b := by
  obtain ⟨h2, h3, f, h4, h5⟩ := hZ
  exact ⟨h2, by rw [zup_ne _ _ (by omega)]; exact h3, f, by rw [zup_ne _ _ (by omega)]; exact h4, h5⟩
/-- ACTS: at z, with its Shelf behind it -/
abbrev zAO (z : Nat) (fi ct : Int) : zE := zO 0 [vR (z + 1), vI fi, vI ct]
theorem c_X0_count {fi ct : Int} (h1 : h.1 z = some (zAO z fi ct)) (hQ : Q (some (vI ct)) h) : zC d mX0_count 0 0 [vR z] h Q := by
  refine zC.of zpl_X0 (Nat.le_of_ble_eq_true rfl) ?_
  refine z_aload_n 1 dX0_count_0 rfl rfl ?_
  refine z_getf (ci := 0) 4 dX0_count_1 rfl rfl zin_0 2 (by decide) zw_185 (by first | with_reducible assumption | with_reducible exact zup_same _ _ _) rfl ?_
  refine z_ret dX0_count_4 (by first | exact True.intro | exact Or.inl rfl | exact Or.inr rfl | exact zb_01 _ | assumption | (show _ ∨ _; omega)) ⟨Nat.le_refl _, Nat.le_refl _⟩ ?_
  exact hQ
theorem c_X0_forgetAll {fi ct : Int} (h2 : 2 ≤ z) (h1 : h.1 z = some (zAO z fi ct)) (hQ : Q none (zup h z (zAO z fi 0))) : zC d mX0_forgetAll 0 0 [vR z] h Q := by
  refine zC.of zpl_X0 (Nat.le_of_ble_eq_true rfl) ?_
  refine z_aload_n 1 dX0_forgetAll_0 rfl rfl ?_
  refine z_iconst 2 dX0_forgetAll_1 rfl ?_
  refine z_putf (ci := 0) 5 dX0_forgetAll_2 rfl rfl zin_0 tyX0_ok nmX0 2 (by decide) zw_185 rfl (fun _ => ⟨rfl, rfl⟩) (by omega) (by first | with_reducible assumption | with_reducible exact zup_same _ _ _) (Nat.le_of_ble_eq_true rfl) ?_
  refine z_vret dX0_forgetAll_5 (by first | exact True.intro | exact Or.inl rfl | exact Or.inr rfl | exact zb_01 _ | assumption | (show _ ∨ _; omega)) ⟨Nat.le_refl _, Nat.le_refl _⟩ ?_
  exact hQ
theorem c_X0_remember {t u : Nat} {fi ct fi' ct' n1 m1 s1 n2 m2 s2 : Int} {D1 G1 E1 P1 D2 G2 E2 P2 : Int → Int} (h2 : 2 ≤ z) (h1 : h.1 z = some (zAO z fi ct)) (hZ : zShl h (z + 1) 14 (z + 3)) (hr : 0 ≤ fi ∧ fi < 14 ∧ 0 ≤ ct ∧ ct ≤ 14) (he : fi' = (if ct = 14 then (fi + 1) % 14 else fi) ∧ ct' = (if ct = 14 then 13 else ct)) (hu : u = z + 3 + 5 * ((fi' + ct') % 14).toNat) (hT : zTel h t n1 m1 s1 D1 G1 E1 P1) (hU : zTel h u n2 m2 s2 D2 G2 E2 P2) (ht : t + 4 < z ∨ z + 72 < t)
    (hQ : ∀ h', zTel h' u n1 m1 s1 D1 G1 E1 P1 → zMod u (u + 4) (zup h z (zAO z fi' ct')) h' → Q none (zup h' z (zAO z fi' (ct' + 1)))) : zC (d + 3) mX0_remember 0 0 [vR z, vR t] h Q := by
  have main : ∀ h1 : zH, h1 = zup h z (zAO z fi' ct') → Z (d + 3) mX0_remember zo 32 [some (vR z), some (vR t)] [] h1 Q := by
    intro h1 e
    have hb : 0 ≤ fi' ∧ fi' < 14 ∧ 0 ≤ ct' ∧ ct' < 14 := by
      obtain ⟨rfl, rfl⟩ := he
      by_cases q : ct = 14
      · rw [if_pos q, if_pos q]; omega
      · rw [if_neg q, if_neg q]; omega
    have k1 : h1.1 z = some (zAO z fi' ct') := by rw [e]; exact zup_same _ _ _
    have hZ1 : zShl h1 (z + 1) 14 (z + 3) := by rw [e]; exact hZ.ot (by omega)
    have k2 := hZ1.2.1
    have hT1 : zTel h1 t n1 m1 s1 D1 G1 E1 P1 := by rw [e]; exact hT.ot (by omega)
    have hU1 : zTel h1 u n2 m2 s2 D2 G2 E2 P2 := by rw [e]; exact hU.ot (by omega)
    refine z_aload_n 33 dX0_remember_32 rfl rfl ?_
    refine z_getf (ci := 0) 36 dX0_remember_33 rfl rfl zin_0 0 (by decide) zw_183 (by first | with_reducible assumption | with_reducible exact zup_same _ _ _) rfl ?_
    refine z_aload_n 37 dX0_remember_36 rfl rfl ?_
    refine z_getf (ci := 0) 40 dX0_remember_37 rfl rfl zin_0 1 (by decide) zw_184 (by first | with_reducible assumption | with_reducible exact zup_same _ _ _) rfl ?_
    refine z_aload_n 41 dX0_remember_40 rfl rfl ?_
    refine z_getf (ci := 0) 44 dX0_remember_41 rfl rfl zin_0 2 (by decide) zw_185 (by first | with_reducible assumption | with_reducible exact zup_same _ _ _) rfl ?_
    refine z_iadd 45 dX0_remember_44 rfl ?_
    refine z_bipush 47 dX0_remember_45 rfl (by decide) ?_
    refine z_irem 48 dX0_remember_47 rfl (by first | omega | exact zr_b _ | exact zr_and _ _ | exact zr_or _ _ | exact zr_shl _ _) (by first | omega | exact zr_b _ | exact zr_and _ _ | exact zr_or _ _ | exact zr_shl _ _) ?_
    refine z_aload_n 49 dX0_remember_48 rfl rfl ?_
    refine z_cV2 52 dX0_remember_49 rfl kX3_store zw_546 (Nat.le_of_ble_eq_true rfl) ⟨Nat.le_refl _, Nat.le_refl _⟩ (by first | with_reducible assumption | with_reducible exact zup_same _ _ _) ?_
    refine c_X3_store hZ1 (by decide) (by omega) hu hT1 hU1 (by omega) (fun h' hT' hM => ?_)
    have k1 : h'.1 z = some (zAO z fi' ct') := by rw [hM.1 _ (by omega)]; exact k1
    refine z_aload_n 53 dX0_remember_52 rfl rfl ?_
    refine z_dup_a 54 dX0_remember_53 rfl ?_
    refine z_getf (ci := 0) 57 dX0_remember_54 rfl rfl zin_0 2 (by decide) zw_185 (by first | with_reducible assumption | with_reducible exact zup_same _ _ _) rfl ?_
    refine z_iconst 58 dX0_remember_57 rfl ?_
    refine z_iadd 59 dX0_remember_58 rfl ?_
    refine z_putf (ci := 0) 62 dX0_remember_59 rfl rfl zin_0 tyX0_ok nmX0 2 (by decide) zw_185 rfl (fun _ => ⟨rfl, rfl⟩) (by omega) (by first | with_reducible assumption | with_reducible exact zup_same _ _ _) (Nat.le_of_ble_eq_true rfl) ?_
    refine z_vret dX0_remember_62 (by first | exact True.intro | exact Or.inl rfl | exact Or.inr rfl | exact zb_01 _ | assumption | (show _ ∨ _; omega)) ⟨Nat.le_refl _, Nat.le_refl _⟩ ?_
    exact hQ h' hT' (e ▸ hM)
  refine zC.of zpl_X0 (Nat.le_of_ble_eq_true rfl) ?_
  refine z_aload_n 1 dX0_remember_0 rfl rfl ?_
  refine z_getf (ci := 0) 4 dX0_remember_1 rfl rfl zin_0 2 (by decide) zw_185 (by first | with_reducible assumption | with_reducible exact zup_same _ _ _) rfl ?_
  refine z_bipush 6 dX0_remember_4 rfl (by decide) ?_
  refine z_icmp_ne 32 9 dX0_remember_6 (by decide) rfl (by first | omega | exact zr_b _ | exact zr_and _ _ | exact zr_or _ _ | exact zr_shl _ _) (by first | omega | exact zr_b _ | exact zr_and _ _ | exact zr_or _ _ | exact zr_shl _ _) (fun c6 => ?_) (fun c6 => ?_)
  · refine main _ ?_
    obtain ⟨e1, e2⟩ := he
    first | (rw [if_pos (by omega)] at e1 e2; rw [zup_zup, e1, e2]; subst c6; rfl) | (rw [if_neg (by omega)] at e1 e2; rw [e1, e2]; exact (zup_self h h1).symm)
  · refine z_aload_n 10 dX0_remember_9 rfl rfl ?_
    refine z_aload_n 11 dX0_remember_10 rfl rfl ?_
    refine z_getf (ci := 0) 14 dX0_remember_11 rfl rfl zin_0 1 (by decide) zw_184 (by first | with_reducible assumption | with_reducible exact zup_same _ _ _) rfl ?_
    refine z_iconst 15 dX0_remember_14 rfl ?_
    refine z_iadd 16 dX0_remember_15 rfl ?_
    refine z_bipush 18 dX0_remember_16 rfl (by decide) ?_
    refine z_irem 19 dX0_remember_18 rfl (by first | omega | exact zr_b _ | exact zr_and _ _ | exact zr_or _ _ | exact zr_shl _ _) (by first | omega | exact zr_b _ | exact zr_and _ _ | exact zr_or _ _ | exact zr_shl _ _) ?_
    refine z_putf (ci := 0) 22 dX0_remember_19 rfl rfl zin_0 tyX0_ok nmX0 1 (by decide) zw_184 rfl (fun _ => ⟨rfl, rfl⟩) (by omega) (by first | with_reducible assumption | with_reducible exact zup_same _ _ _) (Nat.le_of_ble_eq_true rfl) ?_
    show Z _ _ _ _ _ _ (zup h z (zAO z ((fi + 1) % 14) ct)) _
    have k1 := zup_same h z (zAO z ((fi + 1) % 14) ct)
    refine z_aload_n 23 dX0_remember_22 rfl rfl ?_
    refine z_dup_a 24 dX0_remember_23 rfl ?_
    refine z_getf (ci := 0) 27 dX0_remember_24 rfl rfl zin_0 2 (by decide) zw_185 (by first | with_reducible assumption | with_reducible exact zup_same _ _ _) rfl ?_
    refine z_iconst 28 dX0_remember_27 rfl ?_
    refine z_isub 29 dX0_remember_28 rfl ?_
    refine z_putf (ci := 0) 32 dX0_remember_29 rfl rfl zin_0 tyX0_ok nmX0 2 (by decide) zw_185 rfl (fun _ => ⟨rfl, rfl⟩) (by omega) (by first | with_reducible assumption | with_reducible exact zup_same _ _ _) (Nat.le_of_ble_eq_true rfl) ?_
    refine main _ ?_
    obtain ⟨e1, e2⟩ := he
    first | (rw [if_pos (by omega)] at e1 e2; rw [zup_zup, e1, e2]; subst c6; rfl) | (rw [if_neg (by omega)] at e1 e2; rw [e1, e2]; exact (zup_self h h1).symm)
theorem c_X0_takeBack_no {t : Nat} {fi : Int} (h1 : h.1 z = some (zAO z fi 0)) (hQ : Q (some (vI 0)) h) : zC (d + 3) mX0_takeBack 0 0 [vR z, vR t] h Q := by
  refine zC.of zpl_X0 (Nat.le_of_ble_eq_true rfl) ?_
  refine z_aload_n 1 dX0_takeBack_0 rfl rfl ?_
  refine z_getf (ci := 0) 4 dX0_takeBack_1 rfl rfl zin_0 2 (by decide) zw_185 (by first | with_reducible assumption | with_reducible exact zup_same _ _ _) rfl ?_
  refine z_if_ne 9 7 dX0_takeBack_4 (by decide) rfl (by first | omega | exact zr_b _ | exact zr_and _ _ | exact zr_or _ _ | exact zr_shl _ _) (fun c4 => ?_) (fun c4 => ?_)
  · exact absurd rfl c4
  · try replace c4 := zb_0 c4
    refine z_iconst 8 dX0_takeBack_7 rfl ?_
    refine z_ret dX0_takeBack_8 (by first | exact True.intro | exact Or.inl rfl | exact Or.inr rfl | exact zb_01 _ | assumption | (show _ ∨ _; omega)) ⟨Nat.le_refl _, Nat.le_refl _⟩ ?_
    exact hQ
theorem c_X0_takeBack {t u : Nat} {fi ct n1 m1 s1 n2 m2 s2 : Int} {D1 G1 E1 P1 D2 G2 E2 P2 : Int → Int} (h2 : 2 ≤ z) (h1 : h.1 z = some (zAO z fi ct)) (hZ : zShl h (z + 1) 14 (z + 3)) (hr : 0 ≤ fi ∧ fi < 14 ∧ 0 < ct ∧ ct ≤ 14) (hu : u = z + 3 + 5 * ((fi + (ct - 1)) % 14).toNat) (hT : zTel h t n1 m1 s1 D1 G1 E1 P1) (hU : zTel h u n2 m2 s2 D2 G2 E2 P2) (ht : t + 4 < z ∨ z + 72 < t)
    (hQ : ∀ h', zTel h' t n2 m2 s2 D2 G2 E2 P2 → zMod t (t + 4) (zup h z (zAO z fi (ct - 1))) h' → Q (some (vI 1)) h') : zC (d + 3) mX0_takeBack 0 0 [vR z, vR t] h Q := by
  have k1 := zup_same h z (zAO z fi (ct - 1))
  have hZ1 : zShl (zup h z (zAO z fi (ct - 1))) (z + 1) 14 (z + 3) := hZ.ot (by omega)
  have k2 := hZ1.2.1
  have hT1 : zTel (zup h z (zAO z fi (ct - 1))) t n1 m1 s1 D1 G1 E1 P1 := hT.ot (by omega)
  have hU1 : zTel (zup h z (zAO z fi (ct - 1))) u n2 m2 s2 D2 G2 E2 P2 := hU.ot (by omega)
  refine zC.of zpl_X0 (Nat.le_of_ble_eq_true rfl) ?_
  refine z_aload_n 1 dX0_takeBack_0 rfl rfl ?_
  refine z_getf (ci := 0) 4 dX0_takeBack_1 rfl rfl zin_0 2 (by decide) zw_185 (by first | with_reducible assumption | with_reducible exact zup_same _ _ _) rfl ?_
  refine z_if_ne 9 7 dX0_takeBack_4 (by decide) rfl (by first | omega | exact zr_b _ | exact zr_and _ _ | exact zr_or _ _ | exact zr_shl _ _) (fun c4 => ?_) (fun c4 => ?_)
  · try replace c4 := zb_1 c4
    refine z_aload_n 10 dX0_takeBack_9 rfl rfl ?_
    refine z_dup_a 11 dX0_takeBack_10 rfl ?_
    refine z_getf (ci := 0) 14 dX0_takeBack_11 rfl rfl zin_0 2 (by decide) zw_185 (by first | with_reducible assumption | with_reducible exact zup_same _ _ _) rfl ?_
    refine z_iconst 15 dX0_takeBack_14 rfl ?_
    refine z_isub 16 dX0_takeBack_15 rfl ?_
    refine z_putf (ci := 0) 19 dX0_takeBack_16 rfl rfl zin_0 tyX0_ok nmX0 2 (by decide) zw_185 rfl (fun _ => ⟨rfl, rfl⟩) (by omega) (by first | with_reducible assumption | with_reducible exact zup_same _ _ _) (Nat.le_of_ble_eq_true rfl) ?_
    show Z _ _ _ _ _ _ (zup h z (zAO z fi (ct - 1))) _
    refine z_aload_n 20 dX0_takeBack_19 rfl rfl ?_
    refine z_getf (ci := 0) 23 dX0_takeBack_20 rfl rfl zin_0 0 (by decide) zw_183 (by first | with_reducible assumption | with_reducible exact zup_same _ _ _) rfl ?_
    refine z_aload_n 24 dX0_takeBack_23 rfl rfl ?_
    refine z_getf (ci := 0) 27 dX0_takeBack_24 rfl rfl zin_0 1 (by decide) zw_184 (by first | with_reducible assumption | with_reducible exact zup_same _ _ _) rfl ?_
    refine z_aload_n 28 dX0_takeBack_27 rfl rfl ?_
    refine z_getf (ci := 0) 31 dX0_takeBack_28 rfl rfl zin_0 2 (by decide) zw_185 (by first | with_reducible assumption | with_reducible exact zup_same _ _ _) rfl ?_
    refine z_iadd 32 dX0_takeBack_31 rfl ?_
    refine z_bipush 34 dX0_takeBack_32 rfl (by decide) ?_
    refine z_irem 35 dX0_takeBack_34 rfl (by first | omega | exact zr_b _ | exact zr_and _ _ | exact zr_or _ _ | exact zr_shl _ _) (by first | omega | exact zr_b _ | exact zr_and _ _ | exact zr_or _ _ | exact zr_shl _ _) ?_
    refine z_aload_n 36 dX0_takeBack_35 rfl rfl ?_
    refine z_cV2 39 dX0_takeBack_36 rfl kX3_bring zw_602 (Nat.le_of_ble_eq_true rfl) ⟨Nat.le_refl _, Nat.le_refl _⟩ (by first | with_reducible assumption | with_reducible exact zup_same _ _ _) ?_
    refine c_X3_bring hZ1 (by decide) (by omega) hu hT1 hU1 (by omega) (fun h' hT' hM => ?_)
    refine z_iconst 40 dX0_takeBack_39 rfl ?_
    refine z_ret dX0_takeBack_40 (by first | exact True.intro | exact Or.inl rfl | exact Or.inr rfl | exact zb_01 _ | assumption | (show _ ∨ _; omega)) ⟨Nat.le_refl _, Nat.le_refl _⟩ ?_
    exact hQ h' hT' hM
  · exfalso; omega
/-- SLOTS: at z, with its Shelf behind it -/
abbrev zSO (z : Nat) (fl : Int) : zE := zO 4 [vR (z + 1), vI fl]
theorem c_X4_forgetAll {fl : Int} (h2 : 2 ≤ z) (h1 : h.1 z = some (zSO z fl)) (hQ : Q none (zup h z (zSO z 0))) : zC d mX4_forgetAll 0 0 [vR z] h Q := by
  refine zC.of zpl_X4 (Nat.le_of_ble_eq_true rfl) ?_
  refine z_aload_n 1 dX4_forgetAll_0 rfl rfl ?_
  refine z_iconst 2 dX4_forgetAll_1 rfl ?_
  refine z_putf (ci := 4) 5 dX4_forgetAll_2 rfl rfl zin_4 tyX4_ok nmX4 1 (by decide) zw_202 rfl (fun _ => ⟨rfl, rfl⟩) (by omega) (by first | with_reducible assumption | with_reducible exact zup_same _ _ _) (Nat.le_of_ble_eq_true rfl) ?_
  refine z_vret dX4_forgetAll_5 (by first | exact True.intro | exact Or.inl rfl | exact Or.inr rfl | exact zb_01 _ | assumption | (show _ ∨ _; omega)) ⟨Nat.le_refl _, Nat.le_refl _⟩ ?_
  exact hQ
theorem c_X4_fill {t u : Nat} {i fl n1 m1 s1 n2 m2 s2 : Int} {D1 G1 E1 P1 D2 G2 E2 P2 : Int → Int} (h2 : 2 ≤ z) (h1 : h.1 z = some (zSO z fl)) (hZ : zShl h (z + 1) 2 (z + 3)) (hi : 0 ≤ i ∧ i < 2) (hu : u = z + 3 + 5 * i.toNat) (hT : zTel h t n1 m1 s1 D1 G1 E1 P1) (hU : zTel h u n2 m2 s2 D2 G2 E2 P2) (ht : t + 4 < z ∨ z + 12 < t)
    (hQ : ∀ h', zTel h' u n1 m1 s1 D1 G1 E1 P1 → zMod u (u + 4) h h' → Q none (zup h' z (zSO z (zor fl (zshl 1 i))))) : zC (d + 3) mX4_fill 0 0 [vR z, vI i, vR t] h Q := by
  have k2 := hZ.2.1
  refine zC.of zpl_X4 (Nat.le_of_ble_eq_true rfl) ?_
  refine z_aload_n 1 dX4_fill_0 rfl rfl ?_
  refine z_getf (ci := 4) 4 dX4_fill_1 rfl rfl zin_4 0 (by decide) zw_201 (by first | with_reducible assumption | with_reducible exact zup_same _ _ _) rfl ?_
  refine z_iload_n 5 dX4_fill_4 rfl rfl ?_
  refine z_aload_n 6 dX4_fill_5 rfl rfl ?_
  refine z_cV2 9 dX4_fill_6 rfl kX3_store zw_748 (Nat.le_of_ble_eq_true rfl) ⟨Nat.le_refl _, Nat.le_refl _⟩ (by first | with_reducible assumption | with_reducible exact zup_same _ _ _) ?_
  refine c_X3_store hZ (by decide) (by omega) hu hT hU (by omega) (fun h' hT' hM => ?_)
  have k1 : h'.1 z = some (zSO z fl) := by rw [hM.1 _ (by omega)]; exact h1
  refine z_aload_n 10 dX4_fill_9 rfl rfl ?_
  refine z_dup_a 11 dX4_fill_10 rfl ?_
  refine z_getf (ci := 4) 14 dX4_fill_11 rfl rfl zin_4 1 (by decide) zw_202 (by first | with_reducible assumption | with_reducible exact zup_same _ _ _) rfl ?_
  refine z_iconst 15 dX4_fill_14 rfl ?_
  refine z_iload_n 16 dX4_fill_15 rfl rfl ?_
  refine z_ishl 17 dX4_fill_16 rfl ?_
  refine z_ior 18 dX4_fill_17 rfl ?_
  refine z_putf (ci := 4) 21 dX4_fill_18 rfl rfl zin_4 tyX4_ok nmX4 1 (by decide) zw_202 rfl (fun _ => ⟨rfl, rfl⟩) (by omega) (by first | with_reducible assumption | with_reducible exact zup_same _ _ _) (Nat.le_of_ble_eq_true rfl) ?_
  refine z_vret dX4_fill_21 (by first | exact True.intro | exact Or.inl rfl | exact Or.inr rfl | exact zb_01 _ | assumption | (show _ ∨ _; omega)) ⟨Nat.le_refl _, Nat.le_refl _⟩ ?_
  exact hQ h' hT' hM
theorem c_X4_fetch_no {t : Nat} {i fl : Int} (h1 : h.1 z = some (zSO z fl)) (hi : 0 ≤ i ∧ i < 2) (hk : zkb fl i = false) (hQ : Q (some (vI 0)) h) : zC (d + 3) mX4_fetch 0 0 [vR z, vI i, vR t] h Q := by
  refine zC.of zpl_X4 (Nat.le_of_ble_eq_true rfl) ?_
  refine z_aload_n 1 dX4_fetch_0 rfl rfl ?_
  refine z_getf (ci := 4) 4 dX4_fetch_1 rfl rfl zin_4 1 (by decide) zw_202 (by first | with_reducible assumption | with_reducible exact zup_same _ _ _) rfl ?_
  refine z_iload_n 5 dX4_fetch_4 rfl rfl ?_
  refine z_ishr 6 dX4_fetch_5 rfl ?_
  refine z_iconst 7 dX4_fetch_6 rfl ?_
  refine z_iand 8 dX4_fetch_7 rfl ?_
  refine z_if_ne 13 11 dX4_fetch_8 (by decide) rfl (by first | omega | exact zr_b _ | exact zr_and _ _ | exact zr_or _ _ | exact zr_shl _ _) (fun c8 => ?_) (fun c8 => ?_)
  · exact absurd ((z_has0 (by omega)).mpr hk) c8
  · try replace c8 := zb_0 c8
    refine z_iconst 12 dX4_fetch_11 rfl ?_
    refine z_ret dX4_fetch_12 (by first | exact True.intro | exact Or.inl rfl | exact Or.inr rfl | exact zb_01 _ | assumption | (show _ ∨ _; omega)) ⟨Nat.le_refl _, Nat.le_refl _⟩ ?_
    exact hQ
theorem c_X4_fetch {t u : Nat} {i fl n1 m1 s1 n2 m2 s2 : Int} {D1 G1 E1 P1 D2 G2 E2 P2 : Int → Int} (h2 : 2 ≤ z) (h1 : h.1 z = some (zSO z fl)) (hZ : zShl h (z + 1) 2 (z + 3)) (hi : 0 ≤ i ∧ i < 2) (hk : zkb fl i = true) (hu : u = z + 3 + 5 * i.toNat) (hT : zTel h t n1 m1 s1 D1 G1 E1 P1) (hU : zTel h u n2 m2 s2 D2 G2 E2 P2) (ht : t + 4 < z ∨ z + 12 < t)
    (hQ : ∀ h', zTel h' t n2 m2 s2 D2 G2 E2 P2 → zMod t (t + 4) h h' → Q (some (vI 1)) h') : zC (d + 3) mX4_fetch 0 0 [vR z, vI i, vR t] h Q := by
  have k2 := hZ.2.1
  refine zC.of zpl_X4 (Nat.le_of_ble_eq_true rfl) ?_
  refine z_aload_n 1 dX4_fetch_0 rfl rfl ?_
  refine z_getf (ci := 4) 4 dX4_fetch_1 rfl rfl zin_4 1 (by decide) zw_202 (by first | with_reducible assumption | with_reducible exact zup_same _ _ _) rfl ?_
  refine z_iload_n 5 dX4_fetch_4 rfl rfl ?_
  refine z_ishr 6 dX4_fetch_5 rfl ?_
  refine z_iconst 7 dX4_fetch_6 rfl ?_
  refine z_iand 8 dX4_fetch_7 rfl ?_
  refine z_if_ne 13 11 dX4_fetch_8 (by decide) rfl (by first | omega | exact zr_b _ | exact zr_and _ _ | exact zr_or _ _ | exact zr_shl _ _) (fun c8 => ?_) (fun c8 => ?_)
  · try replace c8 := zb_1 c8
    refine z_aload_n 14 dX4_fetch_13 rfl rfl ?_
    refine z_getf (ci := 4) 17 dX4_fetch_14 rfl rfl zin_4 0 (by decide) zw_201 (by first | with_reducible assumption | with_reducible exact zup_same _ _ _) rfl ?_
    refine z_iload_n 18 dX4_fetch_17 rfl rfl ?_
    refine z_aload_n 19 dX4_fetch_18 rfl rfl ?_
    refine z_cV2 22 dX4_fetch_19 rfl kX3_bring zw_757 (Nat.le_of_ble_eq_true rfl) ⟨Nat.le_refl _, Nat.le_refl _⟩ (by first | with_reducible assumption | with_reducible exact zup_same _ _ _) ?_
    refine c_X3_bring hZ (by decide) (by omega) hu hT hU (by omega) (fun h' hT' hM => ?_)
    refine z_iconst 23 dX4_fetch_22 rfl ?_
    refine z_ret dX4_fetch_23 (by first | exact True.intro | exact Or.inl rfl | exact Or.inr rfl | exact zb_01 _ | assumption | (show _ ∨ _; omega)) ⟨Nat.le_refl _, Nat.le_refl _⟩ ?_
    exact hQ h' hT' hM
  · exact absurd ((z_has0 (by omega)).mp c8) (by rw [hk]; decide)
theorem zSee.ar1 {W K : Int → Int} {c : Int} (hZ : zSee h z W K c) (W' : Int → Int) : zSee (zup h (z + 1) (zI 6 W')) z W' K c := by
  obtain ⟨h0, h1, h2, h3⟩ := hZ
  refine ⟨h0, ?_, zup_same _ _ _, ?_⟩ <;> (rw [zup_ne _ _ (by omega)]; assumption)
theorem zSee.ar2 {W K : Int → Int} {c : Int} (hZ : zSee h z W K c) (K' : Int → Int) : zSee (zup h (z + 2) (zI 6 K')) z W K' c := by
  obtain ⟨h0, h1, h2, h3⟩ := hZ
  refine ⟨h0, ?_, ?_, zup_same _ _ _⟩ <;> (rw [zup_ne _ _ (by omega)]; assumption)
theorem c_X2_count {W K : Int → Int} {c : Int} (hZ : zSee h z W K c) (hQ : Q (some (vI c)) h) : zC d mX2_count 0 0 [vR z] h Q := by
  refine zC.of zpl_X2 (Nat.le_of_ble_eq_true rfl) ?_
  have zh0 := hZ.2.1
  refine z_aload_n 1 dX2_count_0 rfl rfl ?_
  refine z_getf (ci := 2) 4 dX2_count_1 rfl rfl zin_2 2 (by decide) zw_216 (by first | with_reducible assumption | with_reducible exact zup_same _ _ _) rfl ?_
  refine z_ret dX2_count_4 (by first | exact True.intro | exact Or.inl rfl | exact Or.inr rfl | exact zb_01 _ | assumption | (show _ ∨ _; omega)) ⟨Nat.le_refl _, Nat.le_refl _⟩ ?_
  exact hQ
theorem c_X2_forgetAll {W K : Int → Int} {c : Int} (hZ : zSee h z W K c) (hQ : Q none (zup h z (zO 2 [vR (z + 1), vR (z + 2), vI 0]))) : zC d mX2_forgetAll 0 0 [vR z] h Q := by
  have h2 := hZ.1
  refine zC.of zpl_X2 (Nat.le_of_ble_eq_true rfl) ?_
  have zh0 := hZ.2.1
  refine z_aload_n 1 dX2_forgetAll_0 rfl rfl ?_
  refine z_iconst 2 dX2_forgetAll_1 rfl ?_
  refine z_putf (ci := 2) 5 dX2_forgetAll_2 rfl rfl zin_2 tyX2_ok nmX2 2 (by decide) zw_216 rfl (fun _ => ⟨rfl, rfl⟩) (by omega) (by first | with_reducible assumption | with_reducible exact zup_same _ _ _) (Nat.le_of_ble_eq_true rfl) ?_
  refine z_vret dX2_forgetAll_5 (by first | exact True.intro | exact Or.inl rfl | exact Or.inr rfl | exact zb_01 _ | assumption | (show _ ∨ _; omega)) ⟨Nat.le_refl _, Nat.le_refl _⟩ ?_
  exact hQ
theorem c_X2_add_no {W K : Int → Int} {c p t : Int} (hZ : zSee h z W K c) (hc : 6 ≤ c ∧ c ≤ 100) (hQ : Q (some (vI 0)) h) : zC (d + 1) mX2_add 0 0 [vR z, vI p, vI t] h Q := by
  refine zC.of zpl_X2 (Nat.le_of_ble_eq_true rfl) ?_
  have zh0 := hZ.2.1
  refine z_aload_n 1 dX2_add_0 rfl rfl ?_
  refine z_getf (ci := 2) 4 dX2_add_1 rfl rfl zin_2 2 (by decide) zw_216 (by first | with_reducible assumption | with_reducible exact zup_same _ _ _) rfl ?_
  refine z_bipush 6 dX2_add_4 rfl (by decide) ?_
  refine z_icmp_lt 11 9 dX2_add_6 (by decide) rfl (by first | omega | exact zr_b _ | exact zr_and _ _ | exact zr_or _ _ | exact zr_shl _ _) (by first | omega | exact zr_b _ | exact zr_and _ _ | exact zr_or _ _ | exact zr_shl _ _) (fun c6 => ?_) (fun c6 => ?_)
  · exfalso; omega
  · refine z_iconst 10 dX2_add_9 rfl ?_
    refine z_ret dX2_add_10 (by first | exact True.intro | exact Or.inl rfl | exact Or.inr rfl | exact zb_01 _ | assumption | (show _ ∨ _; omega)) ⟨Nat.le_refl _, Nat.le_refl _⟩ ?_
    exact hQ
theorem c_X2_add {W K : Int → Int} {c p t : Int} (hZ : zSee h z W K c) (hc : 0 ≤ c ∧ c < 6) (hQ : Q (some (vI 1)) (zup (zup (zup h (z + 1) (zI 6 (zst W c p))) (z + 2) (zI 6 (zst K c t))) z (zO 2 [vR (z + 1), vR (z + 2), vI (c + 1)]))) : zC (d + 1) mX2_add 0 0 [vR z, vI p, vI t] h Q := by
  have h2 := hZ.1
  refine zC.of zpl_X2 (Nat.le_of_ble_eq_true rfl) ?_
  have zh0 := hZ.2.1
  refine z_aload_n 1 dX2_add_0 rfl rfl ?_
  refine z_getf (ci := 2) 4 dX2_add_1 rfl rfl zin_2 2 (by decide) zw_216 (by first | with_reducible assumption | with_reducible exact zup_same _ _ _) rfl ?_
  refine z_bipush 6 dX2_add_4 rfl (by decide) ?_
  refine z_icmp_lt 11 9 dX2_add_6 (by decide) rfl (by first | omega | exact zr_b _ | exact zr_and _ _ | exact zr_or _ _ | exact zr_shl _ _) (by first | omega | exact zr_b _ | exact zr_and _ _ | exact zr_or _ _ | exact zr_shl _ _) (fun c6 => ?_) (fun c6 => ?_)
  · refine z_aload_n 12 dX2_add_11 rfl rfl ?_
    refine z_getf (ci := 2) 15 dX2_add_12 rfl rfl zin_2 0 (by decide) zw_214 (by first | with_reducible assumption | with_reducible exact zup_same _ _ _) rfl ?_
    refine z_aload_n 16 dX2_add_15 rfl rfl ?_
    refine z_getf (ci := 2) 19 dX2_add_16 rfl rfl zin_2 2 (by decide) zw_216 (by first | with_reducible assumption | with_reducible exact zup_same _ _ _) rfl ?_
    refine z_iload_n 20 dX2_add_19 rfl rfl ?_
    refine z_cSN3 23 dX2_add_20 rfl kX9_put zn_665 (Nat.le_of_ble_eq_true rfl) ⟨Nat.le_refl _, Nat.le_refl _⟩ ?_
    refine c_X9_put hZ.2.2.1 (by decide) (by omega) (by omega) ?_
    have hZ := hZ.ar1 (zst W c p)
    have k0 := hZ.2.1
    refine z_aload_n 24 dX2_add_23 rfl rfl ?_
    refine z_getf (ci := 2) 27 dX2_add_24 rfl rfl zin_2 1 (by decide) zw_215 (by first | with_reducible assumption | with_reducible exact zup_same _ _ _) rfl ?_
    refine z_aload_n 28 dX2_add_27 rfl rfl ?_
    refine z_getf (ci := 2) 31 dX2_add_28 rfl rfl zin_2 2 (by decide) zw_216 (by first | with_reducible assumption | with_reducible exact zup_same _ _ _) rfl ?_
    refine z_iload_n 32 dX2_add_31 rfl rfl ?_
    refine z_cSN3 35 dX2_add_32 rfl kX9_put zn_665 (Nat.le_of_ble_eq_true rfl) ⟨Nat.le_refl _, Nat.le_refl _⟩ ?_
    refine c_X9_put hZ.2.2.2 (by decide) (by omega) (by omega) ?_
    have hZ := hZ.ar2 (zst K c t)
    have k0 := hZ.2.1
    refine z_aload_n 36 dX2_add_35 rfl rfl ?_
    refine z_dup_a 37 dX2_add_36 rfl ?_
    refine z_getf (ci := 2) 40 dX2_add_37 rfl rfl zin_2 2 (by decide) zw_216 (by first | with_reducible assumption | with_reducible exact zup_same _ _ _) rfl ?_
    refine z_iconst 41 dX2_add_40 rfl ?_
    refine z_iadd 42 dX2_add_41 rfl ?_
    refine z_putf (ci := 2) 45 dX2_add_42 rfl rfl zin_2 tyX2_ok nmX2 2 (by decide) zw_216 rfl (fun _ => ⟨rfl, rfl⟩) (by omega) (by first | with_reducible assumption | with_reducible exact zup_same _ _ _) (Nat.le_of_ble_eq_true rfl) ?_
    refine z_iconst 46 dX2_add_45 rfl ?_
    refine z_ret dX2_add_46 (by first | exact True.intro | exact Or.inl rfl | exact Or.inr rfl | exact zb_01 _ | assumption | (show _ ∨ _; omega)) ⟨Nat.le_refl _, Nat.le_refl _⟩ ?_
    exact hQ
  · exfalso; omega
/-- all that is seen is so -/
def zisso (W K T : Int → Int) (n : Int) (N : Nat) : Prop := ∀ i : Nat, i < N → 0 ≤ W i ∧ W i < n → T (W i) = K i
theorem c_X2_isSo {W K T F : Int → Int} {N t x : Nat} {n m s : Int} {D G E P : Int → Int} (hZ : zSee h z W K N) (hN : N ≤ 6) (hX : zTim h x T F) (hT : zTel h t n m s D G E P) (hn : 0 ≤ n ∧ n ≤ 8) (hW : ∀ i : Nat, i < N → -2147483648 ≤ W i ∧ W i ≤ 2147483647 ∧ -2147483648 ≤ K i ∧ K i ≤ 2147483647) (hK : ∀ p : Int, 0 ≤ p → p < n → -2147483648 ≤ T p ∧ T p ≤ 2147483647)
    (hQ1 : zisso W K T n N → Q (some (vI 1)) h) (hQ0 : ¬ zisso W K T n N → Q (some (vI 0)) h) : zC (d + 2) mX2_isSo 0 0 [vR z, vR t, vR x] h Q := by
  have k0 := hZ.2.1
  have k1 := hT.2.1
  have k2 := hX.2.1
  have key : ∀ i : Nat, i ≤ N → zisso W K T n i → ∀ w : Option zV, Z (d + 2) mX2_isSo zo 2 [some (vR z), some (vR t), some (vR x), some (vI i), w] [] h Q := by
    refine z_loop N ?_ ?_
    · intro hs w
      refine z_iload_n 3 dX2_isSo_2 rfl rfl ?_
      refine z_aload_n 4 dX2_isSo_3 rfl rfl ?_
      refine z_getf (ci := 2) 7 dX2_isSo_4 rfl rfl zin_2 2 (by decide) zw_216 (by first | with_reducible assumption | with_reducible exact zup_same _ _ _) rfl ?_
      refine z_icmp_ge 55 10 dX2_isSo_7 (by decide) rfl (by first | omega | exact zr_b _ | exact zr_and _ _ | exact zr_or _ _ | exact zr_shl _ _) (by first | omega | exact zr_b _ | exact zr_and _ _ | exact zr_or _ _ | exact zr_shl _ _) (fun c7 => ?_) (fun c7 => ?_)
      · refine z_iconst 56 dX2_isSo_55 rfl ?_
        refine z_ret dX2_isSo_56 (by first | exact True.intro | exact Or.inl rfl | exact Or.inr rfl | exact zb_01 _ | assumption | (show _ ∨ _; omega)) ⟨Nat.le_refl _, Nat.le_refl _⟩ ?_
        exact hQ1 hs
      · exfalso; omega
    · intro i hi ih hs w
      have hWi := hW i hi
      refine z_iload_n 3 dX2_isSo_2 rfl rfl ?_
      refine z_aload_n 4 dX2_isSo_3 rfl rfl ?_
      refine z_getf (ci := 2) 7 dX2_isSo_4 rfl rfl zin_2 2 (by decide) zw_216 (by first | with_reducible assumption | with_reducible exact zup_same _ _ _) rfl ?_
      refine z_icmp_ge 55 10 dX2_isSo_7 (by decide) rfl (by first | omega | exact zr_b _ | exact zr_and _ _ | exact zr_or _ _ | exact zr_shl _ _) (by first | omega | exact zr_b _ | exact zr_and _ _ | exact zr_or _ _ | exact zr_shl _ _) (fun c7 => ?_) (fun c7 => ?_)
      · exfalso; omega
      · refine z_aload_n 11 dX2_isSo_10 rfl rfl ?_
        refine z_getf (ci := 2) 14 dX2_isSo_11 rfl rfl zin_2 0 (by decide) zw_214 (by first | with_reducible assumption | with_reducible exact zup_same _ _ _) rfl ?_
        refine z_iload_n 15 dX2_isSo_14 rfl rfl ?_
        refine z_cSN2 18 dX2_isSo_15 rfl kX9_at zn_682 (Nat.le_of_ble_eq_true rfl) ⟨Nat.le_refl _, Nat.le_refl _⟩ ?_
        refine c_X9_at hZ.2.2.1 (by decide) (by omega) ?_
        refine z_istore 20 dX2_isSo_18 rfl (by decide) ?_
        refine z_aload_n 21 dX2_isSo_20 rfl rfl ?_
        refine z_iload 23 dX2_isSo_21 rfl rfl ?_
        refine z_cV1 26 dX2_isSo_23 rfl kX6_hasPerson zw_683 (Nat.le_of_ble_eq_true rfl) ⟨Nat.le_refl _, Nat.le_refl _⟩ (by first | with_reducible assumption | with_reducible exact zup_same _ _ _) ?_
        refine c_X6_hasPerson hT (by omega) hn ?_
        refine z_if_eq 49 29 dX2_isSo_26 (by decide) rfl (by first | omega | exact zr_b _ | exact zr_and _ _ | exact zr_or _ _ | exact zr_shl _ _) (fun c26 => ?_) (fun c26 => ?_)
        · try replace c26 := zb_0 c26
          have ih' := ih (fun j hj hp => by
            by_cases e : j = i
            · subst e; exact absurd hp c26
            · exact hs j (by omega) hp)
          refine z_iinc 52 dX2_isSo_49 rfl (by decide) rfl ?_
          refine z_goto 2 dX2_isSo_52 (by decide) ?_
          exact ih' _
        · try replace c26 := zb_1 c26
          have hKi := hK (W i) c26.1 c26.2
          refine z_aload_n 30 dX2_isSo_29 rfl rfl ?_
          refine z_iload 32 dX2_isSo_30 rfl rfl ?_
          refine z_iconst 33 dX2_isSo_32 rfl ?_
          refine z_cV2 36 dX2_isSo_33 rfl kX8_tickOf zw_684 (Nat.le_of_ble_eq_true rfl) ⟨Nat.le_refl _, Nat.le_refl _⟩ (by first | with_reducible assumption | with_reducible exact zup_same _ _ _) ?_
          refine c_X8_tickOf hX (by omega) ?_
          rw [show (0 : Int) * 8 + W i = W i by omega]
          refine z_aload_n 37 dX2_isSo_36 rfl rfl ?_
          refine z_getf (ci := 2) 40 dX2_isSo_37 rfl rfl zin_2 1 (by decide) zw_215 (by first | with_reducible assumption | with_reducible exact zup_same _ _ _) rfl ?_
          refine z_iload_n 41 dX2_isSo_40 rfl rfl ?_
          refine z_cSN2 44 dX2_isSo_41 rfl kX9_at zn_682 (Nat.le_of_ble_eq_true rfl) ⟨Nat.le_refl _, Nat.le_refl _⟩ ?_
          refine c_X9_at hZ.2.2.2 (by decide) (by omega) ?_
          refine z_icmp_eq 49 47 dX2_isSo_44 (by decide) rfl (by first | omega | exact zr_b _ | exact zr_and _ _ | exact zr_or _ _ | exact zr_shl _ _) (by first | omega | exact zr_b _ | exact zr_and _ _ | exact zr_or _ _ | exact zr_shl _ _) (fun c44 => ?_) (fun c44 => ?_)
          · have ih' := ih (fun j hj hp => by
              by_cases e : j = i
              · subst e; exact c44
              · exact hs j (by omega) hp)
            refine z_iinc 52 dX2_isSo_49 rfl (by decide) rfl ?_
            refine z_goto 2 dX2_isSo_52 (by decide) ?_
            exact ih' _
          · refine z_iconst 48 dX2_isSo_47 rfl ?_
            refine z_ret dX2_isSo_48 (by first | exact True.intro | exact Or.inl rfl | exact Or.inr rfl | exact zb_01 _ | assumption | (show _ ∨ _; omega)) ⟨Nat.le_refl _, Nat.le_refl _⟩ ?_
            exact hQ0 (fun q => c44 (q i hi c26))
  refine zC.of zpl_X2 (Nat.le_of_ble_eq_true rfl) ?_
  refine z_iconst 1 dX2_isSo_0 rfl ?_
  refine z_istore_n 2 dX2_isSo_1 rfl (by decide) ?_
  exact key 0 (Nat.zero_le _) (fun i hi => absurd hi (by omega)) _
end SMALL
