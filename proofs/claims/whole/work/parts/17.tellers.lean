/-! LateLetters$Tellers -/
def zTlr (h : zH) (y : Nat) (V : Int → Int) (w : Int) : Prop := 2 ≤ y ∧ h.1 y = some (zO 5 [vR (y + 1), vI w]) ∧ h.1 (y + 1) = some (zI 8 V)
/-- the cells of Tellers, written anew -/
def ztl (h : zH) (y : Nat) (V : Int → Int) (w : Int) : zH := zup (zup h (y + 1) (zI 8 V)) y (zO 5 [vR (y + 1), vI w])
/-- whose next letter would be there soonest, of 0 .. i -/
def zsoon (V : Int → Int) (w : Int) : Nat → Int
  | 0 => 0
  | i + 1 => if zkb w ((i + 1 : Nat) : Int) = true ∧ V ((i + 1 : Nat) : Int) < V (zsoon V w i) then ((i + 1 : Nat) : Int) else zsoon V w i
def zless (D G : Int → Int) (p q : Int) : Prop := if D p = D q then G p < G q else D p < D q
/-- who is not told and has the least delay, of 1 .. i; 0: none -/
def zlst (D G : Int → Int) (w : Int) : Nat → Int
  | 0 => 0
  | i + 1 => if zkb w ((i + 1 : Nat) : Int) = false ∧ (zlst D G w i = 0 ∨ (if D ((i + 1 : Nat) : Int) = D (zlst D G w i) then G ((i + 1 : Nat) : Int) < G (zlst D G w i) else D ((i + 1 : Nat) : Int) < D (zlst D G w i))) then ((i + 1 : Nat) : Int) else zlst D G w i
def ztV (V D G : Int → Int) (t p : Int) : Int → Int := zst (zst V t (V t + G t)) p (V t + D p)
theorem zsoon_le (V : Int → Int) (w : Int) : ∀ i : Nat, 0 ≤ zsoon V w i ∧ zsoon V w i ≤ i
  | 0 => by simp [zsoon]
  | i + 1 => by
    have := zsoon_le V w i
    unfold zsoon; split <;> omega
theorem zsoon_kn {V : Int → Int} {w : Int} (h0 : zkb w 0 = true) : ∀ i : Nat, zkb w (zsoon V w i) = true
  | 0 => h0
  | i + 1 => by
    have := zsoon_kn (V := V) h0 i
    unfold zsoon; split
    · next e => exact e.1
    · exact this
theorem zlst_le (D G : Int → Int) (w : Int) : ∀ i : Nat, 0 ≤ zlst D G w i ∧ zlst D G w i ≤ i
  | 0 => by simp [zlst]
  | i + 1 => by
    have := zlst_le D G w i
    unfold zlst; split <;> omega
section TLR
variable {d : Nat} {h : zH} {Q : Option zV → zH → Prop} {t y : Nat} {n m s w : Int} {D G E P V : Int → Int}
theorem zTlr.ot (hY : zTlr h y V w) {a : Nat} {c : zE} (ha : a < y ∨ y + 1 < a) : zTlr (zup h a c) y V w := by
  obtain ⟨h0, h1, h2⟩ := hY
  refine ⟨h0, ?_, ?_⟩ <;> (rw [zup_ne _ _ (by omega)]; assumption)
theorem zTlr.mod {lo hi : Nat} {h' : zH} (hY : zTlr h y V w) (hm : zMod lo hi h h') (ha : y + 1 < lo ∨ hi < y) : zTlr h' y V w := by
  obtain ⟨h0, h1, h2⟩ := hY
  refine ⟨h0, ?_, ?_⟩ <;> (rw [hm.1 _ (by omega)]; assumption)
theorem zTlr.ar (hY : zTlr h y V w) (V' : Int → Int) : zTlr (zup h (y + 1) (zI 8 V')) y V' w := by
  obtain ⟨h0, h1, h2⟩ := hY
  refine ⟨h0, ?_, zup_same _ _ _⟩ <;> (rw [zup_ne _ _ (by omega)]; assumption)
theorem zTlr.ob (hY : zTlr h y V w) (w' : Int) : zTlr (zup h y (zO 5 [vR (y + 1), vI w'])) y V w' := by
  obtain ⟨h0, h1, h2⟩ := hY
  refine ⟨h0, zup_same _ _ _, ?_⟩ <;> (rw [zup_ne _ _ (by omega)]; assumption)
theorem ztl_Tlr (hY : zTlr h y V w) (V' : Int → Int) (w' : Int) : zTlr (ztl h y V' w') y V' w' := (hY.ar V').ob w'
theorem ztl_Tel (hT : zTel h t n m s D G E P) (hx : y + 1 < t ∨ t + 4 < y) (V' : Int → Int) (w' : Int) : zTel (ztl h y V' w') t n m s D G E P := (hT.ot (by omega)).ot (by omega)
theorem ztl_ztl (h : zH) (y : Nat) (V V' : Int → Int) (w w' : Int) : ztl (ztl h y V w) y V' w' = ztl h y V' w' := by
  unfold ztl
  rw [zup_comm _ _ _ (show y ≠ y + 1 by omega), zup_zup, zup_zup]
theorem ztl_self (hY : zTlr h y V w) : ztl h y V w = h := by
  unfold ztl
  rw [zup_self h hY.2.2, zup_self h hY.2.1]
theorem ztl_Mod (h : zH) (y : Nat) (V : Int → Int) (w : Int) : zMod y (y + 1) h (ztl h y V w) := ((zMod.rf _ _ h).up _ (by omega)).up _ (by omega)
theorem c_X5_begin (hY : zTlr h y V w) (hT : zTel h t n m s D G E P) (hx : y + 1 < t ∨ t + 4 < y) (hQ : Q none (ztl h y (zst V 0 (D 0)) 1)) : zC (d + 2) mX5_begin 0 0 [vR y, vR t] h Q := by
  have hy2 := hY.1
  refine zC.of zpl_X5 (Nat.le_of_ble_eq_true rfl) ?_
  have zh0 := hY.2.1
  refine z_aload_n 1 dX5_begin_0 rfl rfl ?_
  refine z_iconst 2 dX5_begin_1 rfl ?_
  refine z_putf (ci := 5) 5 dX5_begin_2 rfl rfl zin_5 tyX5_ok nmX5 1 (by decide) zw_131 rfl (fun _ => ⟨rfl, rfl⟩) (by omega) (by first | with_reducible assumption | with_reducible exact zup_same _ _ _) (Nat.le_of_ble_eq_true rfl) ?_
  show Z _ _ _ _ _ _ (zup h y (zO 5 [vR (y + 1), vI 1])) _
  have hY := hY.ob 1
  have hT := hT.ot (a := y) (c := zO 5 [vR (y + 1), vI 1]) (by omega)
  have zh0 := hY.2.1
  have zh1 := hT.2.1
  refine z_aload_n 6 dX5_begin_5 rfl rfl ?_
  refine z_getf (ci := 5) 9 dX5_begin_6 rfl rfl zin_5 0 (by decide) zw_130 (by first | with_reducible assumption | with_reducible exact zup_same _ _ _) rfl ?_
  refine z_iconst 10 dX5_begin_9 rfl ?_
  refine z_aload_n 11 dX5_begin_10 rfl rfl ?_
  refine z_iconst 12 dX5_begin_11 rfl ?_
  refine z_cV1 15 dX5_begin_12 rfl kX6_delayOf zw_425 (Nat.le_of_ble_eq_true rfl) ⟨Nat.le_refl _, Nat.le_refl _⟩ (by first | with_reducible assumption | with_reducible exact zup_same _ _ _) ?_
  refine c_X6_delayOf hT (by omega) ?_
  refine z_cSN3 18 dX5_begin_15 rfl kX9_put zn_426 (Nat.le_of_ble_eq_true rfl) ⟨Nat.le_refl _, Nat.le_refl _⟩ ?_
  refine c_X9_put hY.2.2 (by decide) (by omega) (by omega) ?_
  refine z_vret dX5_begin_18 (by first | exact True.intro | exact Or.inl rfl | exact Or.inr rfl | exact zb_01 _ | assumption | (show _ ∨ _; omega)) ⟨Nat.le_refl _, Nat.le_refl _⟩ ?_
  rw [zup_comm _ _ _ (show y ≠ y + 1 by omega)]
  exact hQ
theorem c_X5_isKnower {p : Int} (hY : zTlr h y V w) (hp : 0 ≤ p ∧ p < 8) (hQ : Q (some (vI (zb (zkb w p = true)))) h) : zC d mX5_isKnower 0 0 [vR y, vI p] h Q := by
  refine zC.of zpl_X5 (Nat.le_of_ble_eq_true rfl) ?_
  have zh0 := hY.2.1
  refine z_aload_n 1 dX5_isKnower_0 rfl rfl ?_
  refine z_getf (ci := 5) 4 dX5_isKnower_1 rfl rfl zin_5 1 (by decide) zw_131 (by first | with_reducible assumption | with_reducible exact zup_same _ _ _) rfl ?_
  refine z_iload_n 5 dX5_isKnower_4 rfl rfl ?_
  refine z_ishr 6 dX5_isKnower_5 rfl ?_
  refine z_iconst 7 dX5_isKnower_6 rfl ?_
  refine z_iand 8 dX5_isKnower_7 rfl ?_
  refine z_if_eq 15 11 dX5_isKnower_8 (by decide) rfl (by first | omega | exact zr_b _ | exact zr_and _ _ | exact zr_or _ _ | exact zr_shl _ _) (fun c8 => ?_) (fun c8 => ?_)
  · try replace c8 := zb_0 c8
    have e := (z_has0 (by omega)).mp c8
    rw [zb_f (by rw [e]; decide)] at hQ
    refine z_iconst 16 dX5_isKnower_15 rfl ?_
    refine z_ret dX5_isKnower_16 (by first | exact True.intro | exact Or.inl rfl | exact Or.inr rfl | exact zb_01 _ | assumption | (show _ ∨ _; omega)) ⟨Nat.le_refl _, Nat.le_refl _⟩ ?_
    exact hQ
  · try replace c8 := zb_1 c8
    have e : zkb w p = true := by cases hz : zkb w p; exact absurd ((z_has0 (by omega)).mpr hz) c8; rfl
    rw [zb_t e] at hQ
    refine z_iconst 12 dX5_isKnower_11 rfl ?_
    refine z_goto 16 dX5_isKnower_12 (by decide) ?_
    refine z_ret dX5_isKnower_16 (by first | exact True.intro | exact Or.inl rfl | exact Or.inr rfl | exact zb_01 _ | assumption | (show _ ∨ _; omega)) ⟨Nat.le_refl _, Nat.le_refl _⟩ ?_
    exact hQ
theorem c_X5_isLessDelayed {p q : Int} (hT : zTel h t n m s D G E P) (hp : 0 ≤ p ∧ p < 8) (hq : 0 ≤ q ∧ q < 8) (hd : 0 ≤ D p ∧ D p ≤ 1000 ∧ 0 ≤ D q ∧ D q ≤ 1000 ∧ 0 ≤ G p ∧ G p ≤ 1000 ∧ 0 ≤ G q ∧ G q ≤ 1000) (hQ : Q (some (vI (zb (if D p = D q then G p < G q else D p < D q)))) h) : zC (d + 2) mX5_isLessDelayed 0 0 [vR t, vI p, vI q] h Q := by
  refine zC.of zpl_X5 (Nat.le_of_ble_eq_true rfl) ?_
  have zh0 := hT.2.1
  refine z_aload_n 1 dX5_isLessDelayed_0 rfl rfl ?_
  refine z_iload_n 2 dX5_isLessDelayed_1 rfl rfl ?_
  refine z_cV1 5 dX5_isLessDelayed_2 rfl kX6_delayOf zw_425 (Nat.le_of_ble_eq_true rfl) ⟨Nat.le_refl _, Nat.le_refl _⟩ (by first | with_reducible assumption | with_reducible exact zup_same _ _ _) ?_
  refine c_X6_delayOf hT (by omega) ?_
  refine z_aload_n 6 dX5_isLessDelayed_5 rfl rfl ?_
  refine z_iload_n 7 dX5_isLessDelayed_6 rfl rfl ?_
  refine z_cV1 10 dX5_isLessDelayed_7 rfl kX6_delayOf zw_425 (Nat.le_of_ble_eq_true rfl) ⟨Nat.le_refl _, Nat.le_refl _⟩ (by first | with_reducible assumption | with_reducible exact zup_same _ _ _) ?_
  refine c_X6_delayOf hT (by omega) ?_
  refine z_icmp_eq 32 13 dX5_isLessDelayed_10 (by decide) rfl (by first | omega | exact zr_b _ | exact zr_and _ _ | exact zr_or _ _ | exact zr_shl _ _) (by first | omega | exact zr_b _ | exact zr_and _ _ | exact zr_or _ _ | exact zr_shl _ _) (fun c10 => ?_) (fun c10 => ?_)
  · refine z_aload_n 33 dX5_isLessDelayed_32 rfl rfl ?_
    refine z_iload_n 34 dX5_isLessDelayed_33 rfl rfl ?_
    refine z_cV1 37 dX5_isLessDelayed_34 rfl kX6_gapOf zw_448 (Nat.le_of_ble_eq_true rfl) ⟨Nat.le_refl _, Nat.le_refl _⟩ (by first | with_reducible assumption | with_reducible exact zup_same _ _ _) ?_
    refine c_X6_gapOf hT (by omega) ?_
    refine z_aload_n 38 dX5_isLessDelayed_37 rfl rfl ?_
    refine z_iload_n 39 dX5_isLessDelayed_38 rfl rfl ?_
    refine z_cV1 42 dX5_isLessDelayed_39 rfl kX6_gapOf zw_448 (Nat.le_of_ble_eq_true rfl) ⟨Nat.le_refl _, Nat.le_refl _⟩ (by first | with_reducible assumption | with_reducible exact zup_same _ _ _) ?_
    refine c_X6_gapOf hT (by omega) ?_
    refine z_icmp_ge 49 45 dX5_isLessDelayed_42 (by decide) rfl (by first | omega | exact zr_b _ | exact zr_and _ _ | exact zr_or _ _ | exact zr_shl _ _) (by first | omega | exact zr_b _ | exact zr_and _ _ | exact zr_or _ _ | exact zr_shl _ _) (fun c42 => ?_) (fun c42 => ?_)
    · refine z_iconst 50 dX5_isLessDelayed_49 rfl ?_
      refine z_ret dX5_isLessDelayed_50 (by first | exact True.intro | exact Or.inl rfl | exact Or.inr rfl | exact zb_01 _ | assumption | (show _ ∨ _; omega)) ⟨Nat.le_refl _, Nat.le_refl _⟩ ?_
      first | (rw [zb_t (by first | (rw [if_pos (by omega)]; omega) | (rw [if_neg (by omega)]; omega))] at hQ; exact hQ) | (rw [zb_f (by first | (rw [if_pos (by omega)]; omega) | (rw [if_neg (by omega)]; omega))] at hQ; exact hQ)
    · refine z_iconst 46 dX5_isLessDelayed_45 rfl ?_
      refine z_goto 50 dX5_isLessDelayed_46 (by decide) ?_
      refine z_ret dX5_isLessDelayed_50 (by first | exact True.intro | exact Or.inl rfl | exact Or.inr rfl | exact zb_01 _ | assumption | (show _ ∨ _; omega)) ⟨Nat.le_refl _, Nat.le_refl _⟩ ?_
      first | (rw [zb_t (by first | (rw [if_pos (by omega)]; omega) | (rw [if_neg (by omega)]; omega))] at hQ; exact hQ) | (rw [zb_f (by first | (rw [if_pos (by omega)]; omega) | (rw [if_neg (by omega)]; omega))] at hQ; exact hQ)
  · refine z_aload_n 14 dX5_isLessDelayed_13 rfl rfl ?_
    refine z_iload_n 15 dX5_isLessDelayed_14 rfl rfl ?_
    refine z_cV1 18 dX5_isLessDelayed_15 rfl kX6_delayOf zw_425 (Nat.le_of_ble_eq_true rfl) ⟨Nat.le_refl _, Nat.le_refl _⟩ (by first | with_reducible assumption | with_reducible exact zup_same _ _ _) ?_
    refine c_X6_delayOf hT (by omega) ?_
    refine z_aload_n 19 dX5_isLessDelayed_18 rfl rfl ?_
    refine z_iload_n 20 dX5_isLessDelayed_19 rfl rfl ?_
    refine z_cV1 23 dX5_isLessDelayed_20 rfl kX6_delayOf zw_425 (Nat.le_of_ble_eq_true rfl) ⟨Nat.le_refl _, Nat.le_refl _⟩ (by first | with_reducible assumption | with_reducible exact zup_same _ _ _) ?_
    refine c_X6_delayOf hT (by omega) ?_
    refine z_icmp_ge 30 26 dX5_isLessDelayed_23 (by decide) rfl (by first | omega | exact zr_b _ | exact zr_and _ _ | exact zr_or _ _ | exact zr_shl _ _) (by first | omega | exact zr_b _ | exact zr_and _ _ | exact zr_or _ _ | exact zr_shl _ _) (fun c23 => ?_) (fun c23 => ?_)
    · refine z_iconst 31 dX5_isLessDelayed_30 rfl ?_
      refine z_ret dX5_isLessDelayed_31 (by first | exact True.intro | exact Or.inl rfl | exact Or.inr rfl | exact zb_01 _ | assumption | (show _ ∨ _; omega)) ⟨Nat.le_refl _, Nat.le_refl _⟩ ?_
      first | (rw [zb_t (by first | (rw [if_pos (by omega)]; omega) | (rw [if_neg (by omega)]; omega))] at hQ; exact hQ) | (rw [zb_f (by first | (rw [if_pos (by omega)]; omega) | (rw [if_neg (by omega)]; omega))] at hQ; exact hQ)
    · refine z_iconst 27 dX5_isLessDelayed_26 rfl ?_
      refine z_goto 31 dX5_isLessDelayed_27 (by decide) ?_
      refine z_ret dX5_isLessDelayed_31 (by first | exact True.intro | exact Or.inl rfl | exact Or.inr rfl | exact zb_01 _ | assumption | (show _ ∨ _; omega)) ⟨Nat.le_refl _, Nat.le_refl _⟩ ?_
      first | (rw [zb_t (by first | (rw [if_pos (by omega)]; omega) | (rw [if_neg (by omega)]; omega))] at hQ; exact hQ) | (rw [zb_f (by first | (rw [if_pos (by omega)]; omega) | (rw [if_neg (by omega)]; omega))] at hQ; exact hQ)
theorem c_X5_soonest {N : Nat} (hY : zTlr h y V w) (hT : zTel h t ((N + 1 : Nat) : Int) m s D G E P) (hN : N ≤ 7) (hk0 : zkb w 0 = true) (hB : ∀ p : Int, 0 ≤ p → p ≤ N → zkb w p = true → 0 ≤ V p ∧ V p ≤ 100000) (hQ : Q (some (vI (zsoon V w N))) h) : zC (d + 2) mX5_soonest 0 0 [vR y, vR t] h Q := by
  have zh0 := hY.2.1
  have zh1 := hT.2.1
  have key : ∀ i : Nat, i ≤ N → Z (d + 2) mX5_soonest zo 4 [some (vR y), some (vR t), some (vI (zsoon V w i)), some (vI ((i + 1 : Nat) : Int))] [] h Q := by
    refine z_loop N ?_ ?_
    · refine z_iload_n 5 dX5_soonest_4 rfl rfl ?_
      refine z_aload_n 6 dX5_soonest_5 rfl rfl ?_
      refine z_cV0 9 dX5_soonest_6 rfl kX6_people zw_431 (Nat.le_of_ble_eq_true rfl) ⟨Nat.le_refl _, Nat.le_refl _⟩ (by first | with_reducible assumption | with_reducible exact zup_same _ _ _) ?_
      refine c_X6_people hT ?_
      refine z_icmp_ge 47 12 dX5_soonest_9 (by decide) rfl (by first | omega | exact zr_b _ | exact zr_and _ _ | exact zr_or _ _ | exact zr_shl _ _) (by first | omega | exact zr_b _ | exact zr_and _ _ | exact zr_or _ _ | exact zr_shl _ _) (fun c9 => ?_) (fun c9 => ?_)
      · refine z_iload_n 48 dX5_soonest_47 rfl rfl ?_
        refine z_ret dX5_soonest_48 (by first | exact True.intro | exact Or.inl rfl | exact Or.inr rfl | exact zb_01 _ | assumption | (show _ ∨ _; omega)) ⟨Nat.le_refl _, Nat.le_refl _⟩ ?_
        exact hQ
      · exfalso; omega
    · intro i hi ih
      have hl := zsoon_le V w i
      have hb := hB (zsoon V w i) (by omega) (by omega) (zsoon_kn hk0 i)
      refine z_iload_n 5 dX5_soonest_4 rfl rfl ?_
      refine z_aload_n 6 dX5_soonest_5 rfl rfl ?_
      refine z_cV0 9 dX5_soonest_6 rfl kX6_people zw_431 (Nat.le_of_ble_eq_true rfl) ⟨Nat.le_refl _, Nat.le_refl _⟩ (by first | with_reducible assumption | with_reducible exact zup_same _ _ _) ?_
      refine c_X6_people hT ?_
      refine z_icmp_ge 47 12 dX5_soonest_9 (by decide) rfl (by first | omega | exact zr_b _ | exact zr_and _ _ | exact zr_or _ _ | exact zr_shl _ _) (by first | omega | exact zr_b _ | exact zr_and _ _ | exact zr_or _ _ | exact zr_shl _ _) (fun c9 => ?_) (fun c9 => ?_)
      · exfalso; omega
      · refine z_aload_n 13 dX5_soonest_12 rfl rfl ?_
        refine z_iload_n 14 dX5_soonest_13 rfl rfl ?_
        refine z_cV1 17 dX5_soonest_14 rfl kX5_isKnower zw_436 (Nat.le_of_ble_eq_true rfl) ⟨Nat.le_refl _, Nat.le_refl _⟩ (by first | with_reducible assumption | with_reducible exact zup_same _ _ _) ?_
        refine c_X5_isKnower hY (by omega) ?_
        refine z_if_eq 41 20 dX5_soonest_17 (by decide) rfl (by first | omega | exact zr_b _ | exact zr_and _ _ | exact zr_or _ _ | exact zr_shl _ _) (fun c17 => ?_) (fun c17 => ?_)
        · try replace c17 := zb_0 c17
          rw [show zsoon V w (i + 1) = zsoon V w i from if_neg (fun q => c17 q.1)] at ih
          refine z_iinc 44 dX5_soonest_41 rfl (by decide) rfl ?_
          refine z_goto 4 dX5_soonest_44 (by decide) ?_
          exact ih
        · try replace c17 := zb_1 c17
          have hb2 := hB ((i + 1 : Nat) : Int) (by omega) (by omega) c17
          refine z_aload_n 21 dX5_soonest_20 rfl rfl ?_
          refine z_getf (ci := 5) 24 dX5_soonest_21 rfl rfl zin_5 0 (by decide) zw_130 (by first | with_reducible assumption | with_reducible exact zup_same _ _ _) rfl ?_
          refine z_iload_n 25 dX5_soonest_24 rfl rfl ?_
          refine z_cSN2 28 dX5_soonest_25 rfl kX9_at zn_440 (Nat.le_of_ble_eq_true rfl) ⟨Nat.le_refl _, Nat.le_refl _⟩ ?_
          refine c_X9_at hY.2.2 (by decide) (by omega) ?_
          refine z_aload_n 29 dX5_soonest_28 rfl rfl ?_
          refine z_getf (ci := 5) 32 dX5_soonest_29 rfl rfl zin_5 0 (by decide) zw_130 (by first | with_reducible assumption | with_reducible exact zup_same _ _ _) rfl ?_
          refine z_iload_n 33 dX5_soonest_32 rfl rfl ?_
          refine z_cSN2 36 dX5_soonest_33 rfl kX9_at zn_440 (Nat.le_of_ble_eq_true rfl) ⟨Nat.le_refl _, Nat.le_refl _⟩ ?_
          refine c_X9_at hY.2.2 (by decide) (by omega) ?_
          refine z_icmp_ge 41 39 dX5_soonest_36 (by decide) rfl (by first | omega | exact zr_b _ | exact zr_and _ _ | exact zr_or _ _ | exact zr_shl _ _) (by first | omega | exact zr_b _ | exact zr_and _ _ | exact zr_or _ _ | exact zr_shl _ _) (fun c36 => ?_) (fun c36 => ?_)
          · rw [show zsoon V w (i + 1) = zsoon V w i from if_neg (fun q => by have := q.2; omega)] at ih
            refine z_iinc 44 dX5_soonest_41 rfl (by decide) rfl ?_
            refine z_goto 4 dX5_soonest_44 (by decide) ?_
            exact ih
          · rw [show zsoon V w (i + 1) = ((i + 1 : Nat) : Int) from if_pos ⟨c17, c36⟩] at ih
            refine z_iload_n 40 dX5_soonest_39 rfl rfl ?_
            refine z_istore_n 41 dX5_soonest_40 rfl (by decide) ?_
            refine z_iinc 44 dX5_soonest_41 rfl (by decide) rfl ?_
            refine z_goto 4 dX5_soonest_44 (by decide) ?_
            exact ih
  refine zC.of zpl_X5 (Nat.le_of_ble_eq_true rfl) ?_
  refine z_iconst 1 dX5_soonest_0 rfl ?_
  refine z_istore_n 2 dX5_soonest_1 rfl (by decide) ?_
  refine z_iconst 3 dX5_soonest_2 rfl ?_
  refine z_istore_n 4 dX5_soonest_3 rfl (by decide) ?_
  exact key 0 (Nat.zero_le _)
theorem c_X5_leastDelayed {N : Nat} (hY : zTlr h y V w) (hT : zTel h t ((N + 1 : Nat) : Int) m s D G E P) (hN : N ≤ 7) (hd : ∀ p : Int, 0 ≤ p → p ≤ N → 0 ≤ D p ∧ D p ≤ 1000 ∧ 0 ≤ G p ∧ G p ≤ 1000) (hQ : Q (some (vI (zlst D G w N))) h) : zC (d + 3) mX5_leastDelayed 0 0 [vR y, vR t] h Q := by
  have zh0 := hY.2.1
  have zh1 := hT.2.1
  have key : ∀ i : Nat, i ≤ N → Z (d + 3) mX5_leastDelayed zo 4 [some (vR y), some (vR t), some (vI (zlst D G w i)), some (vI ((i + 1 : Nat) : Int))] [] h Q := by
    refine z_loop N ?_ ?_
    · refine z_iload_n 5 dX5_leastDelayed_4 rfl rfl ?_
      refine z_aload_n 6 dX5_leastDelayed_5 rfl rfl ?_
      refine z_cV0 9 dX5_leastDelayed_6 rfl kX6_people zw_431 (Nat.le_of_ble_eq_true rfl) ⟨Nat.le_refl _, Nat.le_refl _⟩ (by first | with_reducible assumption | with_reducible exact zup_same _ _ _) ?_
      refine c_X6_people hT ?_
      refine z_icmp_ge 41 12 dX5_leastDelayed_9 (by decide) rfl (by first | omega | exact zr_b _ | exact zr_and _ _ | exact zr_or _ _ | exact zr_shl _ _) (by first | omega | exact zr_b _ | exact zr_and _ _ | exact zr_or _ _ | exact zr_shl _ _) (fun c9 => ?_) (fun c9 => ?_)
      · refine z_iload_n 42 dX5_leastDelayed_41 rfl rfl ?_
        refine z_ret dX5_leastDelayed_42 (by first | exact True.intro | exact Or.inl rfl | exact Or.inr rfl | exact zb_01 _ | assumption | (show _ ∨ _; omega)) ⟨Nat.le_refl _, Nat.le_refl _⟩ ?_
        exact hQ
      · exfalso; omega
    · intro i hi ih
      have hl := zlst_le D G w i
      have hd1 := hd (zlst D G w i) (by omega) (by omega)
      have hd2 := hd ((i + 1 : Nat) : Int) (by omega) (by omega)
      refine z_iload_n 5 dX5_leastDelayed_4 rfl rfl ?_
      refine z_aload_n 6 dX5_leastDelayed_5 rfl rfl ?_
      refine z_cV0 9 dX5_leastDelayed_6 rfl kX6_people zw_431 (Nat.le_of_ble_eq_true rfl) ⟨Nat.le_refl _, Nat.le_refl _⟩ (by first | with_reducible assumption | with_reducible exact zup_same _ _ _) ?_
      refine c_X6_people hT ?_
      refine z_icmp_ge 41 12 dX5_leastDelayed_9 (by decide) rfl (by first | omega | exact zr_b _ | exact zr_and _ _ | exact zr_or _ _ | exact zr_shl _ _) (by first | omega | exact zr_b _ | exact zr_and _ _ | exact zr_or _ _ | exact zr_shl _ _) (fun c9 => ?_) (fun c9 => ?_)
      · exfalso; omega
      · refine z_aload_n 13 dX5_leastDelayed_12 rfl rfl ?_
        refine z_iload_n 14 dX5_leastDelayed_13 rfl rfl ?_
        refine z_cV1 17 dX5_leastDelayed_14 rfl kX5_isKnower zw_436 (Nat.le_of_ble_eq_true rfl) ⟨Nat.le_refl _, Nat.le_refl _⟩ (by first | with_reducible assumption | with_reducible exact zup_same _ _ _) ?_
        refine c_X5_isKnower hY (by omega) ?_
        refine z_if_ne 35 20 dX5_leastDelayed_17 (by decide) rfl (by first | omega | exact zr_b _ | exact zr_and _ _ | exact zr_or _ _ | exact zr_shl _ _) (fun c17 => ?_) (fun c17 => ?_)
        · try replace c17 := zb_1 c17
          rw [show zlst D G w (i + 1) = zlst D G w i from if_neg (fun q => by rw [c17] at q; exact absurd q.1 (by decide))] at ih
          refine z_iinc 38 dX5_leastDelayed_35 rfl (by decide) rfl ?_
          refine z_goto 4 dX5_leastDelayed_38 (by decide) ?_
          exact ih
        · try replace c17 := zb_0 c17
          refine z_iload_n 21 dX5_leastDelayed_20 rfl rfl ?_
          refine z_if_eq 33 24 dX5_leastDelayed_21 (by decide) rfl (by first | omega | exact zr_b _ | exact zr_and _ _ | exact zr_or _ _ | exact zr_shl _ _) (fun c21 => ?_) (fun c21 => ?_)
          · try replace c21 := zb_0 c21
            rw [show zlst D G w (i + 1) = ((i + 1 : Nat) : Int) from if_pos ⟨by simpa using c17, Or.inl c21⟩] at ih
            refine z_iload_n 34 dX5_leastDelayed_33 rfl rfl ?_
            refine z_istore_n 35 dX5_leastDelayed_34 rfl (by decide) ?_
            refine z_iinc 38 dX5_leastDelayed_35 rfl (by decide) rfl ?_
            refine z_goto 4 dX5_leastDelayed_38 (by decide) ?_
            exact ih
          · try replace c21 := zb_1 c21
            refine z_aload_n 25 dX5_leastDelayed_24 rfl rfl ?_
            refine z_iload_n 26 dX5_leastDelayed_25 rfl rfl ?_
            refine z_iload_n 27 dX5_leastDelayed_26 rfl rfl ?_
            refine z_cS3 30 dX5_leastDelayed_27 rfl kX5_isLessDelayed zw_445 (Nat.le_of_ble_eq_true rfl) ⟨Nat.le_refl _, Nat.le_refl _⟩ ?_
            refine c_X5_isLessDelayed hT (by omega) (by omega) (by omega) ?_
            refine z_if_eq 35 33 dX5_leastDelayed_30 (by decide) rfl (by first | omega | exact zr_b _ | exact zr_and _ _ | exact zr_or _ _ | exact zr_shl _ _) (fun c30 => ?_) (fun c30 => ?_)
            · try replace c30 := zb_0 c30
              rw [show zlst D G w (i + 1) = zlst D G w i from if_neg (fun q => q.2.elim c21 c30)] at ih
              refine z_iinc 38 dX5_leastDelayed_35 rfl (by decide) rfl ?_
              refine z_goto 4 dX5_leastDelayed_38 (by decide) ?_
              exact ih
            · try replace c30 := zb_1 c30
              rw [show zlst D G w (i + 1) = ((i + 1 : Nat) : Int) from if_pos ⟨by simpa using c17, Or.inr c30⟩] at ih
              refine z_iload_n 34 dX5_leastDelayed_33 rfl rfl ?_
              refine z_istore_n 35 dX5_leastDelayed_34 rfl (by decide) ?_
              refine z_iinc 38 dX5_leastDelayed_35 rfl (by decide) rfl ?_
              refine z_goto 4 dX5_leastDelayed_38 (by decide) ?_
              exact ih
  refine zC.of zpl_X5 (Nat.le_of_ble_eq_true rfl) ?_
  refine z_iconst 1 dX5_leastDelayed_0 rfl ?_
  refine z_istore_n 2 dX5_leastDelayed_1 rfl (by decide) ?_
  refine z_iconst 3 dX5_leastDelayed_2 rfl ?_
  refine z_istore_n 4 dX5_leastDelayed_3 rfl (by decide) ?_
  exact key 0 (Nat.zero_le _)
theorem c_X5_tell {a p : Int} (hY : zTlr h y V w) (hT : zTel h t n m s D G E P) (hx : y + 1 < t ∨ t + 4 < y) (ha : 0 ≤ a ∧ a < 8) (hp : 0 ≤ p ∧ p < 8) (hQ : Q none (ztl h y (ztV V D G a p) (zor w (zshl 1 p)))) : zC (d + 2) mX5_tell 0 0 [vR y, vR t, vI a, vI p] h Q := by
  have hy2 := hY.1
  refine zC.of zpl_X5 (Nat.le_of_ble_eq_true rfl) ?_
  have zh0 := hY.2.1
  have zh1 := hT.2.1
  refine z_aload_n 1 dX5_tell_0 rfl rfl ?_
  refine z_getf (ci := 5) 4 dX5_tell_1 rfl rfl zin_5 0 (by decide) zw_130 (by first | with_reducible assumption | with_reducible exact zup_same _ _ _) rfl ?_
  refine z_iload_n 5 dX5_tell_4 rfl rfl ?_
  refine z_cSN2 8 dX5_tell_5 rfl kX9_at zn_440 (Nat.le_of_ble_eq_true rfl) ⟨Nat.le_refl _, Nat.le_refl _⟩ ?_
  refine c_X9_at hY.2.2 (by decide) (by omega) ?_
  refine z_istore 10 dX5_tell_8 rfl (by decide) ?_
  refine z_aload_n 11 dX5_tell_10 rfl rfl ?_
  refine z_getf (ci := 5) 14 dX5_tell_11 rfl rfl zin_5 0 (by decide) zw_130 (by first | with_reducible assumption | with_reducible exact zup_same _ _ _) rfl ?_
  refine z_iload_n 15 dX5_tell_14 rfl rfl ?_
  refine z_iload 17 dX5_tell_15 rfl rfl ?_
  refine z_aload_n 18 dX5_tell_17 rfl rfl ?_
  refine z_iload_n 19 dX5_tell_18 rfl rfl ?_
  refine z_cV1 22 dX5_tell_19 rfl kX6_gapOf zw_448 (Nat.le_of_ble_eq_true rfl) ⟨Nat.le_refl _, Nat.le_refl _⟩ (by first | with_reducible assumption | with_reducible exact zup_same _ _ _) ?_
  refine c_X6_gapOf hT (by omega) ?_
  refine z_iadd 23 dX5_tell_22 rfl ?_
  refine z_cSN3 26 dX5_tell_23 rfl kX9_put zn_426 (Nat.le_of_ble_eq_true rfl) ⟨Nat.le_refl _, Nat.le_refl _⟩ ?_
  refine c_X9_put hY.2.2 (by decide) (by omega) (by omega) ?_
  have hT := hT.ot (a := y + 1) (c := zI 8 (zst V a (V a + G a))) (by omega)
  have hY := hY.ar (zst V a (V a + G a))
  have zh0 := hY.2.1
  have zh1 := hT.2.1
  refine z_aload_n 27 dX5_tell_26 rfl rfl ?_
  refine z_getf (ci := 5) 30 dX5_tell_27 rfl rfl zin_5 0 (by decide) zw_130 (by first | with_reducible assumption | with_reducible exact zup_same _ _ _) rfl ?_
  refine z_iload_n 31 dX5_tell_30 rfl rfl ?_
  refine z_iload 33 dX5_tell_31 rfl rfl ?_
  refine z_aload_n 34 dX5_tell_33 rfl rfl ?_
  refine z_iload_n 35 dX5_tell_34 rfl rfl ?_
  refine z_cV1 38 dX5_tell_35 rfl kX6_delayOf zw_425 (Nat.le_of_ble_eq_true rfl) ⟨Nat.le_refl _, Nat.le_refl _⟩ (by first | with_reducible assumption | with_reducible exact zup_same _ _ _) ?_
  refine c_X6_delayOf hT (by omega) ?_
  refine z_iadd 39 dX5_tell_38 rfl ?_
  refine z_cSN3 42 dX5_tell_39 rfl kX9_put zn_426 (Nat.le_of_ble_eq_true rfl) ⟨Nat.le_refl _, Nat.le_refl _⟩ ?_
  refine c_X9_put hY.2.2 (by decide) (by omega) (by omega) ?_
  rw [zup_zup]
  have hY := hY.ar (ztV V D G a p)
  rw [zup_zup] at hY
  have zh0 := hY.2.1
  change Z _ _ _ _ _ _ (zup h (y + 1) (zI 8 (ztV V D G a p))) _
  refine z_aload_n 43 dX5_tell_42 rfl rfl ?_
  refine z_dup_a 44 dX5_tell_43 rfl ?_
  refine z_getf (ci := 5) 47 dX5_tell_44 rfl rfl zin_5 1 (by decide) zw_131 (by first | with_reducible assumption | with_reducible exact zup_same _ _ _) rfl ?_
  refine z_iconst 48 dX5_tell_47 rfl ?_
  refine z_iload_n 49 dX5_tell_48 rfl rfl ?_
  refine z_ishl 50 dX5_tell_49 rfl ?_
  refine z_ior 51 dX5_tell_50 rfl ?_
  refine z_putf (ci := 5) 54 dX5_tell_51 rfl rfl zin_5 tyX5_ok nmX5 1 (by decide) zw_131 rfl (fun _ => ⟨rfl, rfl⟩) (by omega) (by first | with_reducible assumption | with_reducible exact zup_same _ _ _) (Nat.le_of_ble_eq_true rfl) ?_
  refine z_vret dX5_tell_54 (by first | exact True.intro | exact Or.inl rfl | exact Or.inr rfl | exact zb_01 _ | assumption | (show _ ∨ _; omega)) ⟨Nat.le_refl _, Nat.le_refl _⟩ ?_
  exact hQ
theorem c_X5_takeBack {a p : Int} (hY : zTlr h y V w) (hT : zTel h t n m s D G E P) (hx : y + 1 < t ∨ t + 4 < y) (ha : 0 ≤ a ∧ a < 8) (hQ : Q none (ztl h y (zst V a (V a - G a)) (zand w (zxor (zshl 1 p) (-1))))) : zC (d + 2) mX5_takeBack 0 0 [vR y, vR t, vI a, vI p] h Q := by
  have hy2 := hY.1
  refine zC.of zpl_X5 (Nat.le_of_ble_eq_true rfl) ?_
  have zh0 := hY.2.1
  have zh1 := hT.2.1
  refine z_aload_n 1 dX5_takeBack_0 rfl rfl ?_
  refine z_getf (ci := 5) 4 dX5_takeBack_1 rfl rfl zin_5 0 (by decide) zw_130 (by first | with_reducible assumption | with_reducible exact zup_same _ _ _) rfl ?_
  refine z_iload_n 5 dX5_takeBack_4 rfl rfl ?_
  refine z_aload_n 6 dX5_takeBack_5 rfl rfl ?_
  refine z_getf (ci := 5) 9 dX5_takeBack_6 rfl rfl zin_5 0 (by decide) zw_130 (by first | with_reducible assumption | with_reducible exact zup_same _ _ _) rfl ?_
  refine z_iload_n 10 dX5_takeBack_9 rfl rfl ?_
  refine z_cSN2 13 dX5_takeBack_10 rfl kX9_at zn_440 (Nat.le_of_ble_eq_true rfl) ⟨Nat.le_refl _, Nat.le_refl _⟩ ?_
  refine c_X9_at hY.2.2 (by decide) (by omega) ?_
  refine z_aload_n 14 dX5_takeBack_13 rfl rfl ?_
  refine z_iload_n 15 dX5_takeBack_14 rfl rfl ?_
  refine z_cV1 18 dX5_takeBack_15 rfl kX6_gapOf zw_448 (Nat.le_of_ble_eq_true rfl) ⟨Nat.le_refl _, Nat.le_refl _⟩ (by first | with_reducible assumption | with_reducible exact zup_same _ _ _) ?_
  refine c_X6_gapOf hT (by omega) ?_
  refine z_isub 19 dX5_takeBack_18 rfl ?_
  refine z_cSN3 22 dX5_takeBack_19 rfl kX9_put zn_426 (Nat.le_of_ble_eq_true rfl) ⟨Nat.le_refl _, Nat.le_refl _⟩ ?_
  refine c_X9_put hY.2.2 (by decide) (by omega) (by omega) ?_
  have hY := hY.ar (zst V a (V a - G a))
  have zh0 := hY.2.1
  refine z_aload_n 23 dX5_takeBack_22 rfl rfl ?_
  refine z_dup_a 24 dX5_takeBack_23 rfl ?_
  refine z_getf (ci := 5) 27 dX5_takeBack_24 rfl rfl zin_5 1 (by decide) zw_131 (by first | with_reducible assumption | with_reducible exact zup_same _ _ _) rfl ?_
  refine z_iconst 28 dX5_takeBack_27 rfl ?_
  refine z_iload_n 29 dX5_takeBack_28 rfl rfl ?_
  refine z_ishl 30 dX5_takeBack_29 rfl ?_
  refine z_iconst 31 dX5_takeBack_30 rfl ?_
  refine z_ixor 32 dX5_takeBack_31 rfl ?_
  refine z_iand 33 dX5_takeBack_32 rfl ?_
  refine z_putf (ci := 5) 36 dX5_takeBack_33 rfl rfl zin_5 tyX5_ok nmX5 1 (by decide) zw_131 rfl (fun _ => ⟨rfl, rfl⟩) (by omega) (by first | with_reducible assumption | with_reducible exact zup_same _ _ _) (Nat.le_of_ble_eq_true rfl) ?_
  refine z_vret dX5_takeBack_36 (by first | exact True.intro | exact Or.inl rfl | exact Or.inr rfl | exact zb_01 _ | assumption | (show _ ∨ _; omega)) ⟨Nat.le_refl _, Nat.le_refl _⟩ ?_
  exact hQ
/-- the quick plan as it grows: next there, knowers, tellers, plan -/
abbrev zQS : Type := (Int → Int) × Int × (Int → Int) × (Int → Int)
def zqk (D G E P V : Int → Int) (N : Nat) : Nat → zQS
  | 0 => (zst V 0 (D 0), 1, E, P)
  | i + 1 => match zqk D G E P V N i with
    | (V', w', E', P') => (ztV V' D G (zsoon V' w' N) (zlst D G w' N), zor w' (zshl 1 (zlst D G w' N)), zst E' (zlst D G w' N) (zsoon V' w' N), zst P' i (zlst D G w' N))
/-- the cells of a TELLING whose plan has been laid anew -/
def ztp (h : zH) (t : Nat) (n m s : Int) (E P : Int → Int) : zH := zup (zup (zup h (t + 4) (zI 8 P)) (t + 3) (zI 8 E)) t (zO 6 [vI n, vI m, vI s, vR (t + 1), vR (t + 2), vR (t + 3), vR (t + 4)])
theorem ztp_Tel (hT : zTel h t n m s D G E P) (s' : Int) (E' P' : Int → Int) : zTel (ztp h t n m s' E' P') t n m s' D G E' P' := ((hT.pl P').tl E').fd n m s'
theorem ztp_Tlr (hY : zTlr h y V w) (hx : y + 1 < t ∨ t + 4 < y) (s' : Int) (E' P' : Int → Int) : zTlr (ztp h t n m s' E' P') y V w := ((hY.ot (by omega)).ot (by omega)).ot (by omega)
theorem ztp_ztp (h : zH) (t : Nat) (n m s s' : Int) (E E' P P' : Int → Int) : ztp (ztp h t n m s E P) t n m s' E' P' = ztp h t n m s' E' P' := by
  unfold ztp
  rw [zup_comm _ _ _ (show t ≠ t + 4 by omega), zup_comm _ _ _ (show t + 3 ≠ t + 4 by omega), zup_zup, zup_comm _ _ _ (show t ≠ t + 3 by omega), zup_zup, zup_zup]
theorem ztp_ztl (h : zH) (hx : y + 1 < t ∨ t + 4 < y) (n m s w : Int) (E P V : Int → Int) : ztl (ztp h t n m s E P) y V w = ztp (ztl h y V w) t n m s E P := by
  unfold ztp ztl
  rw [zup_comm _ _ _ (show t ≠ y + 1 by omega), zup_comm _ _ _ (show t + 3 ≠ y + 1 by omega), zup_comm _ _ _ (show t + 4 ≠ y + 1 by omega), zup_comm _ _ _ (show t ≠ y by omega), zup_comm _ _ _ (show t + 3 ≠ y by omega), zup_comm _ _ _ (show t + 4 ≠ y by omega)]
theorem ztp_Mod (h : zH) (t : Nat) (n m s : Int) (E P : Int → Int) : zMod t (t + 4) h (ztp h t n m s E P) := (((zMod.rf _ _ h).up _ (by omega)).up _ (by omega)).up _ (by omega)
theorem ztp_self (hT : zTel h t n m s D G E P) (s' : Int) : ztp h t n m s' E P = zup h t (zO 6 [vI n, vI m, vI s', vR (t + 1), vR (t + 2), vR (t + 3), vR (t + 4)]) := by
  unfold ztp
  rw [zup_self h hT.2.2.2.2.2, zup_self h hT.2.2.2.2.1]
theorem c_X5_layQuickPlan {N : Nat} (hY : zTlr h y V w) (hT : zTel h t ((N + 1 : Nat) : Int) m s D G E P) (hx : y + 1 < t ∨ t + 4 < y) (hN : N ≤ 7) (hd : ∀ p : Int, 0 ≤ p → p ≤ N → 0 ≤ D p ∧ D p ≤ 1000 ∧ 0 ≤ G p ∧ G p ≤ 1000)
    (hB : ∀ i : Nat, i < N → zkb (zqk D G E P V N i).2.1 0 = true ∧ ∀ p : Int, 0 ≤ p → p ≤ N → zkb (zqk D G E P V N i).2.1 p = true → 0 ≤ (zqk D G E P V N i).1 p ∧ (zqk D G E P V N i).1 p ≤ 100000)
    (hQ : Q none (ztp (ztl h y (zqk D G E P V N N).1 (zqk D G E P V N N).2.1) t ((N + 1 : Nat) : Int) m N (zqk D G E P V N N).2.2.1 (zqk D G E P V N N).2.2.2)) : zC (d + 4) mX5_layQuickPlan 0 0 [vR y, vR t] h Q := by
  have hy2 := hY.1
  have key : ∀ i : Nat, i ≤ N → ∀ u v : Option zV, Z (d + 4) mX5_layQuickPlan zo 11 [some (vR y), some (vR t), some (vI ((i + 1 : Nat) : Int)), u, v] [] (ztp (ztl h y (zqk D G E P V N i).1 (zqk D G E P V N i).2.1) t ((N + 1 : Nat) : Int) m i (zqk D G E P V N i).2.2.1 (zqk D G E P V N i).2.2.2) Q := by
    refine z_loop N ?_ ?_
    · intro u v
      have hT := ztp_Tel (ztl_Tel hT hx (zqk D G E P V N N).1 (zqk D G E P V N N).2.1) (N : Int) (zqk D G E P V N N).2.2.1 (zqk D G E P V N N).2.2.2
      have zh0 := hT.2.1
      refine z_iload_n 12 dX5_layQuickPlan_11 rfl rfl ?_
      refine z_aload_n 13 dX5_layQuickPlan_12 rfl rfl ?_
      refine z_cV0 16 dX5_layQuickPlan_13 rfl kX6_people zw_431 (Nat.le_of_ble_eq_true rfl) ⟨Nat.le_refl _, Nat.le_refl _⟩ (by first | with_reducible assumption | with_reducible exact zup_same _ _ _) ?_
      refine c_X6_people hT ?_
      refine z_icmp_ge 53 19 dX5_layQuickPlan_16 (by decide) rfl (by first | omega | exact zr_b _ | exact zr_and _ _ | exact zr_or _ _ | exact zr_shl _ _) (by first | omega | exact zr_b _ | exact zr_and _ _ | exact zr_or _ _ | exact zr_shl _ _) (fun c16 => ?_) (fun c16 => ?_)
      · refine z_vret dX5_layQuickPlan_53 (by first | exact True.intro | exact Or.inl rfl | exact Or.inr rfl | exact zb_01 _ | assumption | (show _ ∨ _; omega)) ⟨Nat.le_refl _, Nat.le_refl _⟩ ?_
        exact hQ
      · exfalso; omega
    · intro i hi ih u v
      obtain ⟨hb1, hb2⟩ := hB i hi
      have e1 : zqk D G E P V N (i + 1) = (ztV (zqk D G E P V N i).1 D G (zsoon (zqk D G E P V N i).1 (zqk D G E P V N i).2.1 N) (zlst D G (zqk D G E P V N i).2.1 N), zor (zqk D G E P V N i).2.1 (zshl 1 (zlst D G (zqk D G E P V N i).2.1 N)), zst (zqk D G E P V N i).2.2.1 (zlst D G (zqk D G E P V N i).2.1 N) (zsoon (zqk D G E P V N i).1 (zqk D G E P V N i).2.1 N), zst (zqk D G E P V N i).2.2.2 i (zlst D G (zqk D G E P V N i).2.1 N)) := rfl
      rw [e1] at ih
      generalize zqk D G E P V N i = S at hb1 hb2 ih ⊢
      obtain ⟨V', w', E', P'⟩ := S
      dsimp only at hb1 hb2 ih ⊢
      have hT1 := ztp_Tel (ztl_Tel hT hx V' w') (i : Int) E' P'
      have hY1 := ztp_Tlr (t := t) (n := ((N + 1 : Nat) : Int)) (m := m) (ztl_Tlr hY V' w') hx (i : Int) E' P'
      have l1 := zsoon_le V' w' N
      have l2 := zlst_le D G w' N
      have zh0 := hT1.2.1
      have zh1 := hY1.2.1
      refine z_iload_n 12 dX5_layQuickPlan_11 rfl rfl ?_
      refine z_aload_n 13 dX5_layQuickPlan_12 rfl rfl ?_
      refine z_cV0 16 dX5_layQuickPlan_13 rfl kX6_people zw_431 (Nat.le_of_ble_eq_true rfl) ⟨Nat.le_refl _, Nat.le_refl _⟩ (by first | with_reducible assumption | with_reducible exact zup_same _ _ _) ?_
      refine c_X6_people hT1 ?_
      refine z_icmp_ge 53 19 dX5_layQuickPlan_16 (by decide) rfl (by first | omega | exact zr_b _ | exact zr_and _ _ | exact zr_or _ _ | exact zr_shl _ _) (by first | omega | exact zr_b _ | exact zr_and _ _ | exact zr_or _ _ | exact zr_shl _ _) (fun c16 => ?_) (fun c16 => ?_)
      · exfalso; omega
      · refine z_aload_n 20 dX5_layQuickPlan_19 rfl rfl ?_
        refine z_aload_n 21 dX5_layQuickPlan_20 rfl rfl ?_
        refine z_cV1 24 dX5_layQuickPlan_21 rfl kX5_soonest zw_432 (Nat.le_of_ble_eq_true rfl) ⟨Nat.le_refl _, Nat.le_refl _⟩ (by first | with_reducible assumption | with_reducible exact zup_same _ _ _) ?_
        refine c_X5_soonest hY1 hT1 hN hb1 hb2 ?_
        refine z_istore_n 25 dX5_layQuickPlan_24 rfl (by decide) ?_
        refine z_aload_n 26 dX5_layQuickPlan_25 rfl rfl ?_
        refine z_aload_n 27 dX5_layQuickPlan_26 rfl rfl ?_
        refine z_cV1 30 dX5_layQuickPlan_27 rfl kX5_leastDelayed zw_441 (Nat.le_of_ble_eq_true rfl) ⟨Nat.le_refl _, Nat.le_refl _⟩ (by first | with_reducible assumption | with_reducible exact zup_same _ _ _) ?_
        refine c_X5_leastDelayed hY1 hT1 hN hd ?_
        refine z_istore 32 dX5_layQuickPlan_30 rfl (by decide) ?_
        refine z_aload_n 33 dX5_layQuickPlan_32 rfl rfl ?_
        refine z_aload_n 34 dX5_layQuickPlan_33 rfl rfl ?_
        refine z_iload_n 35 dX5_layQuickPlan_34 rfl rfl ?_
        refine z_iload 37 dX5_layQuickPlan_35 rfl rfl ?_
        refine z_cV3 40 dX5_layQuickPlan_37 rfl kX5_tell zw_449 (Nat.le_of_ble_eq_true rfl) ⟨Nat.le_refl _, Nat.le_refl _⟩ (by first | with_reducible assumption | with_reducible exact zup_same _ _ _) ?_
        refine c_X5_tell hY1 hT1 hx (by omega) (by omega) ?_
        rw [ztp_ztl _ hx, ztl_ztl]
        have hT2 := ztp_Tel (ztl_Tel hT hx (ztV V' D G (zsoon V' w' N) (zlst D G w' N)) (zor w' (zshl 1 (zlst D G w' N)))) (i : Int) E' P'
        have zh0 := hT2.2.1
        refine z_aload_n 41 dX5_layQuickPlan_40 rfl rfl ?_
        refine z_iload 43 dX5_layQuickPlan_41 rfl rfl ?_
        refine z_iload_n 44 dX5_layQuickPlan_43 rfl rfl ?_
        refine z_cV2 47 dX5_layQuickPlan_44 rfl kX6_putLast zw_453 (Nat.le_of_ble_eq_true rfl) ⟨Nat.le_refl _, Nat.le_refl _⟩ (by first | with_reducible assumption | with_reducible exact zup_same _ _ _) ?_
        refine c_X6_putLast hT2 (by omega) (by omega) ?_
        rw [show zup (zup (zup (ztp (ztl h y (ztV V' D G (zsoon V' w' N) (zlst D G w' N)) (zor w' (zshl 1 (zlst D G w' N)))) t ((N + 1 : Nat) : Int) m i E' P') (t + 4) (zI 8 (zst P' i (zlst D G w' N)))) (t + 3) (zI 8 (zst E' (zlst D G w' N) (zsoon V' w' N)))) t (zO 6 [vI ((N + 1 : Nat) : Int), vI m, vI ((i : Int) + 1), vR (t + 1), vR (t + 2), vR (t + 3), vR (t + 4)]) = ztp (ztl h y (ztV V' D G (zsoon V' w' N) (zlst D G w' N)) (zor w' (zshl 1 (zlst D G w' N)))) t ((N + 1 : Nat) : Int) m ((i : Int) + 1) (zst E' (zlst D G w' N) (zsoon V' w' N)) (zst P' i (zlst D G w' N)) from ztp_ztp _ _ _ _ _ _ _ _ _ _]
        refine z_iinc 50 dX5_layQuickPlan_47 rfl (by decide) rfl ?_
        refine z_goto 11 dX5_layQuickPlan_50 (by decide) ?_
        exact ih _ _
  have e0 := ztp_self (ztl_Tel hT hx (zst V 0 (D 0)) 1) 0
  refine zC.of zpl_X5 (Nat.le_of_ble_eq_true rfl) ?_
  have zh0 := hY.2.1
  have zh1 := hT.2.1
  refine z_aload_n 1 dX5_layQuickPlan_0 rfl rfl ?_
  refine z_aload_n 2 dX5_layQuickPlan_1 rfl rfl ?_
  refine z_cV1 5 dX5_layQuickPlan_2 rfl kX5_begin zw_421 (Nat.le_of_ble_eq_true rfl) ⟨Nat.le_refl _, Nat.le_refl _⟩ (by first | with_reducible assumption | with_reducible exact zup_same _ _ _) ?_
  refine c_X5_begin hY hT hx ?_
  have hT1 := ztl_Tel hT hx (zst V 0 (D 0)) 1
  have zh0 := hT1.2.1
  refine z_aload_n 6 dX5_layQuickPlan_5 rfl rfl ?_
  refine z_cV0 9 dX5_layQuickPlan_6 rfl kX6_emptyPlan zw_427 (Nat.le_of_ble_eq_true rfl) ⟨Nat.le_refl _, Nat.le_refl _⟩ (by first | with_reducible assumption | with_reducible exact zup_same _ _ _) ?_
  refine c_X6_emptyPlan hT1 ?_
  rw [← e0]
  refine z_iconst 10 dX5_layQuickPlan_9 rfl ?_
  refine z_istore_n 11 dX5_layQuickPlan_10 rfl (by decide) ?_
  exact key 0 (Nat.zero_le _) _ _
end TLR
