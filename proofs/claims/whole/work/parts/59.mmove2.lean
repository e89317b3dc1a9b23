/-! THE MODEL: move, whole -/
section MMOVE2
variable {d : Nat} {h : zH} {Q : Option zV → zH → Prop} {C : Int → Int} {l : Int} {N M : Nat} {D G E P R DI : Int → Int} {ac nx : Int} {KP IK SW ST : Int → Int} {sn sd : Int} {s : zMS}
theorem m_move_no {p t : Int} (hW : zMC h C l ((N + 1 : Nat) : Int) R DI ac nx KP IK SW ST sn sd) (hR : zRo N M D G E P R) (hO : zOK 9 N D G E P) (hp : -2147483648 ≤ p ∧ p ≤ 2147483647) (ht : -2147483648 ≤ t ∧ t ≤ 2147483647) (hr : zrfM N E P p t ≠ 0) (hQ : Q (some (vI (zrfM N E P p t))) h) : zC (d + 4) mX10_move 0 0 [vR 112, vI p, vI t] h Q := by
  have hN := hO.1
  obtain ⟨TR, TI, WH, BG, OD, WO, MA, RD, rp, rs, rm, rw', hW⟩ := hW
  have w112 := hW.c112
  dsimp only [zMO, zMS.C, zMS.l, zMS.n, zMS.R, zMS.TR, zMS.DI, zMS.ac, zMS.nx, zMS.KP, zMS.IK, zMS.SW, zMS.ST, zMS.sn, zMS.sd, zMS.TI, zMS.WH, zMS.BG, zMS.OD, zMS.WO, zMS.MA, zMS.rp, zMS.RD, zMS.rs, zMS.rm, zMS.rw, zMS.uC, zMS.ul, zMS.un, zMS.uR, zMS.uTR, zMS.uDI, zMS.uac, zMS.unx, zMS.uKP, zMS.uIK, zMS.uSW, zMS.uST, zMS.usn, zMS.usd, zMS.uTI, zMS.uWH, zMS.uBG, zMS.uOD, zMS.uWO, zMS.uMA, zMS.urp, zMS.uRD, zMS.urs, zMS.urm, zMS.urw] at w112
  have w114 := hW.c114
  dsimp only [zMO, zMS.C, zMS.l, zMS.n, zMS.R, zMS.TR, zMS.DI, zMS.ac, zMS.nx, zMS.KP, zMS.IK, zMS.SW, zMS.ST, zMS.sn, zMS.sd, zMS.TI, zMS.WH, zMS.BG, zMS.OD, zMS.WO, zMS.MA, zMS.rp, zMS.RD, zMS.rs, zMS.rm, zMS.rw, zMS.uC, zMS.ul, zMS.un, zMS.uR, zMS.uTR, zMS.uDI, zMS.uac, zMS.unx, zMS.uKP, zMS.uIK, zMS.uSW, zMS.uST, zMS.usn, zMS.usd, zMS.uTI, zMS.uWH, zMS.uBG, zMS.uOD, zMS.uWO, zMS.uMA, zMS.urp, zMS.uRD, zMS.urs, zMS.urm, zMS.urw] at w114
  by_cases e1 : p = 0 ∨ ¬ (0 ≤ p ∧ p < (N : Int) + 1) ∨ ¬ (0 ≤ t ∧ t < (N : Int) + 1)
  · rw [show zrfM N E P p t = -1 from if_pos e1] at hQ
    refine zC.of zpl_X10 (Nat.le_of_ble_eq_true rfl) ?_
    refine z_aload_n 1 dX10_move_0 rfl rfl ?_
    refine z_iload_n 2 dX10_move_1 rfl rfl ?_
    refine z_cV1 5 dX10_move_2 rfl kX10_isPerson zw_939 (Nat.le_of_ble_eq_true rfl) ⟨Nat.le_refl _, Nat.le_refl _⟩ (by first | with_reducible assumption | with_reducible exact zup_same _ _ _) ?_
    refine c_X10_isPerson hW.c112 (by show 1 ≤ ((N + 1 : Nat) : Int) ∧ ((N + 1 : Nat) : Int) ≤ 8; omega) (by omega) ?_
    refine z_if_eq 20 8 dX10_move_5 (by decide) rfl (by first | omega | exact zr_b _ | exact zr_and _ _ | exact zr_or _ _ | exact zr_shl _ _) (fun c5 => ?_) (fun c5 => ?_)
    · try replace c5 := zb_0 c5
      refine z_iconst 21 dX10_move_20 rfl ?_
      refine z_ret dX10_move_21 (by first | exact True.intro | exact Or.inl rfl | exact Or.inr rfl | exact zb_01 _ | assumption | (show _ ∨ _; omega)) ⟨Nat.le_refl _, Nat.le_refl _⟩ ?_
      exact hQ
    · try replace c5 := zb_1 c5
      have c5 : 0 ≤ p ∧ p < ((N + 1 : Nat) : Int) := c5
      refine z_iload_n 9 dX10_move_8 rfl rfl ?_
      refine z_if_eq 20 12 dX10_move_9 (by decide) rfl (by first | omega | exact zr_b _ | exact zr_and _ _ | exact zr_or _ _ | exact zr_shl _ _) (fun c9 => ?_) (fun c9 => ?_)
      · try replace c9 := zb_0 c9
        refine z_iconst 21 dX10_move_20 rfl ?_
        refine z_ret dX10_move_21 (by first | exact True.intro | exact Or.inl rfl | exact Or.inr rfl | exact zb_01 _ | assumption | (show _ ∨ _; omega)) ⟨Nat.le_refl _, Nat.le_refl _⟩ ?_
        exact hQ
      · try replace c9 := zb_1 c9
        refine z_aload_n 13 dX10_move_12 rfl rfl ?_
        refine z_iload_n 14 dX10_move_13 rfl rfl ?_
        refine z_cV1 17 dX10_move_14 rfl kX10_isPerson zw_939 (Nat.le_of_ble_eq_true rfl) ⟨Nat.le_refl _, Nat.le_refl _⟩ (by first | with_reducible assumption | with_reducible exact zup_same _ _ _) ?_
        refine c_X10_isPerson hW.c112 (by show 1 ≤ ((N + 1 : Nat) : Int) ∧ ((N + 1 : Nat) : Int) ≤ 8; omega) (by omega) ?_
        refine z_if_ne 22 20 dX10_move_17 (by decide) rfl (by first | omega | exact zr_b _ | exact zr_and _ _ | exact zr_or _ _ | exact zr_shl _ _) (fun c17 => ?_) (fun c17 => ?_)
        · try replace c17 := zb_1 c17
          have c17 : 0 ≤ t ∧ t < ((N + 1 : Nat) : Int) := c17
          exfalso; omega
        · try replace c17 := zb_0 c17
          refine z_iconst 21 dX10_move_20 rfl ?_
          refine z_ret dX10_move_21 (by first | exact True.intro | exact Or.inl rfl | exact Or.inr rfl | exact zb_01 _ | assumption | (show _ ∨ _; omega)) ⟨Nat.le_refl _, Nat.le_refl _⟩ ?_
          exact hQ
  · have e2 : zrfM N E P p t = -3 := by
      have : zrfM N E P p t = if t = E p ∨ zkb (zbrn E P p N) t = true then -3 else 0 := if_neg e1
      rw [this] at hr ⊢
      split at hr
      · next e => rw [if_pos e]
      · exact absurd rfl hr
    rw [e2] at hQ
    refine zC.of zpl_X10 (Nat.le_of_ble_eq_true rfl) ?_
    refine z_aload_n 1 dX10_move_0 rfl rfl ?_
    refine z_iload_n 2 dX10_move_1 rfl rfl ?_
    refine z_cV1 5 dX10_move_2 rfl kX10_isPerson zw_939 (Nat.le_of_ble_eq_true rfl) ⟨Nat.le_refl _, Nat.le_refl _⟩ (by first | with_reducible assumption | with_reducible exact zup_same _ _ _) ?_
    refine c_X10_isPerson hW.c112 (by show 1 ≤ ((N + 1 : Nat) : Int) ∧ ((N + 1 : Nat) : Int) ≤ 8; omega) (by omega) ?_
    rw [zb_t (by show 0 ≤ (p : Int) ∧ p < ((N + 1 : Nat) : Int); omega)]
    refine z_if_eq 20 8 dX10_move_5 (by decide) rfl (by first | omega | exact zr_b _ | exact zr_and _ _ | exact zr_or _ _ | exact zr_shl _ _) (fun c5 => ?_) (fun c5 => ?_)
    · exact absurd c5 (by decide)
    · try replace c5 := zb_1 c5
      refine z_iload_n 9 dX10_move_8 rfl rfl ?_
      refine z_if_eq 20 12 dX10_move_9 (by decide) rfl (by first | omega | exact zr_b _ | exact zr_and _ _ | exact zr_or _ _ | exact zr_shl _ _) (fun c9 => ?_) (fun c9 => ?_)
      · exfalso; omega
      · try replace c9 := zb_1 c9
        refine z_aload_n 13 dX10_move_12 rfl rfl ?_
        refine z_iload_n 14 dX10_move_13 rfl rfl ?_
        refine z_cV1 17 dX10_move_14 rfl kX10_isPerson zw_939 (Nat.le_of_ble_eq_true rfl) ⟨Nat.le_refl _, Nat.le_refl _⟩ (by first | with_reducible assumption | with_reducible exact zup_same _ _ _) ?_
        refine c_X10_isPerson hW.c112 (by show 1 ≤ ((N + 1 : Nat) : Int) ∧ ((N + 1 : Nat) : Int) ≤ 8; omega) (by omega) ?_
        rw [zb_t (by show 0 ≤ (t : Int) ∧ t < ((N + 1 : Nat) : Int); omega)]
        refine z_if_ne 22 20 dX10_move_17 (by decide) rfl (by first | omega | exact zr_b _ | exact zr_and _ _ | exact zr_or _ _ | exact zr_shl _ _) (fun c17 => ?_) (fun c17 => ?_)
        · try replace c17 := zb_1 c17
          refine z_aload_n 23 dX10_move_22 rfl rfl ?_
          refine z_aload_n 24 dX10_move_23 rfl rfl ?_
          refine z_getf (ci := 10) 27 dX10_move_24 rfl rfl zin_10 3 (by decide) zw_767 (by first | with_reducible assumption | with_reducible exact zup_same _ _ _) rfl ?_
          refine z_iload_n 28 dX10_move_27 rfl rfl ?_
          refine z_iload_n 29 dX10_move_28 rfl rfl ?_
          refine z_cV3 32 dX10_move_29 rfl kX10_mayMove zw_975 (Nat.le_of_ble_eq_true rfl) ⟨Nat.le_refl _, Nat.le_refl _⟩ (by first | with_reducible assumption | with_reducible exact zup_same _ _ _) ?_
          refine c_X10_mayMove hW.c112 rfl w114 hR hO (by omega) (by omega) ?_
          rw [zb_f hr]
          refine z_if_ne 38 35 dX10_move_32 (by decide) rfl (by first | omega | exact zr_b _ | exact zr_and _ _ | exact zr_or _ _ | exact zr_shl _ _) (fun c32 => ?_) (fun c32 => ?_)
          · exact absurd rfl c32
          · try replace c32 := zb_0 c32
            refine z_bipush 37 dX10_move_35 rfl (by decide) ?_
            refine z_ret dX10_move_37 (by first | exact True.intro | exact Or.inl rfl | exact Or.inr rfl | exact zb_01 _ | assumption | (show _ ∨ _; omega)) ⟨Nat.le_refl _, Nat.le_refl _⟩ ?_
            exact hQ
        · exact absurd c17 (by decide)
theorem m_move {p t : Int} (hW : zMC h C l ((N + 1 : Nat) : Int) R DI ac nx KP IK SW ST sn sd) (hR : zRo N M D G E P R) (hO : zOK 9 N D G E P) (hM : M ≤ 3) (hr : zrfM N E P p t = 0) (ha : 0 ≤ ac ∧ ac ≤ 14) (hx : 0 ≤ nx ∧ nx < 14)
    (hQ : ∀ (h' : zH) (DI' R' : Int → Int), (∀ k : Int, 0 ≤ k → k < 33 → DI' (33 * nx + k) = R k) → (∀ q : Int, (q < 33 * nx ∨ 33 * nx + 33 ≤ q) → DI' q = DI q) → zRo N M D G (zst E p t) (zgv (zbrn E P p N) N P N).2 R' → zMC h' C l ((N + 1 : Nat) : Int) R' DI' (if ac < 14 then ac + 1 else 14) ((nx + 1) % 14) KP IK SW ST sn sd → zMod 112 127 h h' → Q (some (vI (zLAST D G (zst E p t) (zgv (zbrn E P p N) N P N).2 N M))) h') : zC (d + 4) mX10_move 0 0 [vR 112, vI p, vI t] h Q := by
  have hW0 := hW
  have hN := hO.1
  obtain ⟨hp, ht, hnb⟩ := zrfM_0 hr
  have hO' := zmove_ok hO hp ht hnb
  obtain ⟨TR, TI, WH, BG, OD, WO, MA, RD, rp, rs, rm, rw', hW⟩ := hW
  have w112 := hW.c112
  dsimp only [zMO, zMS.C, zMS.l, zMS.n, zMS.R, zMS.TR, zMS.DI, zMS.ac, zMS.nx, zMS.KP, zMS.IK, zMS.SW, zMS.ST, zMS.sn, zMS.sd, zMS.TI, zMS.WH, zMS.BG, zMS.OD, zMS.WO, zMS.MA, zMS.rp, zMS.RD, zMS.rs, zMS.rm, zMS.rw, zMS.uC, zMS.ul, zMS.un, zMS.uR, zMS.uTR, zMS.uDI, zMS.uac, zMS.unx, zMS.uKP, zMS.uIK, zMS.uSW, zMS.uST, zMS.usn, zMS.usd, zMS.uTI, zMS.uWH, zMS.uBG, zMS.uOD, zMS.uWO, zMS.uMA, zMS.urp, zMS.uRD, zMS.urs, zMS.urm, zMS.urw] at w112
  have w114 := hW.c114
  dsimp only [zMO, zMS.C, zMS.l, zMS.n, zMS.R, zMS.TR, zMS.DI, zMS.ac, zMS.nx, zMS.KP, zMS.IK, zMS.SW, zMS.ST, zMS.sn, zMS.sd, zMS.TI, zMS.WH, zMS.BG, zMS.OD, zMS.WO, zMS.MA, zMS.rp, zMS.RD, zMS.rs, zMS.rm, zMS.rw, zMS.uC, zMS.ul, zMS.un, zMS.uR, zMS.uTR, zMS.uDI, zMS.uac, zMS.unx, zMS.uKP, zMS.uIK, zMS.uSW, zMS.uST, zMS.usn, zMS.usd, zMS.uTI, zMS.uWH, zMS.uBG, zMS.uOD, zMS.uWO, zMS.uMA, zMS.urp, zMS.uRD, zMS.urs, zMS.urm, zMS.urw] at w114
  refine zC.of zpl_X10 (Nat.le_of_ble_eq_true rfl) ?_
  refine z_aload_n 1 dX10_move_0 rfl rfl ?_
  refine z_iload_n 2 dX10_move_1 rfl rfl ?_
  refine z_cV1 5 dX10_move_2 rfl kX10_isPerson zw_939 (Nat.le_of_ble_eq_true rfl) ⟨Nat.le_refl _, Nat.le_refl _⟩ (by first | with_reducible assumption | with_reducible exact zup_same _ _ _) ?_
  refine c_X10_isPerson hW.c112 (by show 1 ≤ ((N + 1 : Nat) : Int) ∧ ((N + 1 : Nat) : Int) ≤ 8; omega) (by omega) ?_
  rw [zb_t (by show 0 ≤ (p : Int) ∧ p < ((N + 1 : Nat) : Int); omega)]
  refine z_if_eq 20 8 dX10_move_5 (by decide) rfl (by first | omega | exact zr_b _ | exact zr_and _ _ | exact zr_or _ _ | exact zr_shl _ _) (fun c5 => ?_) (fun c5 => ?_)
  · exact absurd c5 (by decide)
  · try replace c5 := zb_1 c5
    refine z_iload_n 9 dX10_move_8 rfl rfl ?_
    refine z_if_eq 20 12 dX10_move_9 (by decide) rfl (by first | omega | exact zr_b _ | exact zr_and _ _ | exact zr_or _ _ | exact zr_shl _ _) (fun c9 => ?_) (fun c9 => ?_)
    · exfalso; omega
    · try replace c9 := zb_1 c9
      refine z_aload_n 13 dX10_move_12 rfl rfl ?_
      refine z_iload_n 14 dX10_move_13 rfl rfl ?_
      refine z_cV1 17 dX10_move_14 rfl kX10_isPerson zw_939 (Nat.le_of_ble_eq_true rfl) ⟨Nat.le_refl _, Nat.le_refl _⟩ (by first | with_reducible assumption | with_reducible exact zup_same _ _ _) ?_
      refine c_X10_isPerson hW.c112 (by show 1 ≤ ((N + 1 : Nat) : Int) ∧ ((N + 1 : Nat) : Int) ≤ 8; omega) (by omega) ?_
      rw [zb_t (by show 0 ≤ (t : Int) ∧ t < ((N + 1 : Nat) : Int); omega)]
      refine z_if_ne 22 20 dX10_move_17 (by decide) rfl (by first | omega | exact zr_b _ | exact zr_and _ _ | exact zr_or _ _ | exact zr_shl _ _) (fun c17 => ?_) (fun c17 => ?_)
      · try replace c17 := zb_1 c17
        refine z_aload_n 23 dX10_move_22 rfl rfl ?_
        refine z_aload_n 24 dX10_move_23 rfl rfl ?_
        refine z_getf (ci := 10) 27 dX10_move_24 rfl rfl zin_10 3 (by decide) zw_767 (by first | with_reducible assumption | with_reducible exact zup_same _ _ _) rfl ?_
        refine z_iload_n 28 dX10_move_27 rfl rfl ?_
        refine z_iload_n 29 dX10_move_28 rfl rfl ?_
        refine z_cV3 32 dX10_move_29 rfl kX10_mayMove zw_975 (Nat.le_of_ble_eq_true rfl) ⟨Nat.le_refl _, Nat.le_refl _⟩ (by first | with_reducible assumption | with_reducible exact zup_same _ _ _) ?_
        refine c_X10_mayMove hW.c112 rfl w114 hR hO hp ht ?_
        rw [zb_t hr]
        refine z_if_ne 38 35 dX10_move_32 (by decide) rfl (by first | omega | exact zr_b _ | exact zr_and _ _ | exact zr_or _ _ | exact zr_shl _ _) (fun c32 => ?_) (fun c32 => ?_)
        · try replace c32 := zb_1 c32
          refine z_aload_n 39 dX10_move_38 rfl rfl ?_
          refine z_cV0 42 dX10_move_39 rfl kX10_note zw_983 (Nat.le_of_ble_eq_true rfl) ⟨Nat.le_refl _, Nat.le_refl _⟩ (by first | with_reducible assumption | with_reducible exact zup_same _ _ _) ?_
          refine c_X10_note hW0 ha hx (fun h1 DI' k1 k2 hW1 hF1 => ?_)
          obtain ⟨TR, TI, WH, BG, OD, WO, MA, RD, rp, rs, rm, rw', hW1⟩ := hW1
          have w112 := hW1.c112
          dsimp only [zMO, zMS.C, zMS.l, zMS.n, zMS.R, zMS.TR, zMS.DI, zMS.ac, zMS.nx, zMS.KP, zMS.IK, zMS.SW, zMS.ST, zMS.sn, zMS.sd, zMS.TI, zMS.WH, zMS.BG, zMS.OD, zMS.WO, zMS.MA, zMS.rp, zMS.RD, zMS.rs, zMS.rm, zMS.rw, zMS.uC, zMS.ul, zMS.un, zMS.uR, zMS.uTR, zMS.uDI, zMS.uac, zMS.unx, zMS.uKP, zMS.uIK, zMS.uSW, zMS.uST, zMS.usn, zMS.usd, zMS.uTI, zMS.uWH, zMS.uBG, zMS.uOD, zMS.uWO, zMS.uMA, zMS.urp, zMS.uRD, zMS.urs, zMS.urm, zMS.urw] at w112
          have w114 := hW1.c114
          dsimp only [zMO, zMS.C, zMS.l, zMS.n, zMS.R, zMS.TR, zMS.DI, zMS.ac, zMS.nx, zMS.KP, zMS.IK, zMS.SW, zMS.ST, zMS.sn, zMS.sd, zMS.TI, zMS.WH, zMS.BG, zMS.OD, zMS.WO, zMS.MA, zMS.rp, zMS.RD, zMS.rs, zMS.rm, zMS.rw, zMS.uC, zMS.ul, zMS.un, zMS.uR, zMS.uTR, zMS.uDI, zMS.uac, zMS.unx, zMS.uKP, zMS.uIK, zMS.uSW, zMS.uST, zMS.usn, zMS.usd, zMS.uTI, zMS.uWH, zMS.uBG, zMS.uOD, zMS.uWO, zMS.uMA, zMS.urp, zMS.uRD, zMS.urs, zMS.urm, zMS.urw] at w114
          refine z_aload_n 43 dX10_move_42 rfl rfl ?_
          refine z_aload_n 44 dX10_move_43 rfl rfl ?_
          refine z_getf (ci := 10) 47 dX10_move_44 rfl rfl zin_10 3 (by decide) zw_767 (by first | with_reducible assumption | with_reducible exact zup_same _ _ _) rfl ?_
          refine z_iload_n 48 dX10_move_47 rfl rfl ?_
          refine z_iload_n 49 dX10_move_48 rfl rfl ?_
          refine z_cV3 52 dX10_move_49 rfl kX10_moveOn zw_987 (Nat.le_of_ble_eq_true rfl) ⟨Nat.le_refl _, Nat.le_refl _⟩ (by first | with_reducible assumption | with_reducible exact zup_same _ _ _) ?_
          refine c_X10_moveOn (t := t) hW1.c112 rfl hW1.c124 (by decide) w114 hR hO hp (fun OD' R' hR' => ?_)
          have hW2 := (hW1.s124 OD').s114 R'
          have w112 := hW2.c112
          dsimp only [zMO, zMS.C, zMS.l, zMS.n, zMS.R, zMS.TR, zMS.DI, zMS.ac, zMS.nx, zMS.KP, zMS.IK, zMS.SW, zMS.ST, zMS.sn, zMS.sd, zMS.TI, zMS.WH, zMS.BG, zMS.OD, zMS.WO, zMS.MA, zMS.rp, zMS.RD, zMS.rs, zMS.rm, zMS.rw, zMS.uC, zMS.ul, zMS.un, zMS.uR, zMS.uTR, zMS.uDI, zMS.uac, zMS.unx, zMS.uKP, zMS.uIK, zMS.uSW, zMS.uST, zMS.usn, zMS.usd, zMS.uTI, zMS.uWH, zMS.uBG, zMS.uOD, zMS.uWO, zMS.uMA, zMS.urp, zMS.uRD, zMS.urs, zMS.urm, zMS.urw] at w112
          have w114 := hW2.c114
          dsimp only [zMO, zMS.C, zMS.l, zMS.n, zMS.R, zMS.TR, zMS.DI, zMS.ac, zMS.nx, zMS.KP, zMS.IK, zMS.SW, zMS.ST, zMS.sn, zMS.sd, zMS.TI, zMS.WH, zMS.BG, zMS.OD, zMS.WO, zMS.MA, zMS.rp, zMS.RD, zMS.rs, zMS.rm, zMS.rw, zMS.uC, zMS.ul, zMS.un, zMS.uR, zMS.uTR, zMS.uDI, zMS.uac, zMS.unx, zMS.uKP, zMS.uIK, zMS.uSW, zMS.uST, zMS.usn, zMS.usd, zMS.uTI, zMS.uWH, zMS.uBG, zMS.uOD, zMS.uWO, zMS.uMA, zMS.urp, zMS.uRD, zMS.urs, zMS.urm, zMS.urw] at w114
          refine z_aload_n 53 dX10_move_52 rfl rfl ?_
          refine z_aload_n 54 dX10_move_53 rfl rfl ?_
          refine z_getf (ci := 10) 57 dX10_move_54 rfl rfl zin_10 3 (by decide) zw_767 (by first | with_reducible assumption | with_reducible exact zup_same _ _ _) rfl ?_
          refine z_cV1 60 dX10_move_57 rfl kX10_lastOf zw_883 (Nat.le_of_ble_eq_true rfl) ⟨Nat.le_refl _, Nat.le_refl _⟩ (by first | with_reducible assumption | with_reducible exact zup_same _ _ _) ?_
          refine c_X10_lastOf hW2.c112 rfl (zup_same _ _ _) (by decide) hW2.c121 hR' hO' (by decide) hM (fun T1 => ?_)
          refine z_ret dX10_move_60 (by first | exact True.intro | exact Or.inl rfl | exact Or.inr rfl | exact zb_01 _ | assumption | (show _ ∨ _; omega)) ⟨Nat.le_refl _, Nat.le_refl _⟩ ?_
          exact hQ _ DI' R' k1 k2 hR' (hW2.s121 T1).mc (((hF1.up _ (by omega)).up _ (by omega)).up _ (by omega))
        · exact absurd c32 (by decide)
      · exact absurd c17 (by decide)
end MMOVE2
