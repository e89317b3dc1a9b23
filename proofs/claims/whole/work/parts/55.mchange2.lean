/-! THE MODEL: change, whole -/
section MCHANGE2
variable {d : Nat} {h : zH} {Q : Option zV → zH → Prop} {C : Int → Int} {l : Int} {N M : Nat} {D G E P R DI : Int → Int} {ac nx : Int} {KP IK SW ST : Int → Int} {sn sd : Int} {s : zMS}
theorem m_change_no1 {i : Int} (hW : zMC h C l ((N + 1 : Nat) : Int) R DI ac nx KP IK SW ST sn sd) (hN : N ≤ 7) (hi : (-2147483648 ≤ i ∧ i ≤ 2147483647) ∧ ¬ (0 ≤ i ∧ i + 1 < N)) (hQ : Q (some (vI (-1))) h) : zC (d + 4) mX10_change 0 0 [vR 112, vI i] h Q := by
  obtain ⟨TR, TI, WH, BG, OD, WO, MA, RD, rp, rs, rm, rw', hW⟩ := hW
  have w112 := hW.c112
  dsimp only [zMO, zMS.C, zMS.l, zMS.n, zMS.R, zMS.TR, zMS.DI, zMS.ac, zMS.nx, zMS.KP, zMS.IK, zMS.SW, zMS.ST, zMS.sn, zMS.sd, zMS.TI, zMS.WH, zMS.BG, zMS.OD, zMS.WO, zMS.MA, zMS.rp, zMS.RD, zMS.rs, zMS.rm, zMS.rw, zMS.uC, zMS.ul, zMS.un, zMS.uR, zMS.uTR, zMS.uDI, zMS.uac, zMS.unx, zMS.uKP, zMS.uIK, zMS.uSW, zMS.uST, zMS.usn, zMS.usd, zMS.uTI, zMS.uWH, zMS.uBG, zMS.uOD, zMS.uWO, zMS.uMA, zMS.urp, zMS.uRD, zMS.urs, zMS.urm, zMS.urw] at w112
  refine zC.of zpl_X10 (Nat.le_of_ble_eq_true rfl) ?_
  refine z_aload_n 1 dX10_change_0 rfl rfl ?_
  refine z_iload_n 2 dX10_change_1 rfl rfl ?_
  refine z_cV1 5 dX10_change_2 rfl kX10_isPair zw_995 (Nat.le_of_ble_eq_true rfl) ⟨Nat.le_refl _, Nat.le_refl _⟩ (by first | with_reducible assumption | with_reducible exact zup_same _ _ _) ?_
  refine c_X10_isPair hW.c112 (by show 1 ≤ ((N + 1 : Nat) : Int) ∧ ((N + 1 : Nat) : Int) ≤ 8; omega) (by omega) ?_
  rw [zb_f (by show ¬ (0 ≤ i ∧ i < ((N + 1 : Nat) : Int) - 2); omega)]
  refine z_if_ne 10 8 dX10_change_5 (by decide) rfl (by first | omega | exact zr_b _ | exact zr_and _ _ | exact zr_or _ _ | exact zr_shl _ _) (fun c5 => ?_) (fun c5 => ?_)
  · exact absurd rfl c5
  · try replace c5 := zb_0 c5
    refine z_iconst 9 dX10_change_8 rfl ?_
    refine z_ret dX10_change_9 (by first | exact True.intro | exact Or.inl rfl | exact Or.inr rfl | exact zb_01 _ | assumption | (show _ ∨ _; omega)) ⟨Nat.le_refl _, Nat.le_refl _⟩ ?_
    exact hQ
theorem m_change_no2 {i : Int} (hW : zMC h C l ((N + 1 : Nat) : Int) R DI ac nx KP IK SW ST sn sd) (hR : zRo N M D G E P R) (hO : zOK 9 N D G E P) (hi : 0 ≤ i ∧ i + 1 < N) (he : E (P (i + 1)) = P i) (hQ : Q (some (vI (-3))) h) : zC (d + 4) mX10_change 0 0 [vR 112, vI i] h Q := by
  obtain ⟨TR, TI, WH, BG, OD, WO, MA, RD, rp, rs, rm, rw', hW⟩ := hW
  have hN := hO.1
  have w112 := hW.c112
  dsimp only [zMO, zMS.C, zMS.l, zMS.n, zMS.R, zMS.TR, zMS.DI, zMS.ac, zMS.nx, zMS.KP, zMS.IK, zMS.SW, zMS.ST, zMS.sn, zMS.sd, zMS.TI, zMS.WH, zMS.BG, zMS.OD, zMS.WO, zMS.MA, zMS.rp, zMS.RD, zMS.rs, zMS.rm, zMS.rw, zMS.uC, zMS.ul, zMS.un, zMS.uR, zMS.uTR, zMS.uDI, zMS.uac, zMS.unx, zMS.uKP, zMS.uIK, zMS.uSW, zMS.uST, zMS.usn, zMS.usd, zMS.uTI, zMS.uWH, zMS.uBG, zMS.uOD, zMS.uWO, zMS.uMA, zMS.urp, zMS.uRD, zMS.urs, zMS.urm, zMS.urw] at w112
  have w114 := hW.c114
  dsimp only [zMO, zMS.C, zMS.l, zMS.n, zMS.R, zMS.TR, zMS.DI, zMS.ac, zMS.nx, zMS.KP, zMS.IK, zMS.SW, zMS.ST, zMS.sn, zMS.sd, zMS.TI, zMS.WH, zMS.BG, zMS.OD, zMS.WO, zMS.MA, zMS.rp, zMS.RD, zMS.rs, zMS.rm, zMS.rw, zMS.uC, zMS.ul, zMS.un, zMS.uR, zMS.uTR, zMS.uDI, zMS.uac, zMS.unx, zMS.uKP, zMS.uIK, zMS.uSW, zMS.uST, zMS.usn, zMS.usd, zMS.uTI, zMS.uWH, zMS.uBG, zMS.uOD, zMS.uWO, zMS.uMA, zMS.urp, zMS.uRD, zMS.urs, zMS.urm, zMS.urw] at w114
  refine zC.of zpl_X10 (Nat.le_of_ble_eq_true rfl) ?_
  refine z_aload_n 1 dX10_change_0 rfl rfl ?_
  refine z_iload_n 2 dX10_change_1 rfl rfl ?_
  refine z_cV1 5 dX10_change_2 rfl kX10_isPair zw_995 (Nat.le_of_ble_eq_true rfl) ⟨Nat.le_refl _, Nat.le_refl _⟩ (by first | with_reducible assumption | with_reducible exact zup_same _ _ _) ?_
  refine c_X10_isPair hW.c112 (by show 1 ≤ ((N + 1 : Nat) : Int) ∧ ((N + 1 : Nat) : Int) ≤ 8; omega) (by omega) ?_
  rw [zb_t (by show 0 ≤ i ∧ i < ((N + 1 : Nat) : Int) - 2; omega)]
  refine z_if_ne 10 8 dX10_change_5 (by decide) rfl (by first | omega | exact zr_b _ | exact zr_and _ _ | exact zr_or _ _ | exact zr_shl _ _) (fun c5 => ?_) (fun c5 => ?_)
  · try replace c5 := zb_1 c5
    refine z_aload_n 11 dX10_change_10 rfl rfl ?_
    refine z_getf (ci := 10) 14 dX10_change_11 rfl rfl zin_10 3 (by decide) zw_767 (by first | with_reducible assumption | with_reducible exact zup_same _ _ _) rfl ?_
    refine z_iload_n 15 dX10_change_14 rfl rfl ?_
    refine z_cS2 18 dX10_change_15 rfl kX10_mayChange zw_999 (Nat.le_of_ble_eq_true rfl) ⟨Nat.le_refl _, Nat.le_refl _⟩ ?_
    refine c_X10_mayChange w114 hR hO hi ?_
    rw [zb_f (fun q => q he)]
    refine z_if_ne 24 21 dX10_change_18 (by decide) rfl (by first | omega | exact zr_b _ | exact zr_and _ _ | exact zr_or _ _ | exact zr_shl _ _) (fun c18 => ?_) (fun c18 => ?_)
    · exact absurd rfl c18
    · try replace c18 := zb_0 c18
      refine z_bipush 23 dX10_change_21 rfl (by decide) ?_
      refine z_ret dX10_change_23 (by first | exact True.intro | exact Or.inl rfl | exact Or.inr rfl | exact zb_01 _ | assumption | (show _ ∨ _; omega)) ⟨Nat.le_refl _, Nat.le_refl _⟩ ?_
      exact hQ
  · exact absurd c5 (by decide)
theorem m_change {i : Int} (hW : zMC h C l ((N + 1 : Nat) : Int) R DI ac nx KP IK SW ST sn sd) (hR : zRo N M D G E P R) (hO : zOK 9 N D G E P) (hM : M ≤ 3) (hi : 0 ≤ i ∧ i + 1 < N) (he : E (P (i + 1)) ≠ P i) (ha : 0 ≤ ac ∧ ac ≤ 14) (hx : 0 ≤ nx ∧ nx < 14)
    (hQ : ∀ (h' : zH) (DI' R' : Int → Int), (∀ k : Int, 0 ≤ k → k < 33 → DI' (33 * nx + k) = R k) → (∀ q : Int, (q < 33 * nx ∨ 33 * nx + 33 ≤ q) → DI' q = DI q) → zRo N M D G E (zst (zst P i (P (i + 1))) (i + 1) (P i)) R' → zMC h' C l ((N + 1 : Nat) : Int) R' DI' (if ac < 14 then ac + 1 else 14) ((nx + 1) % 14) KP IK SW ST sn sd → zMod 112 127 h h' → Q (some (vI (zLAST D G E (zst (zst P i (P (i + 1))) (i + 1) (P i)) N M))) h') : zC (d + 4) mX10_change 0 0 [vR 112, vI i] h Q := by
  have hW0 := hW
  obtain ⟨TR, TI, WH, BG, OD, WO, MA, RD, rp, rs, rm, rw', hW⟩ := hW
  have hN := hO.1
  have hO' : zOK 9 N D G E (zst (zst P i (P (i + 1))) (i + 1) (P i)) := by
    have k := zchange_ok hO (i := i.toNat) (by omega) (by rw [Int.toNat_of_nonneg hi.1]; exact he)
    rw [Int.toNat_of_nonneg hi.1] at k
    exact k
  have w112 := hW.c112
  dsimp only [zMO, zMS.C, zMS.l, zMS.n, zMS.R, zMS.TR, zMS.DI, zMS.ac, zMS.nx, zMS.KP, zMS.IK, zMS.SW, zMS.ST, zMS.sn, zMS.sd, zMS.TI, zMS.WH, zMS.BG, zMS.OD, zMS.WO, zMS.MA, zMS.rp, zMS.RD, zMS.rs, zMS.rm, zMS.rw, zMS.uC, zMS.ul, zMS.un, zMS.uR, zMS.uTR, zMS.uDI, zMS.uac, zMS.unx, zMS.uKP, zMS.uIK, zMS.uSW, zMS.uST, zMS.usn, zMS.usd, zMS.uTI, zMS.uWH, zMS.uBG, zMS.uOD, zMS.uWO, zMS.uMA, zMS.urp, zMS.uRD, zMS.urs, zMS.urm, zMS.urw] at w112
  have w114 := hW.c114
  dsimp only [zMO, zMS.C, zMS.l, zMS.n, zMS.R, zMS.TR, zMS.DI, zMS.ac, zMS.nx, zMS.KP, zMS.IK, zMS.SW, zMS.ST, zMS.sn, zMS.sd, zMS.TI, zMS.WH, zMS.BG, zMS.OD, zMS.WO, zMS.MA, zMS.rp, zMS.RD, zMS.rs, zMS.rm, zMS.rw, zMS.uC, zMS.ul, zMS.un, zMS.uR, zMS.uTR, zMS.uDI, zMS.uac, zMS.unx, zMS.uKP, zMS.uIK, zMS.uSW, zMS.uST, zMS.usn, zMS.usd, zMS.uTI, zMS.uWH, zMS.uBG, zMS.uOD, zMS.uWO, zMS.uMA, zMS.urp, zMS.uRD, zMS.urs, zMS.urm, zMS.urw] at w114
  refine zC.of zpl_X10 (Nat.le_of_ble_eq_true rfl) ?_
  refine z_aload_n 1 dX10_change_0 rfl rfl ?_
  refine z_iload_n 2 dX10_change_1 rfl rfl ?_
  refine z_cV1 5 dX10_change_2 rfl kX10_isPair zw_995 (Nat.le_of_ble_eq_true rfl) ⟨Nat.le_refl _, Nat.le_refl _⟩ (by first | with_reducible assumption | with_reducible exact zup_same _ _ _) ?_
  refine c_X10_isPair hW.c112 (by show 1 ≤ ((N + 1 : Nat) : Int) ∧ ((N + 1 : Nat) : Int) ≤ 8; omega) (by omega) ?_
  rw [zb_t (by show 0 ≤ i ∧ i < ((N + 1 : Nat) : Int) - 2; omega)]
  refine z_if_ne 10 8 dX10_change_5 (by decide) rfl (by first | omega | exact zr_b _ | exact zr_and _ _ | exact zr_or _ _ | exact zr_shl _ _) (fun c5 => ?_) (fun c5 => ?_)
  · try replace c5 := zb_1 c5
    refine z_aload_n 11 dX10_change_10 rfl rfl ?_
    refine z_getf (ci := 10) 14 dX10_change_11 rfl rfl zin_10 3 (by decide) zw_767 (by first | with_reducible assumption | with_reducible exact zup_same _ _ _) rfl ?_
    refine z_iload_n 15 dX10_change_14 rfl rfl ?_
    refine z_cS2 18 dX10_change_15 rfl kX10_mayChange zw_999 (Nat.le_of_ble_eq_true rfl) ⟨Nat.le_refl _, Nat.le_refl _⟩ ?_
    refine c_X10_mayChange w114 hR hO hi ?_
    rw [zb_t he]
    refine z_if_ne 24 21 dX10_change_18 (by decide) rfl (by first | omega | exact zr_b _ | exact zr_and _ _ | exact zr_or _ _ | exact zr_shl _ _) (fun c18 => ?_) (fun c18 => ?_)
    · try replace c18 := zb_1 c18
      refine z_aload_n 25 dX10_change_24 rfl rfl ?_
      refine z_cV0 28 dX10_change_25 rfl kX10_note zw_983 (Nat.le_of_ble_eq_true rfl) ⟨Nat.le_refl _, Nat.le_refl _⟩ (by first | with_reducible assumption | with_reducible exact zup_same _ _ _) ?_
      refine c_X10_note hW0 ha hx (fun h1 DI' k1 k2 hW1 hF1 => ?_)
      obtain ⟨TR, TI, WH, BG, OD, WO, MA, RD, rp, rs, rm, rw', hW1⟩ := hW1
      have w112 := hW1.c112
      dsimp only [zMO, zMS.C, zMS.l, zMS.n, zMS.R, zMS.TR, zMS.DI, zMS.ac, zMS.nx, zMS.KP, zMS.IK, zMS.SW, zMS.ST, zMS.sn, zMS.sd, zMS.TI, zMS.WH, zMS.BG, zMS.OD, zMS.WO, zMS.MA, zMS.rp, zMS.RD, zMS.rs, zMS.rm, zMS.rw, zMS.uC, zMS.ul, zMS.un, zMS.uR, zMS.uTR, zMS.uDI, zMS.uac, zMS.unx, zMS.uKP, zMS.uIK, zMS.uSW, zMS.uST, zMS.usn, zMS.usd, zMS.uTI, zMS.uWH, zMS.uBG, zMS.uOD, zMS.uWO, zMS.uMA, zMS.urp, zMS.uRD, zMS.urs, zMS.urm, zMS.urw] at w112
      have w114 := hW1.c114
      dsimp only [zMO, zMS.C, zMS.l, zMS.n, zMS.R, zMS.TR, zMS.DI, zMS.ac, zMS.nx, zMS.KP, zMS.IK, zMS.SW, zMS.ST, zMS.sn, zMS.sd, zMS.TI, zMS.WH, zMS.BG, zMS.OD, zMS.WO, zMS.MA, zMS.rp, zMS.RD, zMS.rs, zMS.rm, zMS.rw, zMS.uC, zMS.ul, zMS.un, zMS.uR, zMS.uTR, zMS.uDI, zMS.uac, zMS.unx, zMS.uKP, zMS.uIK, zMS.uSW, zMS.uST, zMS.usn, zMS.usd, zMS.uTI, zMS.uWH, zMS.uBG, zMS.uOD, zMS.uWO, zMS.uMA, zMS.urp, zMS.uRD, zMS.urs, zMS.urm, zMS.urw] at w114
      refine z_aload_n 29 dX10_change_28 rfl rfl ?_
      refine z_getf (ci := 10) 32 dX10_change_29 rfl rfl zin_10 3 (by decide) zw_767 (by first | with_reducible assumption | with_reducible exact zup_same _ _ _) rfl ?_
      refine z_iload_n 33 dX10_change_32 rfl rfl ?_
      refine z_cS2 36 dX10_change_33 rfl kX10_changeOn zw_1002 (Nat.le_of_ble_eq_true rfl) ⟨Nat.le_refl _, Nat.le_refl _⟩ ?_
      refine c_X10_changeOn (by decide) (R := R) hW1.c114 (by omega) ?_
      have hW2 := hW1.s114 (zst (zst R (25 + i) (R (25 + i + 1))) (25 + i + 1) (R (25 + i)))
      have w112 := hW2.c112
      dsimp only [zMO, zMS.C, zMS.l, zMS.n, zMS.R, zMS.TR, zMS.DI, zMS.ac, zMS.nx, zMS.KP, zMS.IK, zMS.SW, zMS.ST, zMS.sn, zMS.sd, zMS.TI, zMS.WH, zMS.BG, zMS.OD, zMS.WO, zMS.MA, zMS.rp, zMS.RD, zMS.rs, zMS.rm, zMS.rw, zMS.uC, zMS.ul, zMS.un, zMS.uR, zMS.uTR, zMS.uDI, zMS.uac, zMS.unx, zMS.uKP, zMS.uIK, zMS.uSW, zMS.uST, zMS.usn, zMS.usd, zMS.uTI, zMS.uWH, zMS.uBG, zMS.uOD, zMS.uWO, zMS.uMA, zMS.urp, zMS.uRD, zMS.urs, zMS.urm, zMS.urw] at w112
      have w114 := hW2.c114
      dsimp only [zMO, zMS.C, zMS.l, zMS.n, zMS.R, zMS.TR, zMS.DI, zMS.ac, zMS.nx, zMS.KP, zMS.IK, zMS.SW, zMS.ST, zMS.sn, zMS.sd, zMS.TI, zMS.WH, zMS.BG, zMS.OD, zMS.WO, zMS.MA, zMS.rp, zMS.RD, zMS.rs, zMS.rm, zMS.rw, zMS.uC, zMS.ul, zMS.un, zMS.uR, zMS.uTR, zMS.uDI, zMS.uac, zMS.unx, zMS.uKP, zMS.uIK, zMS.uSW, zMS.uST, zMS.usn, zMS.usd, zMS.uTI, zMS.uWH, zMS.uBG, zMS.uOD, zMS.uWO, zMS.uMA, zMS.urp, zMS.uRD, zMS.urs, zMS.urm, zMS.urw] at w114
      refine z_aload_n 37 dX10_change_36 rfl rfl ?_
      refine z_aload_n 38 dX10_change_37 rfl rfl ?_
      refine z_getf (ci := 10) 41 dX10_change_38 rfl rfl zin_10 3 (by decide) zw_767 (by first | with_reducible assumption | with_reducible exact zup_same _ _ _) rfl ?_
      refine z_cV1 44 dX10_change_41 rfl kX10_lastOf zw_883 (Nat.le_of_ble_eq_true rfl) ⟨Nat.le_refl _, Nat.le_refl _⟩ (by first | with_reducible assumption | with_reducible exact zup_same _ _ _) ?_
      refine c_X10_lastOf hW2.c112 rfl (zup_same _ _ _) (by decide) hW2.c121 (hR.chg hN hi) hO' (by decide) hM (fun T1 => ?_)
      refine z_ret dX10_change_44 (by first | exact True.intro | exact Or.inl rfl | exact Or.inr rfl | exact zb_01 _ | assumption | (show _ ∨ _; omega)) ⟨Nat.le_refl _, Nat.le_refl _⟩ ?_
      exact hQ _ DI' _ k1 k2 (hR.chg hN hi) (hW2.s121 T1).mc ((hF1.up _ (by omega)).up _ (by omega))
    · exact absurd c18 (by decide)
  · exact absurd c5 (by decide)
end MCHANGE2
