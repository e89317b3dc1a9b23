/-! THE MODEL: what is asked of it, ticks -/
section MPUB2
variable {d : Nat} {h : zH} {Q : Option zV → zH → Prop} {C : Int → Int} {l : Int} {N M : Nat} {D G E P R DI : Int → Int} {ac nx : Int} {KP IK SW ST : Int → Int} {sn sd : Int} {s : zMS}
theorem m_last_no {k : Int} (hW : zMC h C l ((N + 1 : Nat) : Int) R DI ac nx KP IK SW ST sn sd) (hR : R 0 = M) (hM : M ≤ 3) (hk : (-2147483648 ≤ k ∧ k ≤ 2147483647) ∧ ¬ (0 ≤ k ∧ k < M)) (hQ : Q (some (vI (-1))) h) : zC (d + 4) mX10_last 0 0 [vR 112, vI k] h Q := by
  obtain ⟨TR, TI, WH, BG, OD, WO, MA, RD, rp, rs, rm, rw', hW⟩ := hW
  have w112 := hW.c112
  dsimp only [zMO, zMS.C, zMS.l, zMS.n, zMS.R, zMS.TR, zMS.DI, zMS.ac, zMS.nx, zMS.KP, zMS.IK, zMS.SW, zMS.ST, zMS.sn, zMS.sd, zMS.TI, zMS.WH, zMS.BG, zMS.OD, zMS.WO, zMS.MA, zMS.rp, zMS.RD, zMS.rs, zMS.rm, zMS.rw, zMS.uC, zMS.ul, zMS.un, zMS.uR, zMS.uTR, zMS.uDI, zMS.uac, zMS.unx, zMS.uKP, zMS.uIK, zMS.uSW, zMS.uST, zMS.usn, zMS.usd, zMS.uTI, zMS.uWH, zMS.uBG, zMS.uOD, zMS.uWO, zMS.uMA, zMS.urp, zMS.uRD, zMS.urs, zMS.urm, zMS.urw] at w112
  have w114 := hW.c114
  dsimp only [zMO, zMS.C, zMS.l, zMS.n, zMS.R, zMS.TR, zMS.DI, zMS.ac, zMS.nx, zMS.KP, zMS.IK, zMS.SW, zMS.ST, zMS.sn, zMS.sd, zMS.TI, zMS.WH, zMS.BG, zMS.OD, zMS.WO, zMS.MA, zMS.rp, zMS.RD, zMS.rs, zMS.rm, zMS.rw, zMS.uC, zMS.ul, zMS.un, zMS.uR, zMS.uTR, zMS.uDI, zMS.uac, zMS.unx, zMS.uKP, zMS.uIK, zMS.uSW, zMS.uST, zMS.usn, zMS.usd, zMS.uTI, zMS.uWH, zMS.uBG, zMS.uOD, zMS.uWO, zMS.uMA, zMS.urp, zMS.uRD, zMS.urs, zMS.urm, zMS.urw] at w114
  refine zC.of zpl_X10 (Nat.le_of_ble_eq_true rfl) ?_
  refine z_iload_n 1 dX10_last_0 rfl rfl ?_
  refine z_i2l 2 dX10_last_1 rfl (by first | omega | exact zr_b _ | exact zr_and _ _ | exact zr_or _ _ | exact zr_shl _ _) ?_
  refine z_lconst 3 dX10_last_2 rfl ?_
  refine z_aload_n 4 dX10_last_3 rfl rfl ?_
  refine z_getf (ci := 10) 7 dX10_last_4 rfl rfl zin_10 3 (by decide) zw_767 (by first | with_reducible assumption | with_reducible exact zup_same _ _ _) rfl ?_
  refine z_iconst 8 dX10_last_7 rfl ?_
  refine z_iald 9 dX10_last_8 rfl (by first | with_reducible assumption | with_reducible exact zup_same _ _ _) (by omega) (by first | omega | exact zr_b _ | exact zr_and _ _ | exact zr_or _ _ | exact zr_shl _ _) ?_
  rw [hR]
  refine z_iconst 10 dX10_last_9 rfl ?_
  refine z_isub 11 dX10_last_10 rfl ?_
  refine z_i2l 12 dX10_last_11 rfl (by first | omega | exact zr_b _ | exact zr_and _ _ | exact zr_or _ _ | exact zr_shl _ _) ?_
  refine z_cS3 15 dX10_last_12 rfl kX10_in zw_846 (Nat.le_of_ble_eq_true rfl) ⟨Nat.le_refl _, Nat.le_refl _⟩ ?_
  refine c_X10_in (a := 0) (by omega) (by omega) (by omega) ?_
  rw [zb_f (by omega)]
  refine z_if_eq 30 18 dX10_last_15 (by decide) rfl (by first | omega | exact zr_b _ | exact zr_and _ _ | exact zr_or _ _ | exact zr_shl _ _) (fun c15 => ?_) (fun c15 => ?_)
  · try replace c15 := zb_0 c15
    refine z_iconst 31 dX10_last_30 rfl ?_
    refine z_ret dX10_last_31 (by first | exact True.intro | exact Or.inl rfl | exact Or.inr rfl | exact zb_01 _ | assumption | (show _ ∨ _; omega)) ⟨Nat.le_refl _, Nat.le_refl _⟩ ?_
    exact hQ
  · exact absurd rfl c15
theorem m_last {k : Nat} (hW : zMC h C l ((N + 1 : Nat) : Int) R DI ac nx KP IK SW ST sn sd) (hR : zRo N M D G E P R) (hO : zOK 9 N D G E P) (hM : M ≤ 3) (hk : k < M) (hQ : ∀ h' : zH, zMC h' C l ((N + 1 : Nat) : Int) R DI ac nx KP IK SW ST sn sd → zMod 112 127 h h' → Q (some (vI (zlstk (fun p => zTK D G E P N M p k) (N + 1)))) h') : zC (d + 4) mX10_last 0 0 [vR 112, vI k] h Q := by
  obtain ⟨TR, TI, WH, BG, OD, WO, MA, RD, rp, rs, rm, rw', hW⟩ := hW
  have r0 := hR.1
  have w112 := hW.c112
  dsimp only [zMO, zMS.C, zMS.l, zMS.n, zMS.R, zMS.TR, zMS.DI, zMS.ac, zMS.nx, zMS.KP, zMS.IK, zMS.SW, zMS.ST, zMS.sn, zMS.sd, zMS.TI, zMS.WH, zMS.BG, zMS.OD, zMS.WO, zMS.MA, zMS.rp, zMS.RD, zMS.rs, zMS.rm, zMS.rw, zMS.uC, zMS.ul, zMS.un, zMS.uR, zMS.uTR, zMS.uDI, zMS.uac, zMS.unx, zMS.uKP, zMS.uIK, zMS.uSW, zMS.uST, zMS.usn, zMS.usd, zMS.uTI, zMS.uWH, zMS.uBG, zMS.uOD, zMS.uWO, zMS.uMA, zMS.urp, zMS.uRD, zMS.urs, zMS.urm, zMS.urw] at w112
  have w114 := hW.c114
  dsimp only [zMO, zMS.C, zMS.l, zMS.n, zMS.R, zMS.TR, zMS.DI, zMS.ac, zMS.nx, zMS.KP, zMS.IK, zMS.SW, zMS.ST, zMS.sn, zMS.sd, zMS.TI, zMS.WH, zMS.BG, zMS.OD, zMS.WO, zMS.MA, zMS.rp, zMS.RD, zMS.rs, zMS.rm, zMS.rw, zMS.uC, zMS.ul, zMS.un, zMS.uR, zMS.uTR, zMS.uDI, zMS.uac, zMS.unx, zMS.uKP, zMS.uIK, zMS.uSW, zMS.uST, zMS.usn, zMS.usd, zMS.uTI, zMS.uWH, zMS.uBG, zMS.uOD, zMS.uWO, zMS.uMA, zMS.urp, zMS.uRD, zMS.urs, zMS.urm, zMS.urw] at w114
  refine zC.of zpl_X10 (Nat.le_of_ble_eq_true rfl) ?_
  refine z_iload_n 1 dX10_last_0 rfl rfl ?_
  refine z_i2l 2 dX10_last_1 rfl (by first | omega | exact zr_b _ | exact zr_and _ _ | exact zr_or _ _ | exact zr_shl _ _) ?_
  refine z_lconst 3 dX10_last_2 rfl ?_
  refine z_aload_n 4 dX10_last_3 rfl rfl ?_
  refine z_getf (ci := 10) 7 dX10_last_4 rfl rfl zin_10 3 (by decide) zw_767 (by first | with_reducible assumption | with_reducible exact zup_same _ _ _) rfl ?_
  refine z_iconst 8 dX10_last_7 rfl ?_
  refine z_iald 9 dX10_last_8 rfl (by first | with_reducible assumption | with_reducible exact zup_same _ _ _) (by omega) (by first | omega | exact zr_b _ | exact zr_and _ _ | exact zr_or _ _ | exact zr_shl _ _) ?_
  rw [r0]
  refine z_iconst 10 dX10_last_9 rfl ?_
  refine z_isub 11 dX10_last_10 rfl ?_
  refine z_i2l 12 dX10_last_11 rfl (by first | omega | exact zr_b _ | exact zr_and _ _ | exact zr_or _ _ | exact zr_shl _ _) ?_
  refine z_cS3 15 dX10_last_12 rfl kX10_in zw_846 (Nat.le_of_ble_eq_true rfl) ⟨Nat.le_refl _, Nat.le_refl _⟩ ?_
  refine c_X10_in (a := 0) (by omega) (by omega) (by omega) ?_
  rw [zb_t (by omega)]
  refine z_if_eq 30 18 dX10_last_15 (by decide) rfl (by first | omega | exact zr_b _ | exact zr_and _ _ | exact zr_or _ _ | exact zr_shl _ _) (fun c15 => ?_) (fun c15 => ?_)
  · exact absurd c15 (by decide)
  · try replace c15 := zb_1 c15
    refine z_aload_n 19 dX10_last_18 rfl rfl ?_
    refine z_aload_n 20 dX10_last_19 rfl rfl ?_
    refine z_getf (ci := 10) 23 dX10_last_20 rfl rfl zin_10 3 (by decide) zw_767 (by first | with_reducible assumption | with_reducible exact zup_same _ _ _) rfl ?_
    refine z_iload_n 24 dX10_last_23 rfl rfl ?_
    refine z_cV2 27 dX10_last_24 rfl kX10_lastOfNews zw_887 (Nat.le_of_ble_eq_true rfl) ⟨Nat.le_refl _, Nat.le_refl _⟩ (by first | with_reducible assumption | with_reducible exact zup_same _ _ _) ?_
    refine c_X10_lastOfNews hW.c112 rfl w114 (by decide) hW.c121 hR hO (by decide) hM hk (fun T' hT => ?_)
    refine z_goto 31 dX10_last_27 (by decide) ?_
    refine z_ret dX10_last_31 (by first | exact True.intro | exact Or.inl rfl | exact Or.inr rfl | exact zb_01 _ | assumption | (show _ ∨ _; omega)) ⟨Nat.le_refl _, Nat.le_refl _⟩ ?_
    exact hQ _ (hW.s121 T').mc ((zMod.rf _ _ h).up _ (by omega))
theorem m_knows_no {p k : Int} (hW : zMC h C l ((N + 1 : Nat) : Int) R DI ac nx KP IK SW ST sn sd) (hR : R 0 = M) (hN : N ≤ 7) (hM : M ≤ 3) (hp : (-2147483648 ≤ p ∧ p ≤ 2147483647) ∧ (-2147483648 ≤ k ∧ k ≤ 2147483647)) (hn : ¬ ((0 ≤ p ∧ p < N + 1) ∧ (0 ≤ k ∧ k < M))) (hQ : Q (some (vI (-1))) h) : zC (d + 4) mX10_knows 0 0 [vR 112, vI p, vI k] h Q := by
  obtain ⟨TR, TI, WH, BG, OD, WO, MA, RD, rp, rs, rm, rw', hW⟩ := hW
  have w112 := hW.c112
  dsimp only [zMO, zMS.C, zMS.l, zMS.n, zMS.R, zMS.TR, zMS.DI, zMS.ac, zMS.nx, zMS.KP, zMS.IK, zMS.SW, zMS.ST, zMS.sn, zMS.sd, zMS.TI, zMS.WH, zMS.BG, zMS.OD, zMS.WO, zMS.MA, zMS.rp, zMS.RD, zMS.rs, zMS.rm, zMS.rw, zMS.uC, zMS.ul, zMS.un, zMS.uR, zMS.uTR, zMS.uDI, zMS.uac, zMS.unx, zMS.uKP, zMS.uIK, zMS.uSW, zMS.uST, zMS.usn, zMS.usd, zMS.uTI, zMS.uWH, zMS.uBG, zMS.uOD, zMS.uWO, zMS.uMA, zMS.urp, zMS.uRD, zMS.urs, zMS.urm, zMS.urw] at w112
  have w114 := hW.c114
  dsimp only [zMO, zMS.C, zMS.l, zMS.n, zMS.R, zMS.TR, zMS.DI, zMS.ac, zMS.nx, zMS.KP, zMS.IK, zMS.SW, zMS.ST, zMS.sn, zMS.sd, zMS.TI, zMS.WH, zMS.BG, zMS.OD, zMS.WO, zMS.MA, zMS.rp, zMS.RD, zMS.rs, zMS.rm, zMS.rw, zMS.uC, zMS.ul, zMS.un, zMS.uR, zMS.uTR, zMS.uDI, zMS.uac, zMS.unx, zMS.uKP, zMS.uIK, zMS.uSW, zMS.uST, zMS.usn, zMS.usd, zMS.uTI, zMS.uWH, zMS.uBG, zMS.uOD, zMS.uWO, zMS.uMA, zMS.urp, zMS.uRD, zMS.urs, zMS.urm, zMS.urw] at w114
  refine zC.of zpl_X10 (Nat.le_of_ble_eq_true rfl) ?_
  refine z_aload_n 1 dX10_knows_0 rfl rfl ?_
  refine z_iload_n 2 dX10_knows_1 rfl rfl ?_
  refine z_cV1 5 dX10_knows_2 rfl kX10_isPerson zw_939 (Nat.le_of_ble_eq_true rfl) ⟨Nat.le_refl _, Nat.le_refl _⟩ (by first | with_reducible assumption | with_reducible exact zup_same _ _ _) ?_
  refine c_X10_isPerson hW.c112 (by show 1 ≤ ((N + 1 : Nat) : Int) ∧ ((N + 1 : Nat) : Int) ≤ 8; omega) (by omega) ?_
  refine z_if_eq 26 8 dX10_knows_5 (by decide) rfl (by first | omega | exact zr_b _ | exact zr_and _ _ | exact zr_or _ _ | exact zr_shl _ _) (fun c5 => ?_) (fun c5 => ?_)
  · try replace c5 := zb_0 c5
    refine z_iconst 27 dX10_knows_26 rfl ?_
    refine z_ret dX10_knows_27 (by first | exact True.intro | exact Or.inl rfl | exact Or.inr rfl | exact zb_01 _ | assumption | (show _ ∨ _; omega)) ⟨Nat.le_refl _, Nat.le_refl _⟩ ?_
    exact hQ
  · try replace c5 := zb_1 c5
    refine z_iload_n 9 dX10_knows_8 rfl rfl ?_
    refine z_i2l 10 dX10_knows_9 rfl (by first | omega | exact zr_b _ | exact zr_and _ _ | exact zr_or _ _ | exact zr_shl _ _) ?_
    refine z_lconst 11 dX10_knows_10 rfl ?_
    refine z_aload_n 12 dX10_knows_11 rfl rfl ?_
    refine z_getf (ci := 10) 15 dX10_knows_12 rfl rfl zin_10 3 (by decide) zw_767 (by first | with_reducible assumption | with_reducible exact zup_same _ _ _) rfl ?_
    refine z_iconst 16 dX10_knows_15 rfl ?_
    refine z_iald 17 dX10_knows_16 rfl (by first | with_reducible assumption | with_reducible exact zup_same _ _ _) (by omega) (by first | omega | exact zr_b _ | exact zr_and _ _ | exact zr_or _ _ | exact zr_shl _ _) ?_
    rw [hR]
    refine z_iconst 18 dX10_knows_17 rfl ?_
    refine z_isub 19 dX10_knows_18 rfl ?_
    refine z_i2l 20 dX10_knows_19 rfl (by first | omega | exact zr_b _ | exact zr_and _ _ | exact zr_or _ _ | exact zr_shl _ _) ?_
    refine z_cS3 23 dX10_knows_20 rfl kX10_in zw_846 (Nat.le_of_ble_eq_true rfl) ⟨Nat.le_refl _, Nat.le_refl _⟩ ?_
    refine c_X10_in (a := 0) (by omega) (by omega) (by omega) ?_
    refine z_if_ne 28 26 dX10_knows_23 (by decide) rfl (by first | omega | exact zr_b _ | exact zr_and _ _ | exact zr_or _ _ | exact zr_shl _ _) (fun c23 => ?_) (fun c23 => ?_)
    · exfalso; have q1 := c5; have q2 := zb_1 c23; revert q1; show (0 ≤ p ∧ p < ((N + 1 : Nat) : Int)) → False; omega
    · try replace c23 := zb_0 c23
      refine z_iconst 27 dX10_knows_26 rfl ?_
      refine z_ret dX10_knows_27 (by first | exact True.intro | exact Or.inl rfl | exact Or.inr rfl | exact zb_01 _ | assumption | (show _ ∨ _; omega)) ⟨Nat.le_refl _, Nat.le_refl _⟩ ?_
      exact hQ
theorem m_knows {p : Int} {k : Nat} (hW : zMC h C l ((N + 1 : Nat) : Int) R DI ac nx KP IK SW ST sn sd) (hR : zRo N M D G E P R) (hO : zOK 9 N D G E P) (hM : M ≤ 3) (hp : 0 ≤ p ∧ p < N + 1) (hk : k < M) (hQ : ∀ h' : zH, zMC h' C l ((N + 1 : Nat) : Int) R DI ac nx KP IK SW ST sn sd → zMod 112 127 h h' → Q (some (vI (zTK D G E P N M p k))) h') : zC (d + 4) mX10_knows 0 0 [vR 112, vI p, vI k] h Q := by
  obtain ⟨TR, TI, WH, BG, OD, WO, MA, RD, rp, rs, rm, rw', hW⟩ := hW
  have hN := hO.1
  have r0 := hR.1
  have w112 := hW.c112
  dsimp only [zMO, zMS.C, zMS.l, zMS.n, zMS.R, zMS.TR, zMS.DI, zMS.ac, zMS.nx, zMS.KP, zMS.IK, zMS.SW, zMS.ST, zMS.sn, zMS.sd, zMS.TI, zMS.WH, zMS.BG, zMS.OD, zMS.WO, zMS.MA, zMS.rp, zMS.RD, zMS.rs, zMS.rm, zMS.rw, zMS.uC, zMS.ul, zMS.un, zMS.uR, zMS.uTR, zMS.uDI, zMS.uac, zMS.unx, zMS.uKP, zMS.uIK, zMS.uSW, zMS.uST, zMS.usn, zMS.usd, zMS.uTI, zMS.uWH, zMS.uBG, zMS.uOD, zMS.uWO, zMS.uMA, zMS.urp, zMS.uRD, zMS.urs, zMS.urm, zMS.urw] at w112
  have w114 := hW.c114
  dsimp only [zMO, zMS.C, zMS.l, zMS.n, zMS.R, zMS.TR, zMS.DI, zMS.ac, zMS.nx, zMS.KP, zMS.IK, zMS.SW, zMS.ST, zMS.sn, zMS.sd, zMS.TI, zMS.WH, zMS.BG, zMS.OD, zMS.WO, zMS.MA, zMS.rp, zMS.RD, zMS.rs, zMS.rm, zMS.rw, zMS.uC, zMS.ul, zMS.un, zMS.uR, zMS.uTR, zMS.uDI, zMS.uac, zMS.unx, zMS.uKP, zMS.uIK, zMS.uSW, zMS.uST, zMS.usn, zMS.usd, zMS.uTI, zMS.uWH, zMS.uBG, zMS.uOD, zMS.uWO, zMS.uMA, zMS.urp, zMS.uRD, zMS.urs, zMS.urm, zMS.urw] at w114
  refine zC.of zpl_X10 (Nat.le_of_ble_eq_true rfl) ?_
  refine z_aload_n 1 dX10_knows_0 rfl rfl ?_
  refine z_iload_n 2 dX10_knows_1 rfl rfl ?_
  refine z_cV1 5 dX10_knows_2 rfl kX10_isPerson zw_939 (Nat.le_of_ble_eq_true rfl) ⟨Nat.le_refl _, Nat.le_refl _⟩ (by first | with_reducible assumption | with_reducible exact zup_same _ _ _) ?_
  refine c_X10_isPerson hW.c112 (by show 1 ≤ ((N + 1 : Nat) : Int) ∧ ((N + 1 : Nat) : Int) ≤ 8; omega) (by omega) ?_
  rw [zb_t (by show 0 ≤ p ∧ p < ((N + 1 : Nat) : Int); omega)]
  refine z_if_eq 26 8 dX10_knows_5 (by decide) rfl (by first | omega | exact zr_b _ | exact zr_and _ _ | exact zr_or _ _ | exact zr_shl _ _) (fun c5 => ?_) (fun c5 => ?_)
  · exact absurd c5 (by decide)
  · try replace c5 := zb_1 c5
    refine z_iload_n 9 dX10_knows_8 rfl rfl ?_
    refine z_i2l 10 dX10_knows_9 rfl (by first | omega | exact zr_b _ | exact zr_and _ _ | exact zr_or _ _ | exact zr_shl _ _) ?_
    refine z_lconst 11 dX10_knows_10 rfl ?_
    refine z_aload_n 12 dX10_knows_11 rfl rfl ?_
    refine z_getf (ci := 10) 15 dX10_knows_12 rfl rfl zin_10 3 (by decide) zw_767 (by first | with_reducible assumption | with_reducible exact zup_same _ _ _) rfl ?_
    refine z_iconst 16 dX10_knows_15 rfl ?_
    refine z_iald 17 dX10_knows_16 rfl (by first | with_reducible assumption | with_reducible exact zup_same _ _ _) (by omega) (by first | omega | exact zr_b _ | exact zr_and _ _ | exact zr_or _ _ | exact zr_shl _ _) ?_
    rw [r0]
    refine z_iconst 18 dX10_knows_17 rfl ?_
    refine z_isub 19 dX10_knows_18 rfl ?_
    refine z_i2l 20 dX10_knows_19 rfl (by first | omega | exact zr_b _ | exact zr_and _ _ | exact zr_or _ _ | exact zr_shl _ _) ?_
    refine z_cS3 23 dX10_knows_20 rfl kX10_in zw_846 (Nat.le_of_ble_eq_true rfl) ⟨Nat.le_refl _, Nat.le_refl _⟩ ?_
    refine c_X10_in (a := 0) (by omega) (by omega) (by omega) ?_
    rw [zb_t (by omega)]
    refine z_if_ne 28 26 dX10_knows_23 (by decide) rfl (by first | omega | exact zr_b _ | exact zr_and _ _ | exact zr_or _ _ | exact zr_shl _ _) (fun c23 => ?_) (fun c23 => ?_)
    · try replace c23 := zb_1 c23
      refine z_aload_n 29 dX10_knows_28 rfl rfl ?_
      refine z_aload_n 30 dX10_knows_29 rfl rfl ?_
      refine z_getf (ci := 10) 33 dX10_knows_30 rfl rfl zin_10 3 (by decide) zw_767 (by first | with_reducible assumption | with_reducible exact zup_same _ _ _) rfl ?_
      refine z_cV1 36 dX10_knows_33 rfl kX10_layTicks zw_891 (Nat.le_of_ble_eq_true rfl) ⟨Nat.le_refl _, Nat.le_refl _⟩ (by first | with_reducible assumption | with_reducible exact zup_same _ _ _) ?_
      refine c_X10_layTicks hW.c112 rfl w114 (by decide) hW.c121 hR hO (by decide) hM (fun T' hT => ?_)
      have hW1 := hW.s121 T'
      have w112 := hW1.c112
      dsimp only [zMO, zMS.C, zMS.l, zMS.n, zMS.R, zMS.TR, zMS.DI, zMS.ac, zMS.nx, zMS.KP, zMS.IK, zMS.SW, zMS.ST, zMS.sn, zMS.sd, zMS.TI, zMS.WH, zMS.BG, zMS.OD, zMS.WO, zMS.MA, zMS.rp, zMS.RD, zMS.rs, zMS.rm, zMS.rw, zMS.uC, zMS.ul, zMS.un, zMS.uR, zMS.uTR, zMS.uDI, zMS.uac, zMS.unx, zMS.uKP, zMS.uIK, zMS.uSW, zMS.uST, zMS.usn, zMS.usd, zMS.uTI, zMS.uWH, zMS.uBG, zMS.uOD, zMS.uWO, zMS.uMA, zMS.urp, zMS.uRD, zMS.urs, zMS.urm, zMS.urw] at w112
      have w121 := hW1.c121
      dsimp only [zMO, zMS.C, zMS.l, zMS.n, zMS.R, zMS.TR, zMS.DI, zMS.ac, zMS.nx, zMS.KP, zMS.IK, zMS.SW, zMS.ST, zMS.sn, zMS.sd, zMS.TI, zMS.WH, zMS.BG, zMS.OD, zMS.WO, zMS.MA, zMS.rp, zMS.RD, zMS.rs, zMS.rm, zMS.rw, zMS.uC, zMS.ul, zMS.un, zMS.uR, zMS.uTR, zMS.uDI, zMS.uac, zMS.unx, zMS.uKP, zMS.uIK, zMS.uSW, zMS.uST, zMS.usn, zMS.usd, zMS.uTI, zMS.uWH, zMS.uBG, zMS.uOD, zMS.uWO, zMS.uMA, zMS.urp, zMS.uRD, zMS.urs, zMS.urm, zMS.urw] at w121
      refine z_aload_n 37 dX10_knows_36 rfl rfl ?_
      refine z_getf (ci := 10) 40 dX10_knows_37 rfl rfl zin_10 14 (by decide) zw_778 (by first | with_reducible assumption | with_reducible exact zup_same _ _ _) rfl ?_
      refine z_iconst 41 dX10_knows_40 rfl ?_
      refine z_iload_n 42 dX10_knows_41 rfl rfl ?_
      refine z_imul 43 dX10_knows_42 rfl ?_
      refine z_iload_n 44 dX10_knows_43 rfl rfl ?_
      refine z_iadd 45 dX10_knows_44 rfl ?_
      refine z_iald 46 dX10_knows_45 rfl (by first | with_reducible assumption | with_reducible exact zup_same _ _ _) (by omega) (by first | omega | exact zr_b _ | exact zr_and _ _ | exact zr_or _ _ | exact zr_shl _ _) ?_
      rw [hT p k (by omega) (by omega) hk]
      refine z_ret dX10_knows_46 (by first | exact True.intro | exact Or.inl rfl | exact Or.inr rfl | exact zb_01 _ | assumption | (show _ ∨ _; omega)) ⟨Nat.le_refl _, Nat.le_refl _⟩ ?_
      exact hQ _ hW1.mc ((zMod.rf _ _ h).up _ (by omega))
    · exact absurd c23 (by decide)
theorem m_about0 (hW : zMC h C l ((N + 1 : Nat) : Int) R DI ac nx KP IK SW ST sn sd) (hQ : Q (some (vI ((N + 1 : Nat) : Int))) h) : zC (d + 14) mX10_about 0 0 [vR 112, vI 0] h Q := by
  obtain ⟨TR, TI, WH, BG, OD, WO, MA, RD, rp, rs, rm, rw', hW⟩ := hW
  have w112 := hW.c112
  dsimp only [zMO, zMS.C, zMS.l, zMS.n, zMS.R, zMS.TR, zMS.DI, zMS.ac, zMS.nx, zMS.KP, zMS.IK, zMS.SW, zMS.ST, zMS.sn, zMS.sd, zMS.TI, zMS.WH, zMS.BG, zMS.OD, zMS.WO, zMS.MA, zMS.rp, zMS.RD, zMS.rs, zMS.rm, zMS.rw, zMS.uC, zMS.ul, zMS.un, zMS.uR, zMS.uTR, zMS.uDI, zMS.uac, zMS.unx, zMS.uKP, zMS.uIK, zMS.uSW, zMS.uST, zMS.usn, zMS.usd, zMS.uTI, zMS.uWH, zMS.uBG, zMS.uOD, zMS.uWO, zMS.uMA, zMS.urp, zMS.uRD, zMS.urs, zMS.urm, zMS.urw] at w112
  refine zC.of zpl_X10 (Nat.le_of_ble_eq_true rfl) ?_
  refine z_iload_n 1 dX10_about_0 rfl rfl ?_
  · refine z_tableIn 52 dX10_about_1 (by omega) (by omega) (by omega) rfl (by decide) ?_
    refine z_aload_n 53 dX10_about_52 rfl rfl ?_
    refine z_getf (ci := 10) 56 dX10_about_53 rfl rfl zin_10 2 (by decide) zw_766 (by first | with_reducible assumption | with_reducible exact zup_same _ _ _) rfl ?_
    refine z_ret dX10_about_56 (by first | exact True.intro | exact Or.inl rfl | exact Or.inr rfl | exact zb_01 _ | assumption | (show _ ∨ _; omega)) ⟨Nat.le_refl _, Nat.le_refl _⟩ ?_
    exact hQ
theorem m_about1 (hW : zMC h C l ((N + 1 : Nat) : Int) R DI ac nx KP IK SW ST sn sd) (hR : R 0 = M) (hQ : Q (some (vI M)) h) : zC (d + 14) mX10_about 0 0 [vR 112, vI 1] h Q := by
  obtain ⟨TR, TI, WH, BG, OD, WO, MA, RD, rp, rs, rm, rw', hW⟩ := hW
  have w112 := hW.c112
  dsimp only [zMO, zMS.C, zMS.l, zMS.n, zMS.R, zMS.TR, zMS.DI, zMS.ac, zMS.nx, zMS.KP, zMS.IK, zMS.SW, zMS.ST, zMS.sn, zMS.sd, zMS.TI, zMS.WH, zMS.BG, zMS.OD, zMS.WO, zMS.MA, zMS.rp, zMS.RD, zMS.rs, zMS.rm, zMS.rw, zMS.uC, zMS.ul, zMS.un, zMS.uR, zMS.uTR, zMS.uDI, zMS.uac, zMS.unx, zMS.uKP, zMS.uIK, zMS.uSW, zMS.uST, zMS.usn, zMS.usd, zMS.uTI, zMS.uWH, zMS.uBG, zMS.uOD, zMS.uWO, zMS.uMA, zMS.urp, zMS.uRD, zMS.urs, zMS.urm, zMS.urw] at w112
  have w114 := hW.c114
  dsimp only [zMO, zMS.C, zMS.l, zMS.n, zMS.R, zMS.TR, zMS.DI, zMS.ac, zMS.nx, zMS.KP, zMS.IK, zMS.SW, zMS.ST, zMS.sn, zMS.sd, zMS.TI, zMS.WH, zMS.BG, zMS.OD, zMS.WO, zMS.MA, zMS.rp, zMS.RD, zMS.rs, zMS.rm, zMS.rw, zMS.uC, zMS.ul, zMS.un, zMS.uR, zMS.uTR, zMS.uDI, zMS.uac, zMS.unx, zMS.uKP, zMS.uIK, zMS.uSW, zMS.uST, zMS.usn, zMS.usd, zMS.uTI, zMS.uWH, zMS.uBG, zMS.uOD, zMS.uWO, zMS.uMA, zMS.urp, zMS.uRD, zMS.urs, zMS.urm, zMS.urw] at w114
  refine zC.of zpl_X10 (Nat.le_of_ble_eq_true rfl) ?_
  refine z_iload_n 1 dX10_about_0 rfl rfl ?_
  · refine z_tableIn 57 dX10_about_1 (by omega) (by omega) (by omega) rfl (by decide) ?_
    refine z_aload_n 58 dX10_about_57 rfl rfl ?_
    refine z_getf (ci := 10) 61 dX10_about_58 rfl rfl zin_10 3 (by decide) zw_767 (by first | with_reducible assumption | with_reducible exact zup_same _ _ _) rfl ?_
    refine z_iconst 62 dX10_about_61 rfl ?_
    refine z_iald 63 dX10_about_62 rfl (by first | with_reducible assumption | with_reducible exact zup_same _ _ _) (by omega) (by first | omega | exact zr_b _ | exact zr_and _ _ | exact zr_or _ _ | exact zr_shl _ _) ?_
    rw [hR]
    refine z_ret dX10_about_63 (by first | exact True.intro | exact Or.inl rfl | exact Or.inr rfl | exact zb_01 _ | assumption | (show _ ∨ _; omega)) ⟨Nat.le_refl _, Nat.le_refl _⟩ ?_
    exact hQ
theorem m_about6 (hW : zMC h C l ((N + 1 : Nat) : Int) R DI ac nx KP IK SW ST sn sd) (hQ : Q (some (vI ac)) h) : zC (d + 14) mX10_about 0 0 [vR 112, vI 6] h Q := by
  obtain ⟨TR, TI, WH, BG, OD, WO, MA, RD, rp, rs, rm, rw', hW⟩ := hW
  have w112 := hW.c112
  dsimp only [zMO, zMS.C, zMS.l, zMS.n, zMS.R, zMS.TR, zMS.DI, zMS.ac, zMS.nx, zMS.KP, zMS.IK, zMS.SW, zMS.ST, zMS.sn, zMS.sd, zMS.TI, zMS.WH, zMS.BG, zMS.OD, zMS.WO, zMS.MA, zMS.rp, zMS.RD, zMS.rs, zMS.rm, zMS.rw, zMS.uC, zMS.ul, zMS.un, zMS.uR, zMS.uTR, zMS.uDI, zMS.uac, zMS.unx, zMS.uKP, zMS.uIK, zMS.uSW, zMS.uST, zMS.usn, zMS.usd, zMS.uTI, zMS.uWH, zMS.uBG, zMS.uOD, zMS.uWO, zMS.uMA, zMS.urp, zMS.uRD, zMS.urs, zMS.urm, zMS.urw] at w112
  refine zC.of zpl_X10 (Nat.le_of_ble_eq_true rfl) ?_
  refine z_iload_n 1 dX10_about_0 rfl rfl ?_
  · refine z_tableIn 134 dX10_about_1 (by omega) (by omega) (by omega) rfl (by decide) ?_
    refine z_aload_n 135 dX10_about_134 rfl rfl ?_
    refine z_getf (ci := 10) 138 dX10_about_135 rfl rfl zin_10 6 (by decide) zw_770 (by first | with_reducible assumption | with_reducible exact zup_same _ _ _) rfl ?_
    refine z_ret dX10_about_138 (by first | exact True.intro | exact Or.inl rfl | exact Or.inr rfl | exact zb_01 _ | assumption | (show _ ∨ _; omega)) ⟨Nat.le_refl _, Nat.le_refl _⟩ ?_
    exact hQ
theorem m_about7 (hW : zMC h C l ((N + 1 : Nat) : Int) R DI ac nx KP IK SW ST sn sd) (hQ : Q (some (vI sn)) h) : zC (d + 14) mX10_about 0 0 [vR 112, vI 7] h Q := by
  obtain ⟨TR, TI, WH, BG, OD, WO, MA, RD, rp, rs, rm, rw', hW⟩ := hW
  have w112 := hW.c112
  dsimp only [zMO, zMS.C, zMS.l, zMS.n, zMS.R, zMS.TR, zMS.DI, zMS.ac, zMS.nx, zMS.KP, zMS.IK, zMS.SW, zMS.ST, zMS.sn, zMS.sd, zMS.TI, zMS.WH, zMS.BG, zMS.OD, zMS.WO, zMS.MA, zMS.rp, zMS.RD, zMS.rs, zMS.rm, zMS.rw, zMS.uC, zMS.ul, zMS.un, zMS.uR, zMS.uTR, zMS.uDI, zMS.uac, zMS.unx, zMS.uKP, zMS.uIK, zMS.uSW, zMS.uST, zMS.usn, zMS.usd, zMS.uTI, zMS.uWH, zMS.uBG, zMS.uOD, zMS.uWO, zMS.uMA, zMS.urp, zMS.uRD, zMS.urs, zMS.urm, zMS.urw] at w112
  refine zC.of zpl_X10 (Nat.le_of_ble_eq_true rfl) ?_
  refine z_iload_n 1 dX10_about_0 rfl rfl ?_
  · refine z_tableIn 139 dX10_about_1 (by omega) (by omega) (by omega) rfl (by decide) ?_
    refine z_aload_n 140 dX10_about_139 rfl rfl ?_
    refine z_getf (ci := 10) 143 dX10_about_140 rfl rfl zin_10 12 (by decide) zw_776 (by first | with_reducible assumption | with_reducible exact zup_same _ _ _) rfl ?_
    refine z_ret dX10_about_143 (by first | exact True.intro | exact Or.inl rfl | exact Or.inr rfl | exact zb_01 _ | assumption | (show _ ∨ _; omega)) ⟨Nat.le_refl _, Nat.le_refl _⟩ ?_
    exact hQ
theorem m_about8 (hW : zMC h C l ((N + 1 : Nat) : Int) R DI ac nx KP IK SW ST sn sd) (hQ : Q (some (vI l)) h) : zC (d + 14) mX10_about 0 0 [vR 112, vI 8] h Q := by
  obtain ⟨TR, TI, WH, BG, OD, WO, MA, RD, rp, rs, rm, rw', hW⟩ := hW
  have w112 := hW.c112
  dsimp only [zMO, zMS.C, zMS.l, zMS.n, zMS.R, zMS.TR, zMS.DI, zMS.ac, zMS.nx, zMS.KP, zMS.IK, zMS.SW, zMS.ST, zMS.sn, zMS.sd, zMS.TI, zMS.WH, zMS.BG, zMS.OD, zMS.WO, zMS.MA, zMS.rp, zMS.RD, zMS.rs, zMS.rm, zMS.rw, zMS.uC, zMS.ul, zMS.un, zMS.uR, zMS.uTR, zMS.uDI, zMS.uac, zMS.unx, zMS.uKP, zMS.uIK, zMS.uSW, zMS.uST, zMS.usn, zMS.usd, zMS.uTI, zMS.uWH, zMS.uBG, zMS.uOD, zMS.uWO, zMS.uMA, zMS.urp, zMS.uRD, zMS.urs, zMS.urm, zMS.urw] at w112
  refine zC.of zpl_X10 (Nat.le_of_ble_eq_true rfl) ?_
  refine z_iload_n 1 dX10_about_0 rfl rfl ?_
  · refine z_tableIn 144 dX10_about_1 (by omega) (by omega) (by omega) rfl (by decide) ?_
    refine z_aload_n 145 dX10_about_144 rfl rfl ?_
    refine z_getf (ci := 10) 148 dX10_about_145 rfl rfl zin_10 1 (by decide) zw_765 (by first | with_reducible assumption | with_reducible exact zup_same _ _ _) rfl ?_
    refine z_ret dX10_about_148 (by first | exact True.intro | exact Or.inl rfl | exact Or.inr rfl | exact zb_01 _ | assumption | (show _ ∨ _; omega)) ⟨Nat.le_refl _, Nat.le_refl _⟩ ?_
    exact hQ
theorem m_about2 (hW : zMC h C l ((N + 1 : Nat) : Int) R DI ac nx KP IK SW ST sn sd) (hR : zRo N M D G E P R) (hO : zOK 9 N D G E P) (hM : M ≤ 3) (hQ : ∀ h' : zH, zMC h' C l ((N + 1 : Nat) : Int) R DI ac nx KP IK SW ST sn sd → zMod 112 127 h h' → Q (some (vI (zLAST D G E P N M))) h') : zC (d + 14) mX10_about 0 0 [vR 112, vI 2] h Q := by
  obtain ⟨TR, TI, WH, BG, OD, WO, MA, RD, rp, rs, rm, rw', hW⟩ := hW
  have w112 := hW.c112
  dsimp only [zMO, zMS.C, zMS.l, zMS.n, zMS.R, zMS.TR, zMS.DI, zMS.ac, zMS.nx, zMS.KP, zMS.IK, zMS.SW, zMS.ST, zMS.sn, zMS.sd, zMS.TI, zMS.WH, zMS.BG, zMS.OD, zMS.WO, zMS.MA, zMS.rp, zMS.RD, zMS.rs, zMS.rm, zMS.rw, zMS.uC, zMS.ul, zMS.un, zMS.uR, zMS.uTR, zMS.uDI, zMS.uac, zMS.unx, zMS.uKP, zMS.uIK, zMS.uSW, zMS.uST, zMS.usn, zMS.usd, zMS.uTI, zMS.uWH, zMS.uBG, zMS.uOD, zMS.uWO, zMS.uMA, zMS.urp, zMS.uRD, zMS.urs, zMS.urm, zMS.urw] at w112
  have w114 := hW.c114
  dsimp only [zMO, zMS.C, zMS.l, zMS.n, zMS.R, zMS.TR, zMS.DI, zMS.ac, zMS.nx, zMS.KP, zMS.IK, zMS.SW, zMS.ST, zMS.sn, zMS.sd, zMS.TI, zMS.WH, zMS.BG, zMS.OD, zMS.WO, zMS.MA, zMS.rp, zMS.RD, zMS.rs, zMS.rm, zMS.rw, zMS.uC, zMS.ul, zMS.un, zMS.uR, zMS.uTR, zMS.uDI, zMS.uac, zMS.unx, zMS.uKP, zMS.uIK, zMS.uSW, zMS.uST, zMS.usn, zMS.usd, zMS.uTI, zMS.uWH, zMS.uBG, zMS.uOD, zMS.uWO, zMS.uMA, zMS.urp, zMS.uRD, zMS.urs, zMS.urm, zMS.urw] at w114
  refine zC.of zpl_X10 (Nat.le_of_ble_eq_true rfl) ?_
  refine z_iload_n 1 dX10_about_0 rfl rfl ?_
  · refine z_tableIn 64 dX10_about_1 (by omega) (by omega) (by omega) rfl (by decide) ?_
    refine z_aload_n 65 dX10_about_64 rfl rfl ?_
    refine z_aload_n 66 dX10_about_65 rfl rfl ?_
    refine z_getf (ci := 10) 69 dX10_about_66 rfl rfl zin_10 3 (by decide) zw_767 (by first | with_reducible assumption | with_reducible exact zup_same _ _ _) rfl ?_
    refine z_cV1 72 dX10_about_69 rfl kX10_lastOf zw_883 (Nat.le_of_ble_eq_true rfl) ⟨Nat.le_refl _, Nat.le_refl _⟩ (by first | with_reducible assumption | with_reducible exact zup_same _ _ _) ?_
    refine c_X10_lastOf hW.c112 rfl w114 (by decide) hW.c121 hR hO (by decide) hM (fun T' => ?_)
    refine z_ret dX10_about_72 (by first | exact True.intro | exact Or.inl rfl | exact Or.inr rfl | exact zb_01 _ | assumption | (show _ ∨ _; omega)) ⟨Nat.le_refl _, Nat.le_refl _⟩ ?_
    exact hQ _ (hW.s121 T').mc ((zMod.rf _ _ h).up _ (by omega))
end MPUB2
