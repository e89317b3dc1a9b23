/-! THE MODEL: keep, again -/
section MKEEP
variable {d : Nat} {h : zH} {Q : Option zV → zH → Prop} {C : Int → Int} {l n : Int} {N M : Nat} {D G E P R DI : Int → Int} {ac nx : Int} {KP IK SW ST : Int → Int} {sn sd : Int}
theorem m_keep_no {i : Int} (hi : (-2147483648 ≤ i ∧ i ≤ 2147483647) ∧ ¬ (0 ≤ i ∧ i < 2)) (hQ : Q (some (vI (-1))) h) : zC (d + 4) mX10_keep 0 0 [vR 112, vI i] h Q := by
  refine zC.of zpl_X10 (Nat.le_of_ble_eq_true rfl) ?_
  refine z_iload_n 1 dX10_keep_0 rfl rfl ?_
  refine z_i2l 2 dX10_keep_1 rfl (by first | omega | exact zr_b _ | exact zr_and _ _ | exact zr_or _ _ | exact zr_shl _ _) ?_
  refine z_lconst 3 dX10_keep_2 rfl ?_
  refine z_lconst 4 dX10_keep_3 rfl ?_
  refine z_cS3 7 dX10_keep_4 rfl kX10_in zw_846 (Nat.le_of_ble_eq_true rfl) ⟨Nat.le_refl _, Nat.le_refl _⟩ ?_
  refine c_X10_in (a := 0) (b := 1) (by omega) (by omega) (by omega) ?_
  rw [zb_f (by omega)]
  refine z_if_ne 12 10 dX10_keep_7 (by decide) rfl (by first | omega | exact zr_b _ | exact zr_and _ _ | exact zr_or _ _ | exact zr_shl _ _) (fun c7 => ?_) (fun c7 => ?_)
  · exact absurd rfl c7
  · try replace c7 := zb_0 c7
    refine z_iconst 11 dX10_keep_10 rfl ?_
    refine z_ret dX10_keep_11 (by first | exact True.intro | exact Or.inl rfl | exact Or.inr rfl | exact zb_01 _ | assumption | (show _ ∨ _; omega)) ⟨Nat.le_refl _, Nat.le_refl _⟩ ?_
    exact hQ
theorem m_again_no {i : Int} (hi : (-2147483648 ≤ i ∧ i ≤ 2147483647) ∧ ¬ (0 ≤ i ∧ i < 2)) (hQ : Q (some (vI (-1))) h) : zC (d + 4) mX10_again 0 0 [vR 112, vI i] h Q := by
  refine zC.of zpl_X10 (Nat.le_of_ble_eq_true rfl) ?_
  refine z_iload_n 1 dX10_again_0 rfl rfl ?_
  refine z_i2l 2 dX10_again_1 rfl (by first | omega | exact zr_b _ | exact zr_and _ _ | exact zr_or _ _ | exact zr_shl _ _) ?_
  refine z_lconst 3 dX10_again_2 rfl ?_
  refine z_lconst 4 dX10_again_3 rfl ?_
  refine z_cS3 7 dX10_again_4 rfl kX10_in zw_846 (Nat.le_of_ble_eq_true rfl) ⟨Nat.le_refl _, Nat.le_refl _⟩ ?_
  refine c_X10_in (a := 0) (b := 1) (by omega) (by omega) (by omega) ?_
  rw [zb_f (by omega)]
  refine z_if_ne 12 10 dX10_again_7 (by decide) rfl (by first | omega | exact zr_b _ | exact zr_and _ _ | exact zr_or _ _ | exact zr_shl _ _) (fun c7 => ?_) (fun c7 => ?_)
  · exact absurd rfl c7
  · try replace c7 := zb_0 c7
    refine z_iconst 11 dX10_again_10 rfl ?_
    refine z_ret dX10_again_11 (by first | exact True.intro | exact Or.inl rfl | exact Or.inr rfl | exact zb_01 _ | assumption | (show _ ∨ _; omega)) ⟨Nat.le_refl _, Nat.le_refl _⟩ ?_
    exact hQ
theorem m_again_late {i : Int} (hW : zMC h C l n R DI ac nx KP IK SW ST sn sd) (hi : 0 ≤ i ∧ i < 2) (hk : IK i = 0) (hQ : Q (some (vI (-3))) h) : zC (d + 4) mX10_again 0 0 [vR 112, vI i] h Q := by
  obtain ⟨TR, TI, WH, BG, OD, WO, MA, RD, rp, rs, rm, rw', hW⟩ := hW
  have w112 := hW.c112
  dsimp only [zMO, zMS.C, zMS.l, zMS.n, zMS.R, zMS.TR, zMS.DI, zMS.ac, zMS.nx, zMS.KP, zMS.IK, zMS.SW, zMS.ST, zMS.sn, zMS.sd, zMS.TI, zMS.WH, zMS.BG, zMS.OD, zMS.WO, zMS.MA, zMS.rp, zMS.RD, zMS.rs, zMS.rm, zMS.rw, zMS.uC, zMS.ul, zMS.un, zMS.uR, zMS.uTR, zMS.uDI, zMS.uac, zMS.unx, zMS.uKP, zMS.uIK, zMS.uSW, zMS.uST, zMS.usn, zMS.usd, zMS.uTI, zMS.uWH, zMS.uBG, zMS.uOD, zMS.uWO, zMS.uMA, zMS.urp, zMS.uRD, zMS.urs, zMS.urm, zMS.urw] at w112
  have w118 := hW.c118
  dsimp only [zMO, zMS.C, zMS.l, zMS.n, zMS.R, zMS.TR, zMS.DI, zMS.ac, zMS.nx, zMS.KP, zMS.IK, zMS.SW, zMS.ST, zMS.sn, zMS.sd, zMS.TI, zMS.WH, zMS.BG, zMS.OD, zMS.WO, zMS.MA, zMS.rp, zMS.RD, zMS.rs, zMS.rm, zMS.rw, zMS.uC, zMS.ul, zMS.un, zMS.uR, zMS.uTR, zMS.uDI, zMS.uac, zMS.unx, zMS.uKP, zMS.uIK, zMS.uSW, zMS.uST, zMS.usn, zMS.usd, zMS.uTI, zMS.uWH, zMS.uBG, zMS.uOD, zMS.uWO, zMS.uMA, zMS.urp, zMS.uRD, zMS.urs, zMS.urm, zMS.urw] at w118
  refine zC.of zpl_X10 (Nat.le_of_ble_eq_true rfl) ?_
  refine z_iload_n 1 dX10_again_0 rfl rfl ?_
  refine z_i2l 2 dX10_again_1 rfl (by first | omega | exact zr_b _ | exact zr_and _ _ | exact zr_or _ _ | exact zr_shl _ _) ?_
  refine z_lconst 3 dX10_again_2 rfl ?_
  refine z_lconst 4 dX10_again_3 rfl ?_
  refine z_cS3 7 dX10_again_4 rfl kX10_in zw_846 (Nat.le_of_ble_eq_true rfl) ⟨Nat.le_refl _, Nat.le_refl _⟩ ?_
  refine c_X10_in (a := 0) (b := 1) (by omega) (by omega) (by omega) ?_
  rw [zb_t (by omega)]
  refine z_if_ne 12 10 dX10_again_7 (by decide) rfl (by first | omega | exact zr_b _ | exact zr_and _ _ | exact zr_or _ _ | exact zr_shl _ _) (fun c7 => ?_) (fun c7 => ?_)
  · try replace c7 := zb_1 c7
    refine z_aload_n 13 dX10_again_12 rfl rfl ?_
    refine z_getf (ci := 10) 16 dX10_again_13 rfl rfl zin_10 9 (by decide) zw_773 (by first | with_reducible assumption | with_reducible exact zup_same _ _ _) rfl ?_
    refine z_iload_n 17 dX10_again_16 rfl rfl ?_
    refine z_bald 18 dX10_again_17 rfl (by first | with_reducible assumption | with_reducible exact zup_same _ _ _) (by omega) (by first | omega | exact zr_b _ | exact zr_and _ _ | exact zr_or _ _ | exact zr_shl _ _) ?_
    rw [hk]
    refine z_if_ne 24 21 dX10_again_18 (by decide) rfl (by first | omega | exact zr_b _ | exact zr_and _ _ | exact zr_or _ _ | exact zr_shl _ _) (fun c18 => ?_) (fun c18 => ?_)
    · exact absurd rfl c18
    · try replace c18 := zb_0 c18
      refine z_bipush 23 dX10_again_21 rfl (by decide) ?_
      refine z_ret dX10_again_23 (by first | exact True.intro | exact Or.inl rfl | exact Or.inr rfl | exact zb_01 _ | assumption | (show _ ∨ _; omega)) ⟨Nat.le_refl _, Nat.le_refl _⟩ ?_
      exact hQ
  · exact absurd c7 (by decide)
theorem m_again {i : Int} (hW : zMC h C l ((N + 1 : Nat) : Int) R DI ac nx KP IK SW ST sn sd) (hi : 0 ≤ i ∧ i < 2) (hk : IK i = 1) (hR : zRo N M D G E P (fun k => KP (33 * i + k))) (hO : zOK 9 N D G E P) (hM : M ≤ 3)
    (hQ : ∀ (h' : zH) (R' : Int → Int), (∀ k : Int, 0 ≤ k → k < 33 → R' k = KP (33 * i + k)) → zMC h' C l ((N + 1 : Nat) : Int) R' DI 0 nx KP IK SW ST sn sd → zMod 112 127 h h' → Q (some (vI (zLAST D G E P N M))) h') : zC (d + 4) mX10_again 0 0 [vR 112, vI i] h Q := by
  obtain ⟨TR, TI, WH, BG, OD, WO, MA, RD, rp, rs, rm, rw', hW⟩ := hW
  have key : ∀ j : Nat, j ≤ 33 → ∀ R' : Int → Int, (∀ k : Int, 0 ≤ k → k < j → R' k = KP (33 * i + k)) → Z (d + 4) mX10_again zo 26 [some (vR 112), some (vI i), some (vI j)] [] (zup h 114 (zI 33 R')) Q := by
    refine z_loop 33 ?_ ?_
    · intro R' k1
      have hW1 := hW.s114 R'
      have hW2 := hW1.f_ac 0
      have hN := hO.1
      have hR' : zRo N M D G E P R' := by
        obtain ⟨r0, r1, r2, r3⟩ := hR
        exact ⟨by rw [k1 _ (by omega) (by omega)]; exact r0, fun p p0 p1 => ⟨by rw [k1 _ (by omega) (by omega)]; exact (r1 p p0 p1).1, by rw [k1 _ (by omega) (by omega)]; exact (r1 p p0 p1).2⟩, fun p p0 p1 => by rw [k1 _ (by omega) (by omega)]; exact r2 p p0 p1, fun k hk => by rw [k1 _ (by omega) (by omega)]; exact r3 k hk⟩
      have w112 := hW1.c112
      dsimp only [zMO, zMS.C, zMS.l, zMS.n, zMS.R, zMS.TR, zMS.DI, zMS.ac, zMS.nx, zMS.KP, zMS.IK, zMS.SW, zMS.ST, zMS.sn, zMS.sd, zMS.TI, zMS.WH, zMS.BG, zMS.OD, zMS.WO, zMS.MA, zMS.rp, zMS.RD, zMS.rs, zMS.rm, zMS.rw, zMS.uC, zMS.ul, zMS.un, zMS.uR, zMS.uTR, zMS.uDI, zMS.uac, zMS.unx, zMS.uKP, zMS.uIK, zMS.uSW, zMS.uST, zMS.usn, zMS.usd, zMS.uTI, zMS.uWH, zMS.uBG, zMS.uOD, zMS.uWO, zMS.uMA, zMS.urp, zMS.uRD, zMS.urs, zMS.urm, zMS.urw] at w112
      have w112 := hW2.c112
      dsimp only [zMO, zMS.C, zMS.l, zMS.n, zMS.R, zMS.TR, zMS.DI, zMS.ac, zMS.nx, zMS.KP, zMS.IK, zMS.SW, zMS.ST, zMS.sn, zMS.sd, zMS.TI, zMS.WH, zMS.BG, zMS.OD, zMS.WO, zMS.MA, zMS.rp, zMS.RD, zMS.rs, zMS.rm, zMS.rw, zMS.uC, zMS.ul, zMS.un, zMS.uR, zMS.uTR, zMS.uDI, zMS.uac, zMS.unx, zMS.uKP, zMS.uIK, zMS.uSW, zMS.uST, zMS.usn, zMS.usd, zMS.uTI, zMS.uWH, zMS.uBG, zMS.uOD, zMS.uWO, zMS.uMA, zMS.urp, zMS.uRD, zMS.urs, zMS.urm, zMS.urw] at w112
      refine z_iload_n 27 dX10_again_26 rfl rfl ?_
      refine z_bipush 29 dX10_again_27 rfl (by decide) ?_
      refine z_icmp_ge 55 32 dX10_again_29 (by decide) rfl (by first | omega | exact zr_b _ | exact zr_and _ _ | exact zr_or _ _ | exact zr_shl _ _) (by first | omega | exact zr_b _ | exact zr_and _ _ | exact zr_or _ _ | exact zr_shl _ _) (fun c29 => ?_) (fun c29 => ?_)
      · refine z_aload_n 56 dX10_again_55 rfl rfl ?_
        refine z_iconst 57 dX10_again_56 rfl ?_
        refine z_putf (ci := 10) 60 dX10_again_57 rfl rfl zin_10 tyX10_ok nmX10 6 (by decide) zw_770 rfl (fun _ => ⟨rfl, rfl⟩) (by omega) (by first | with_reducible assumption | with_reducible exact zup_same _ _ _) (Nat.le_of_ble_eq_true rfl) ?_
        refine z_aload_n 61 dX10_again_60 rfl rfl ?_
        refine z_aload_n 62 dX10_again_61 rfl rfl ?_
        refine z_getf (ci := 10) 65 dX10_again_62 rfl rfl zin_10 3 (by decide) zw_767 (by first | with_reducible assumption | with_reducible exact zup_same _ _ _) rfl ?_
        refine z_cV1 68 dX10_again_65 rfl kX10_lastOf zw_883 (Nat.le_of_ble_eq_true rfl) ⟨Nat.le_refl _, Nat.le_refl _⟩ (by first | with_reducible assumption | with_reducible exact zup_same _ _ _) ?_
        refine c_X10_lastOf hW2.c112 rfl hW2.c114 (by decide) hW2.c121 hR' hO (by decide) hM (fun T1 => ?_)
        refine z_ret dX10_again_68 (by first | exact True.intro | exact Or.inl rfl | exact Or.inr rfl | exact zb_01 _ | assumption | (show _ ∨ _; omega)) ⟨Nat.le_refl _, Nat.le_refl _⟩ ?_
        exact hQ _ R' k1 (hW2.s121 T1).mc ((((zMod.rf _ _ h).up _ (by omega)).up _ (by omega)).up _ (by omega))
      · exfalso; omega
    · intro j hj ih R' k1
      have hW1 := hW.s114 R'
      have w112 := hW1.c112
      dsimp only [zMO, zMS.C, zMS.l, zMS.n, zMS.R, zMS.TR, zMS.DI, zMS.ac, zMS.nx, zMS.KP, zMS.IK, zMS.SW, zMS.ST, zMS.sn, zMS.sd, zMS.TI, zMS.WH, zMS.BG, zMS.OD, zMS.WO, zMS.MA, zMS.rp, zMS.RD, zMS.rs, zMS.rm, zMS.rw, zMS.uC, zMS.ul, zMS.un, zMS.uR, zMS.uTR, zMS.uDI, zMS.uac, zMS.unx, zMS.uKP, zMS.uIK, zMS.uSW, zMS.uST, zMS.usn, zMS.usd, zMS.uTI, zMS.uWH, zMS.uBG, zMS.uOD, zMS.uWO, zMS.uMA, zMS.urp, zMS.uRD, zMS.urs, zMS.urm, zMS.urw] at w112
      have w117 := hW1.c117
      dsimp only [zMO, zMS.C, zMS.l, zMS.n, zMS.R, zMS.TR, zMS.DI, zMS.ac, zMS.nx, zMS.KP, zMS.IK, zMS.SW, zMS.ST, zMS.sn, zMS.sd, zMS.TI, zMS.WH, zMS.BG, zMS.OD, zMS.WO, zMS.MA, zMS.rp, zMS.RD, zMS.rs, zMS.rm, zMS.rw, zMS.uC, zMS.ul, zMS.un, zMS.uR, zMS.uTR, zMS.uDI, zMS.uac, zMS.unx, zMS.uKP, zMS.uIK, zMS.uSW, zMS.uST, zMS.usn, zMS.usd, zMS.uTI, zMS.uWH, zMS.uBG, zMS.uOD, zMS.uWO, zMS.uMA, zMS.urp, zMS.uRD, zMS.urs, zMS.urm, zMS.urw] at w117
      refine z_iload_n 27 dX10_again_26 rfl rfl ?_
      refine z_bipush 29 dX10_again_27 rfl (by decide) ?_
      refine z_icmp_ge 55 32 dX10_again_29 (by decide) rfl (by first | omega | exact zr_b _ | exact zr_and _ _ | exact zr_or _ _ | exact zr_shl _ _) (by first | omega | exact zr_b _ | exact zr_and _ _ | exact zr_or _ _ | exact zr_shl _ _) (fun c29 => ?_) (fun c29 => ?_)
      · exfalso; omega
      · refine z_aload_n 33 dX10_again_32 rfl rfl ?_
        refine z_getf (ci := 10) 36 dX10_again_33 rfl rfl zin_10 3 (by decide) zw_767 (by first | with_reducible assumption | with_reducible exact zup_same _ _ _) rfl ?_
        refine z_iload_n 37 dX10_again_36 rfl rfl ?_
        refine z_aload_n 38 dX10_again_37 rfl rfl ?_
        refine z_getf (ci := 10) 41 dX10_again_38 rfl rfl zin_10 8 (by decide) zw_772 (by first | with_reducible assumption | with_reducible exact zup_same _ _ _) rfl ?_
        refine z_bipush 43 dX10_again_41 rfl (by decide) ?_
        refine z_iload_n 44 dX10_again_43 rfl rfl ?_
        refine z_imul 45 dX10_again_44 rfl ?_
        refine z_iload_n 46 dX10_again_45 rfl rfl ?_
        refine z_iadd 47 dX10_again_46 rfl ?_
        refine z_iald 48 dX10_again_47 rfl (by first | with_reducible assumption | with_reducible exact zup_same _ _ _) (by omega) (by first | omega | exact zr_b _ | exact zr_and _ _ | exact zr_or _ _ | exact zr_shl _ _) ?_
        refine z_iast 49 dX10_again_48 rfl (by omega) (by first | with_reducible assumption | with_reducible exact zup_same _ _ _) (by omega) (by first | omega | exact zr_b _ | exact zr_and _ _ | exact zr_or _ _ | exact zr_shl _ _) ?_
        refine z_iinc 52 dX10_again_49 rfl (by decide) rfl ?_
        refine z_goto 26 dX10_again_52 (by decide) ?_
        have k := ih (zst R' j (KP (33 * i + j))) (fun q h1 h2 => by
          by_cases e : q = j
          · subst e; exact zst_same _ _ _
          · rw [zst_ne _ _ (by omega)]; exact k1 q h1 (by omega))
        rw [← zup_zup h 114 (zI 33 R')] at k
        exact k
  have w112 := hW.c112
  dsimp only [zMO, zMS.C, zMS.l, zMS.n, zMS.R, zMS.TR, zMS.DI, zMS.ac, zMS.nx, zMS.KP, zMS.IK, zMS.SW, zMS.ST, zMS.sn, zMS.sd, zMS.TI, zMS.WH, zMS.BG, zMS.OD, zMS.WO, zMS.MA, zMS.rp, zMS.RD, zMS.rs, zMS.rm, zMS.rw, zMS.uC, zMS.ul, zMS.un, zMS.uR, zMS.uTR, zMS.uDI, zMS.uac, zMS.unx, zMS.uKP, zMS.uIK, zMS.uSW, zMS.uST, zMS.usn, zMS.usd, zMS.uTI, zMS.uWH, zMS.uBG, zMS.uOD, zMS.uWO, zMS.uMA, zMS.urp, zMS.uRD, zMS.urs, zMS.urm, zMS.urw] at w112
  have w118 := hW.c118
  dsimp only [zMO, zMS.C, zMS.l, zMS.n, zMS.R, zMS.TR, zMS.DI, zMS.ac, zMS.nx, zMS.KP, zMS.IK, zMS.SW, zMS.ST, zMS.sn, zMS.sd, zMS.TI, zMS.WH, zMS.BG, zMS.OD, zMS.WO, zMS.MA, zMS.rp, zMS.RD, zMS.rs, zMS.rm, zMS.rw, zMS.uC, zMS.ul, zMS.un, zMS.uR, zMS.uTR, zMS.uDI, zMS.uac, zMS.unx, zMS.uKP, zMS.uIK, zMS.uSW, zMS.uST, zMS.usn, zMS.usd, zMS.uTI, zMS.uWH, zMS.uBG, zMS.uOD, zMS.uWO, zMS.uMA, zMS.urp, zMS.uRD, zMS.urs, zMS.urm, zMS.urw] at w118
  refine zC.of zpl_X10 (Nat.le_of_ble_eq_true rfl) ?_
  refine z_iload_n 1 dX10_again_0 rfl rfl ?_
  refine z_i2l 2 dX10_again_1 rfl (by first | omega | exact zr_b _ | exact zr_and _ _ | exact zr_or _ _ | exact zr_shl _ _) ?_
  refine z_lconst 3 dX10_again_2 rfl ?_
  refine z_lconst 4 dX10_again_3 rfl ?_
  refine z_cS3 7 dX10_again_4 rfl kX10_in zw_846 (Nat.le_of_ble_eq_true rfl) ⟨Nat.le_refl _, Nat.le_refl _⟩ ?_
  refine c_X10_in (a := 0) (b := 1) (by omega) (by omega) (by omega) ?_
  rw [zb_t (by omega)]
  refine z_if_ne 12 10 dX10_again_7 (by decide) rfl (by first | omega | exact zr_b _ | exact zr_and _ _ | exact zr_or _ _ | exact zr_shl _ _) (fun c7 => ?_) (fun c7 => ?_)
  · try replace c7 := zb_1 c7
    refine z_aload_n 13 dX10_again_12 rfl rfl ?_
    refine z_getf (ci := 10) 16 dX10_again_13 rfl rfl zin_10 9 (by decide) zw_773 (by first | with_reducible assumption | with_reducible exact zup_same _ _ _) rfl ?_
    refine z_iload_n 17 dX10_again_16 rfl rfl ?_
    refine z_bald 18 dX10_again_17 rfl (by first | with_reducible assumption | with_reducible exact zup_same _ _ _) (by omega) (by first | omega | exact zr_b _ | exact zr_and _ _ | exact zr_or _ _ | exact zr_shl _ _) ?_
    rw [hk]
    refine z_if_ne 24 21 dX10_again_18 (by decide) rfl (by first | omega | exact zr_b _ | exact zr_and _ _ | exact zr_or _ _ | exact zr_shl _ _) (fun c18 => ?_) (fun c18 => ?_)
    · try replace c18 := zb_1 c18
      refine z_iconst 25 dX10_again_24 rfl ?_
      refine z_istore_n 26 dX10_again_25 rfl (by decide) ?_
      have k := key 0 (by omega) R (fun q h1 h2 => by exfalso; omega)
      rw [zup_self h hW.c114] at k
      exact k
    · exact absurd c18 (by decide)
  · exact absurd c7 (by decide)
theorem m_keep {i : Int} (hW : zMC h C l ((N + 1 : Nat) : Int) R DI ac nx KP IK SW ST sn sd) (hi : 0 ≤ i ∧ i < 2) (hR : zRo N M D G E P R) (hO : zOK 9 N D G E P) (hM : M ≤ 3)
    (hQ : ∀ (h' : zH) (KP' : Int → Int), (∀ k : Int, 0 ≤ k → k < 33 → KP' (33 * i + k) = R k) → (∀ q : Int, (q < 33 * i ∨ 33 * i + 33 ≤ q) → KP' q = KP q) → zMC h' C l ((N + 1 : Nat) : Int) R DI ac nx KP' (zst IK i 1) SW ST sn sd → zMod 112 127 h h' → Q (some (vI (zLAST D G E P N M))) h') : zC (d + 4) mX10_keep 0 0 [vR 112, vI i] h Q := by
  obtain ⟨TR, TI, WH, BG, OD, WO, MA, RD, rp, rs, rm, rw', hW⟩ := hW
  have hW0 := hW.s118 (zst IK i 1)
  have key : ∀ j : Nat, j ≤ 33 → ∀ KP' : Int → Int, (∀ k : Int, 0 ≤ k → k < j → KP' (33 * i + k) = R k) → (∀ q : Int, (q < 33 * i ∨ 33 * i + 33 ≤ q) → KP' q = KP q) → Z (d + 4) mX10_keep zo 21 [some (vR 112), some (vI i), some (vI j)] [] (zup (zup h 118 (zB 2 (zst IK i 1))) 117 (zI 66 KP')) Q := by
    refine z_loop 33 ?_ ?_
    · intro KP' k1 k2
      have hW1 := hW0.s117 KP'
      have w112 := hW1.c112
      dsimp only [zMO, zMS.C, zMS.l, zMS.n, zMS.R, zMS.TR, zMS.DI, zMS.ac, zMS.nx, zMS.KP, zMS.IK, zMS.SW, zMS.ST, zMS.sn, zMS.sd, zMS.TI, zMS.WH, zMS.BG, zMS.OD, zMS.WO, zMS.MA, zMS.rp, zMS.RD, zMS.rs, zMS.rm, zMS.rw, zMS.uC, zMS.ul, zMS.un, zMS.uR, zMS.uTR, zMS.uDI, zMS.uac, zMS.unx, zMS.uKP, zMS.uIK, zMS.uSW, zMS.uST, zMS.usn, zMS.usd, zMS.uTI, zMS.uWH, zMS.uBG, zMS.uOD, zMS.uWO, zMS.uMA, zMS.urp, zMS.uRD, zMS.urs, zMS.urm, zMS.urw] at w112
      refine z_iload_n 22 dX10_keep_21 rfl rfl ?_
      refine z_bipush 24 dX10_keep_22 rfl (by decide) ?_
      refine z_icmp_ge 50 27 dX10_keep_24 (by decide) rfl (by first | omega | exact zr_b _ | exact zr_and _ _ | exact zr_or _ _ | exact zr_shl _ _) (by first | omega | exact zr_b _ | exact zr_and _ _ | exact zr_or _ _ | exact zr_shl _ _) (fun c24 => ?_) (fun c24 => ?_)
      · refine z_aload_n 51 dX10_keep_50 rfl rfl ?_
        refine z_aload_n 52 dX10_keep_51 rfl rfl ?_
        refine z_getf (ci := 10) 55 dX10_keep_52 rfl rfl zin_10 3 (by decide) zw_767 (by first | with_reducible assumption | with_reducible exact zup_same _ _ _) rfl ?_
        refine z_cV1 58 dX10_keep_55 rfl kX10_lastOf zw_883 (Nat.le_of_ble_eq_true rfl) ⟨Nat.le_refl _, Nat.le_refl _⟩ (by first | with_reducible assumption | with_reducible exact zup_same _ _ _) ?_
        refine c_X10_lastOf hW1.c112 rfl hW1.c114 (by decide) hW1.c121 hR hO (by decide) hM (fun T1 => ?_)
        refine z_ret dX10_keep_58 (by first | exact True.intro | exact Or.inl rfl | exact Or.inr rfl | exact zb_01 _ | assumption | (show _ ∨ _; omega)) ⟨Nat.le_refl _, Nat.le_refl _⟩ ?_
        exact hQ _ KP' k1 k2 (hW1.s121 T1).mc ((((zMod.rf _ _ h).up _ (by omega)).up _ (by omega)).up _ (by omega))
      · exfalso; omega
    · intro j hj ih KP' k1 k2
      have hW1 := hW0.s117 KP'
      have w112 := hW1.c112
      dsimp only [zMO, zMS.C, zMS.l, zMS.n, zMS.R, zMS.TR, zMS.DI, zMS.ac, zMS.nx, zMS.KP, zMS.IK, zMS.SW, zMS.ST, zMS.sn, zMS.sd, zMS.TI, zMS.WH, zMS.BG, zMS.OD, zMS.WO, zMS.MA, zMS.rp, zMS.RD, zMS.rs, zMS.rm, zMS.rw, zMS.uC, zMS.ul, zMS.un, zMS.uR, zMS.uTR, zMS.uDI, zMS.uac, zMS.unx, zMS.uKP, zMS.uIK, zMS.uSW, zMS.uST, zMS.usn, zMS.usd, zMS.uTI, zMS.uWH, zMS.uBG, zMS.uOD, zMS.uWO, zMS.uMA, zMS.urp, zMS.uRD, zMS.urs, zMS.urm, zMS.urw] at w112
      have w114 := hW1.c114
      dsimp only [zMO, zMS.C, zMS.l, zMS.n, zMS.R, zMS.TR, zMS.DI, zMS.ac, zMS.nx, zMS.KP, zMS.IK, zMS.SW, zMS.ST, zMS.sn, zMS.sd, zMS.TI, zMS.WH, zMS.BG, zMS.OD, zMS.WO, zMS.MA, zMS.rp, zMS.RD, zMS.rs, zMS.rm, zMS.rw, zMS.uC, zMS.ul, zMS.un, zMS.uR, zMS.uTR, zMS.uDI, zMS.uac, zMS.unx, zMS.uKP, zMS.uIK, zMS.uSW, zMS.uST, zMS.usn, zMS.usd, zMS.uTI, zMS.uWH, zMS.uBG, zMS.uOD, zMS.uWO, zMS.uMA, zMS.urp, zMS.uRD, zMS.urs, zMS.urm, zMS.urw] at w114
      refine z_iload_n 22 dX10_keep_21 rfl rfl ?_
      refine z_bipush 24 dX10_keep_22 rfl (by decide) ?_
      refine z_icmp_ge 50 27 dX10_keep_24 (by decide) rfl (by first | omega | exact zr_b _ | exact zr_and _ _ | exact zr_or _ _ | exact zr_shl _ _) (by first | omega | exact zr_b _ | exact zr_and _ _ | exact zr_or _ _ | exact zr_shl _ _) (fun c24 => ?_) (fun c24 => ?_)
      · exfalso; omega
      · refine z_aload_n 28 dX10_keep_27 rfl rfl ?_
        refine z_getf (ci := 10) 31 dX10_keep_28 rfl rfl zin_10 8 (by decide) zw_772 (by first | with_reducible assumption | with_reducible exact zup_same _ _ _) rfl ?_
        refine z_bipush 33 dX10_keep_31 rfl (by decide) ?_
        refine z_iload_n 34 dX10_keep_33 rfl rfl ?_
        refine z_imul 35 dX10_keep_34 rfl ?_
        refine z_iload_n 36 dX10_keep_35 rfl rfl ?_
        refine z_iadd 37 dX10_keep_36 rfl ?_
        refine z_aload_n 38 dX10_keep_37 rfl rfl ?_
        refine z_getf (ci := 10) 41 dX10_keep_38 rfl rfl zin_10 3 (by decide) zw_767 (by first | with_reducible assumption | with_reducible exact zup_same _ _ _) rfl ?_
        refine z_iload_n 42 dX10_keep_41 rfl rfl ?_
        refine z_iald 43 dX10_keep_42 rfl (by first | with_reducible assumption | with_reducible exact zup_same _ _ _) (by omega) (by first | omega | exact zr_b _ | exact zr_and _ _ | exact zr_or _ _ | exact zr_shl _ _) ?_
        refine z_iast 44 dX10_keep_43 rfl (by omega) (by first | with_reducible assumption | with_reducible exact zup_same _ _ _) (by omega) (by first | omega | exact zr_b _ | exact zr_and _ _ | exact zr_or _ _ | exact zr_shl _ _) ?_
        refine z_iinc 47 dX10_keep_44 rfl (by decide) rfl ?_
        refine z_goto 21 dX10_keep_47 (by decide) ?_
        have k := ih (zst KP' (33 * i + j) (R j)) (fun q h1 h2 => by
          by_cases e : q = j
          · subst e; exact zst_same _ _ _
          · rw [zst_ne _ _ (by omega)]; exact k1 q h1 (by omega)) (fun q hq => by rw [zst_ne _ _ (by omega)]; exact k2 q hq)
        rw [← zup_zup _ 117 (zI 66 KP')] at k
        exact k
  have w112 := hW.c112
  dsimp only [zMO, zMS.C, zMS.l, zMS.n, zMS.R, zMS.TR, zMS.DI, zMS.ac, zMS.nx, zMS.KP, zMS.IK, zMS.SW, zMS.ST, zMS.sn, zMS.sd, zMS.TI, zMS.WH, zMS.BG, zMS.OD, zMS.WO, zMS.MA, zMS.rp, zMS.RD, zMS.rs, zMS.rm, zMS.rw, zMS.uC, zMS.ul, zMS.un, zMS.uR, zMS.uTR, zMS.uDI, zMS.uac, zMS.unx, zMS.uKP, zMS.uIK, zMS.uSW, zMS.uST, zMS.usn, zMS.usd, zMS.uTI, zMS.uWH, zMS.uBG, zMS.uOD, zMS.uWO, zMS.uMA, zMS.urp, zMS.uRD, zMS.urs, zMS.urm, zMS.urw] at w112
  have w118 := hW.c118
  dsimp only [zMO, zMS.C, zMS.l, zMS.n, zMS.R, zMS.TR, zMS.DI, zMS.ac, zMS.nx, zMS.KP, zMS.IK, zMS.SW, zMS.ST, zMS.sn, zMS.sd, zMS.TI, zMS.WH, zMS.BG, zMS.OD, zMS.WO, zMS.MA, zMS.rp, zMS.RD, zMS.rs, zMS.rm, zMS.rw, zMS.uC, zMS.ul, zMS.un, zMS.uR, zMS.uTR, zMS.uDI, zMS.uac, zMS.unx, zMS.uKP, zMS.uIK, zMS.uSW, zMS.uST, zMS.usn, zMS.usd, zMS.uTI, zMS.uWH, zMS.uBG, zMS.uOD, zMS.uWO, zMS.uMA, zMS.urp, zMS.uRD, zMS.urs, zMS.urm, zMS.urw] at w118
  refine zC.of zpl_X10 (Nat.le_of_ble_eq_true rfl) ?_
  refine z_iload_n 1 dX10_keep_0 rfl rfl ?_
  refine z_i2l 2 dX10_keep_1 rfl (by first | omega | exact zr_b _ | exact zr_and _ _ | exact zr_or _ _ | exact zr_shl _ _) ?_
  refine z_lconst 3 dX10_keep_2 rfl ?_
  refine z_lconst 4 dX10_keep_3 rfl ?_
  refine z_cS3 7 dX10_keep_4 rfl kX10_in zw_846 (Nat.le_of_ble_eq_true rfl) ⟨Nat.le_refl _, Nat.le_refl _⟩ ?_
  refine c_X10_in (a := 0) (b := 1) (by omega) (by omega) (by omega) ?_
  rw [zb_t (by omega)]
  refine z_if_ne 12 10 dX10_keep_7 (by decide) rfl (by first | omega | exact zr_b _ | exact zr_and _ _ | exact zr_or _ _ | exact zr_shl _ _) (fun c7 => ?_) (fun c7 => ?_)
  · try replace c7 := zb_1 c7
    refine z_aload_n 13 dX10_keep_12 rfl rfl ?_
    refine z_getf (ci := 10) 16 dX10_keep_13 rfl rfl zin_10 9 (by decide) zw_773 (by first | with_reducible assumption | with_reducible exact zup_same _ _ _) rfl ?_
    refine z_iload_n 17 dX10_keep_16 rfl rfl ?_
    refine z_iconst 18 dX10_keep_17 rfl ?_
    refine z_bast 19 dX10_keep_18 rfl (by omega) (by first | with_reducible assumption | with_reducible exact zup_same _ _ _) (by omega) (by first | omega | exact zr_b _ | exact zr_and _ _ | exact zr_or _ _ | exact zr_shl _ _) (by first | exact Or.inl rfl | exact Or.inr rfl) ?_
    refine z_iconst 20 dX10_keep_19 rfl ?_
    refine z_istore_n 21 dX10_keep_20 rfl (by decide) ?_
    have k := key 0 (by omega) KP (fun q h1 h2 => by exfalso; omega) (fun q _ => rfl)
    rw [zup_self _ hW0.c117] at k
    exact k
  · exact absurd c7 (by decide)
end MKEEP
