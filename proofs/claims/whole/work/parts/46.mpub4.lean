/-! THE MODEL: knowers, gathered -/
section MPUB4
variable {d : Nat} {h : zH} {Q : Option zV → zH → Prop} {C : Int → Int} {l : Int} {N M : Nat} {D G E P R DI : Int → Int} {ac nx : Int} {KP IK SW ST : Int → Int} {sn sd : Int} {s : zMS}
theorem zor_z {x : Int} (hx : -2147483648 ≤ x ∧ x ≤ 2147483647) : zor x 0 = x := by
  refine zt_ext (zr_or _ _) hx (fun i hi => ?_)
  rw [zt_or, zt_0]; simp
theorem zknw_r (T : Int → Int) (t : Int) : ∀ n : Nat, -2147483648 ≤ zknw T t n ∧ zknw T t n ≤ 2147483647
  | 0 => by unfold zknw; omega
  | n + 1 => by
    unfold zknw
    split
    · exact zr_or _ _
    · exact zknw_r T t n
theorem m_knowers_no1 {k t : Int} (hW : zMC h C l ((N + 1 : Nat) : Int) R DI ac nx KP IK SW ST sn sd) (hR : R 0 = M) (hM : M ≤ 3) (hk : (-2147483648 ≤ k ∧ k ≤ 2147483647) ∧ ¬ (0 ≤ k ∧ k < M)) (hQ : Q (some (vI (-1))) h) : zC (d + 4) mX10_knowers 0 0 [vR 112, vI k, vI t] h Q := by
  obtain ⟨TR, TI, WH, BG, OD, WO, MA, RD, rp, rs, rm, rw', hW⟩ := hW
  have w112 := hW.c112
  dsimp only [zMO, zMS.C, zMS.l, zMS.n, zMS.R, zMS.TR, zMS.DI, zMS.ac, zMS.nx, zMS.KP, zMS.IK, zMS.SW, zMS.ST, zMS.sn, zMS.sd, zMS.TI, zMS.WH, zMS.BG, zMS.OD, zMS.WO, zMS.MA, zMS.rp, zMS.RD, zMS.rs, zMS.rm, zMS.rw, zMS.uC, zMS.ul, zMS.un, zMS.uR, zMS.uTR, zMS.uDI, zMS.uac, zMS.unx, zMS.uKP, zMS.uIK, zMS.uSW, zMS.uST, zMS.usn, zMS.usd, zMS.uTI, zMS.uWH, zMS.uBG, zMS.uOD, zMS.uWO, zMS.uMA, zMS.urp, zMS.uRD, zMS.urs, zMS.urm, zMS.urw] at w112
  have w114 := hW.c114
  dsimp only [zMO, zMS.C, zMS.l, zMS.n, zMS.R, zMS.TR, zMS.DI, zMS.ac, zMS.nx, zMS.KP, zMS.IK, zMS.SW, zMS.ST, zMS.sn, zMS.sd, zMS.TI, zMS.WH, zMS.BG, zMS.OD, zMS.WO, zMS.MA, zMS.rp, zMS.RD, zMS.rs, zMS.rm, zMS.rw, zMS.uC, zMS.ul, zMS.un, zMS.uR, zMS.uTR, zMS.uDI, zMS.uac, zMS.unx, zMS.uKP, zMS.uIK, zMS.uSW, zMS.uST, zMS.usn, zMS.usd, zMS.uTI, zMS.uWH, zMS.uBG, zMS.uOD, zMS.uWO, zMS.uMA, zMS.urp, zMS.uRD, zMS.urs, zMS.urm, zMS.urw] at w114
  refine zC.of zpl_X10 (Nat.le_of_ble_eq_true rfl) ?_
  refine z_iload_n 1 dX10_knowers_0 rfl rfl ?_
  refine z_i2l 2 dX10_knowers_1 rfl (by first | omega | exact zr_b _ | exact zr_and _ _ | exact zr_or _ _ | exact zr_shl _ _) ?_
  refine z_lconst 3 dX10_knowers_2 rfl ?_
  refine z_aload_n 4 dX10_knowers_3 rfl rfl ?_
  refine z_getf (ci := 10) 7 dX10_knowers_4 rfl rfl zin_10 3 (by decide) zw_767 (by first | with_reducible assumption | with_reducible exact zup_same _ _ _) rfl ?_
  refine z_iconst 8 dX10_knowers_7 rfl ?_
  refine z_iald 9 dX10_knowers_8 rfl (by first | with_reducible assumption | with_reducible exact zup_same _ _ _) (by omega) (by first | omega | exact zr_b _ | exact zr_and _ _ | exact zr_or _ _ | exact zr_shl _ _) ?_
  rw [hR]
  refine z_iconst 10 dX10_knowers_9 rfl ?_
  refine z_isub 11 dX10_knowers_10 rfl ?_
  refine z_i2l 12 dX10_knowers_11 rfl (by first | omega | exact zr_b _ | exact zr_and _ _ | exact zr_or _ _ | exact zr_shl _ _) ?_
  refine z_cS3 15 dX10_knowers_12 rfl kX10_in zw_846 (Nat.le_of_ble_eq_true rfl) ⟨Nat.le_refl _, Nat.le_refl _⟩ ?_
  refine c_X10_in (a := 0) (by omega) (by omega) (by omega) ?_
  rw [zb_f (by omega)]
  refine z_if_ne 20 18 dX10_knowers_15 (by decide) rfl (by first | omega | exact zr_b _ | exact zr_and _ _ | exact zr_or _ _ | exact zr_shl _ _) (fun c15 => ?_) (fun c15 => ?_)
  · exact absurd rfl c15
  · try replace c15 := zb_0 c15
    refine z_iconst 19 dX10_knowers_18 rfl ?_
    refine z_ret dX10_knowers_19 (by first | exact True.intro | exact Or.inl rfl | exact Or.inr rfl | exact zb_01 _ | assumption | (show _ ∨ _; omega)) ⟨Nat.le_refl _, Nat.le_refl _⟩ ?_
    exact hQ
theorem m_knowers_no2 {k t : Int} (hW : zMC h C l ((N + 1 : Nat) : Int) R DI ac nx KP IK SW ST sn sd) (hR : R 0 = M) (hM : M ≤ 3) (hk : 0 ≤ k ∧ k < M) (ht : (-2147483648 ≤ t ∧ t ≤ 2147483647) ∧ ¬ (0 ≤ t ∧ t ≤ 999)) (hQ : Q (some (vI (-2))) h) : zC (d + 4) mX10_knowers 0 0 [vR 112, vI k, vI t] h Q := by
  obtain ⟨TR, TI, WH, BG, OD, WO, MA, RD, rp, rs, rm, rw', hW⟩ := hW
  have w112 := hW.c112
  dsimp only [zMO, zMS.C, zMS.l, zMS.n, zMS.R, zMS.TR, zMS.DI, zMS.ac, zMS.nx, zMS.KP, zMS.IK, zMS.SW, zMS.ST, zMS.sn, zMS.sd, zMS.TI, zMS.WH, zMS.BG, zMS.OD, zMS.WO, zMS.MA, zMS.rp, zMS.RD, zMS.rs, zMS.rm, zMS.rw, zMS.uC, zMS.ul, zMS.un, zMS.uR, zMS.uTR, zMS.uDI, zMS.uac, zMS.unx, zMS.uKP, zMS.uIK, zMS.uSW, zMS.uST, zMS.usn, zMS.usd, zMS.uTI, zMS.uWH, zMS.uBG, zMS.uOD, zMS.uWO, zMS.uMA, zMS.urp, zMS.uRD, zMS.urs, zMS.urm, zMS.urw] at w112
  have w114 := hW.c114
  dsimp only [zMO, zMS.C, zMS.l, zMS.n, zMS.R, zMS.TR, zMS.DI, zMS.ac, zMS.nx, zMS.KP, zMS.IK, zMS.SW, zMS.ST, zMS.sn, zMS.sd, zMS.TI, zMS.WH, zMS.BG, zMS.OD, zMS.WO, zMS.MA, zMS.rp, zMS.RD, zMS.rs, zMS.rm, zMS.rw, zMS.uC, zMS.ul, zMS.un, zMS.uR, zMS.uTR, zMS.uDI, zMS.uac, zMS.unx, zMS.uKP, zMS.uIK, zMS.uSW, zMS.uST, zMS.usn, zMS.usd, zMS.uTI, zMS.uWH, zMS.uBG, zMS.uOD, zMS.uWO, zMS.uMA, zMS.urp, zMS.uRD, zMS.urs, zMS.urm, zMS.urw] at w114
  refine zC.of zpl_X10 (Nat.le_of_ble_eq_true rfl) ?_
  refine z_iload_n 1 dX10_knowers_0 rfl rfl ?_
  refine z_i2l 2 dX10_knowers_1 rfl (by first | omega | exact zr_b _ | exact zr_and _ _ | exact zr_or _ _ | exact zr_shl _ _) ?_
  refine z_lconst 3 dX10_knowers_2 rfl ?_
  refine z_aload_n 4 dX10_knowers_3 rfl rfl ?_
  refine z_getf (ci := 10) 7 dX10_knowers_4 rfl rfl zin_10 3 (by decide) zw_767 (by first | with_reducible assumption | with_reducible exact zup_same _ _ _) rfl ?_
  refine z_iconst 8 dX10_knowers_7 rfl ?_
  refine z_iald 9 dX10_knowers_8 rfl (by first | with_reducible assumption | with_reducible exact zup_same _ _ _) (by omega) (by first | omega | exact zr_b _ | exact zr_and _ _ | exact zr_or _ _ | exact zr_shl _ _) ?_
  rw [hR]
  refine z_iconst 10 dX10_knowers_9 rfl ?_
  refine z_isub 11 dX10_knowers_10 rfl ?_
  refine z_i2l 12 dX10_knowers_11 rfl (by first | omega | exact zr_b _ | exact zr_and _ _ | exact zr_or _ _ | exact zr_shl _ _) ?_
  refine z_cS3 15 dX10_knowers_12 rfl kX10_in zw_846 (Nat.le_of_ble_eq_true rfl) ⟨Nat.le_refl _, Nat.le_refl _⟩ ?_
  refine c_X10_in (a := 0) (by omega) (by omega) (by omega) ?_
  rw [zb_t (by omega)]
  refine z_if_ne 20 18 dX10_knowers_15 (by decide) rfl (by first | omega | exact zr_b _ | exact zr_and _ _ | exact zr_or _ _ | exact zr_shl _ _) (fun c15 => ?_) (fun c15 => ?_)
  · try replace c15 := zb_1 c15
    refine z_iload_n 21 dX10_knowers_20 rfl rfl ?_
    refine z_i2l 22 dX10_knowers_21 rfl (by first | omega | exact zr_b _ | exact zr_and _ _ | exact zr_or _ _ | exact zr_shl _ _) ?_
    refine z_lconst 23 dX10_knowers_22 rfl ?_
    refine z_ldc2 (x := 999) 26 dX10_knowers_23 rfl zw_1038 ?_
    refine z_cS3 29 dX10_knowers_26 rfl kX10_in zw_846 (Nat.le_of_ble_eq_true rfl) ⟨Nat.le_refl _, Nat.le_refl _⟩ ?_
    refine c_X10_in (a := 0) (by omega) (by omega) (by omega) ?_
    rw [zb_f (by omega)]
    refine z_if_ne 35 32 dX10_knowers_29 (by decide) rfl (by first | omega | exact zr_b _ | exact zr_and _ _ | exact zr_or _ _ | exact zr_shl _ _) (fun c29 => ?_) (fun c29 => ?_)
    · exact absurd rfl c29
    · try replace c29 := zb_0 c29
      refine z_bipush 34 dX10_knowers_32 rfl (by decide) ?_
      refine z_ret dX10_knowers_34 (by first | exact True.intro | exact Or.inl rfl | exact Or.inr rfl | exact zb_01 _ | assumption | (show _ ∨ _; omega)) ⟨Nat.le_refl _, Nat.le_refl _⟩ ?_
      exact hQ
  · exact absurd c15 (by decide)
theorem m_knowers {k : Nat} {t : Int} (hW : zMC h C l ((N + 1 : Nat) : Int) R DI ac nx KP IK SW ST sn sd) (hR : zRo N M D G E P R) (hO : zOK 9 N D G E P) (hM : M ≤ 3) (hk : k < M) (ht : 0 ≤ t ∧ t ≤ 999) (hQ : ∀ h' : zH, zMC h' C l ((N + 1 : Nat) : Int) R DI ac nx KP IK SW ST sn sd → zMod 112 127 h h' → Q (some (vI (zknw (fun p => zTK D G E P N M p k) t (N + 1)))) h') : zC (d + 4) mX10_knowers 0 0 [vR 112, vI k, vI t] h Q := by
  obtain ⟨TR, TI, WH, BG, OD, WO, MA, RD, rp, rs, rm, rw', hW⟩ := hW
  have hN := hO.1
  have r0 := hR.1
  have key : ∀ T' : Int → Int, (∀ (p : Int) (k : Nat), 0 ≤ p → p ≤ N → k < M → T' (3 * p + k) = zTK D G E P N M p k) → ∀ i : Nat, i ≤ N + 1 → Z (d + 4) mX10_knowers zo 48 [some (vR 112), some (vI k), some (vI t), some (vI (zknw (fun p => zTK D G E P N M p k) t i)), some (vI i)] [] (zup h 121 (zI 24 T')) Q := by
    intro T' hT
    have hW1 := hW.s121 T'
    have w112 := hW1.c112
    dsimp only [zMO, zMS.C, zMS.l, zMS.n, zMS.R, zMS.TR, zMS.DI, zMS.ac, zMS.nx, zMS.KP, zMS.IK, zMS.SW, zMS.ST, zMS.sn, zMS.sd, zMS.TI, zMS.WH, zMS.BG, zMS.OD, zMS.WO, zMS.MA, zMS.rp, zMS.RD, zMS.rs, zMS.rm, zMS.rw, zMS.uC, zMS.ul, zMS.un, zMS.uR, zMS.uTR, zMS.uDI, zMS.uac, zMS.unx, zMS.uKP, zMS.uIK, zMS.uSW, zMS.uST, zMS.usn, zMS.usd, zMS.uTI, zMS.uWH, zMS.uBG, zMS.uOD, zMS.uWO, zMS.uMA, zMS.urp, zMS.uRD, zMS.urs, zMS.urm, zMS.urw] at w112
    have w121 := hW1.c121
    dsimp only [zMO, zMS.C, zMS.l, zMS.n, zMS.R, zMS.TR, zMS.DI, zMS.ac, zMS.nx, zMS.KP, zMS.IK, zMS.SW, zMS.ST, zMS.sn, zMS.sd, zMS.TI, zMS.WH, zMS.BG, zMS.OD, zMS.WO, zMS.MA, zMS.rp, zMS.RD, zMS.rs, zMS.rm, zMS.rw, zMS.uC, zMS.ul, zMS.un, zMS.uR, zMS.uTR, zMS.uDI, zMS.uac, zMS.unx, zMS.uKP, zMS.uIK, zMS.uSW, zMS.uST, zMS.usn, zMS.usd, zMS.uTI, zMS.uWH, zMS.uBG, zMS.uOD, zMS.uWO, zMS.uMA, zMS.urp, zMS.uRD, zMS.urs, zMS.urm, zMS.urw] at w121
    refine z_loop (N + 1) ?_ ?_
    · refine z_iload 50 dX10_knowers_48 rfl rfl ?_
      refine z_aload_n 51 dX10_knowers_50 rfl rfl ?_
      refine z_getf (ci := 10) 54 dX10_knowers_51 rfl rfl zin_10 2 (by decide) zw_766 (by first | with_reducible assumption | with_reducible exact zup_same _ _ _) rfl ?_
      refine z_icmp_ge 89 57 dX10_knowers_54 (by decide) rfl (by first | omega | exact zr_b _ | exact zr_and _ _ | exact zr_or _ _ | exact zr_shl _ _) (by first | omega | exact zr_b _ | exact zr_and _ _ | exact zr_or _ _ | exact zr_shl _ _) (fun c54 => ?_) (fun c54 => ?_)
      · refine z_iload_n 90 dX10_knowers_89 rfl rfl ?_
        refine z_ret dX10_knowers_90 (by first | exact True.intro | exact Or.inl rfl | exact Or.inr rfl | exact zb_01 _ | assumption | (show _ ∨ _; omega)) ⟨Nat.le_refl _, Nat.le_refl _⟩ ?_
        exact hQ _ hW1.mc ((zMod.rf _ _ h).up _ (by omega))
      · exfalso; omega
    · intro i hi ih
      have eT := hT i k (by omega) (by omega) hk
      have b2 := zTK_b hO (by decide) hM (p := i) (k := k) (by omega) (by omega) hk
      refine z_iload 50 dX10_knowers_48 rfl rfl ?_
      refine z_aload_n 51 dX10_knowers_50 rfl rfl ?_
      refine z_getf (ci := 10) 54 dX10_knowers_51 rfl rfl zin_10 2 (by decide) zw_766 (by first | with_reducible assumption | with_reducible exact zup_same _ _ _) rfl ?_
      refine z_icmp_ge 89 57 dX10_knowers_54 (by decide) rfl (by first | omega | exact zr_b _ | exact zr_and _ _ | exact zr_or _ _ | exact zr_shl _ _) (by first | omega | exact zr_b _ | exact zr_and _ _ | exact zr_or _ _ | exact zr_shl _ _) (fun c54 => ?_) (fun c54 => ?_)
      · exfalso; omega
      · refine z_iload_n 58 dX10_knowers_57 rfl rfl ?_
        refine z_aload_n 59 dX10_knowers_58 rfl rfl ?_
        refine z_getf (ci := 10) 62 dX10_knowers_59 rfl rfl zin_10 14 (by decide) zw_778 (by first | with_reducible assumption | with_reducible exact zup_same _ _ _) rfl ?_
        refine z_iconst 63 dX10_knowers_62 rfl ?_
        refine z_iload 65 dX10_knowers_63 rfl rfl ?_
        refine z_imul 66 dX10_knowers_65 rfl ?_
        refine z_iload_n 67 dX10_knowers_66 rfl rfl ?_
        refine z_iadd 68 dX10_knowers_67 rfl ?_
        refine z_iald 69 dX10_knowers_68 rfl (by first | with_reducible assumption | with_reducible exact zup_same _ _ _) (by omega) (by first | omega | exact zr_b _ | exact zr_and _ _ | exact zr_or _ _ | exact zr_shl _ _) ?_
        rw [eT]
        refine z_iload_n 70 dX10_knowers_69 rfl rfl ?_
        refine z_icmp_gt 80 73 dX10_knowers_70 (by decide) rfl (by first | omega | exact zr_b _ | exact zr_and _ _ | exact zr_or _ _ | exact zr_shl _ _) (by first | omega | exact zr_b _ | exact zr_and _ _ | exact zr_or _ _ | exact zr_shl _ _) (fun c70 => ?_) (fun c70 => ?_)
        · rw [show zknw (fun p => zTK D G E P N M p k) t (i + 1) = zknw (fun p => zTK D G E P N M p k) t i from if_neg (Int.not_le.mpr c70)] at ih
          refine z_iconst 81 dX10_knowers_80 rfl ?_
          refine z_ior 82 dX10_knowers_81 rfl ?_
          refine z_istore_n 83 dX10_knowers_82 rfl (by decide) ?_
          refine z_iinc 86 dX10_knowers_83 rfl (by decide) rfl ?_
          refine z_goto 48 dX10_knowers_86 (by decide) ?_
          try rw [zor_z (zknw_r _ _ _)]
          exact ih
        · rw [show zknw (fun p => zTK D G E P N M p k) t (i + 1) = zor (zknw (fun p => zTK D G E P N M p k) t i) (zshl 1 i) from if_pos c70] at ih
          refine z_iconst 74 dX10_knowers_73 rfl ?_
          refine z_iload 76 dX10_knowers_74 rfl rfl ?_
          refine z_ishl 77 dX10_knowers_76 rfl ?_
          refine z_goto 81 dX10_knowers_77 (by decide) ?_
          refine z_ior 82 dX10_knowers_81 rfl ?_
          refine z_istore_n 83 dX10_knowers_82 rfl (by decide) ?_
          refine z_iinc 86 dX10_knowers_83 rfl (by decide) rfl ?_
          refine z_goto 48 dX10_knowers_86 (by decide) ?_
          try rw [zor_z (zknw_r _ _ _)]
          exact ih
  have w112 := hW.c112
  dsimp only [zMO, zMS.C, zMS.l, zMS.n, zMS.R, zMS.TR, zMS.DI, zMS.ac, zMS.nx, zMS.KP, zMS.IK, zMS.SW, zMS.ST, zMS.sn, zMS.sd, zMS.TI, zMS.WH, zMS.BG, zMS.OD, zMS.WO, zMS.MA, zMS.rp, zMS.RD, zMS.rs, zMS.rm, zMS.rw, zMS.uC, zMS.ul, zMS.un, zMS.uR, zMS.uTR, zMS.uDI, zMS.uac, zMS.unx, zMS.uKP, zMS.uIK, zMS.uSW, zMS.uST, zMS.usn, zMS.usd, zMS.uTI, zMS.uWH, zMS.uBG, zMS.uOD, zMS.uWO, zMS.uMA, zMS.urp, zMS.uRD, zMS.urs, zMS.urm, zMS.urw] at w112
  have w114 := hW.c114
  dsimp only [zMO, zMS.C, zMS.l, zMS.n, zMS.R, zMS.TR, zMS.DI, zMS.ac, zMS.nx, zMS.KP, zMS.IK, zMS.SW, zMS.ST, zMS.sn, zMS.sd, zMS.TI, zMS.WH, zMS.BG, zMS.OD, zMS.WO, zMS.MA, zMS.rp, zMS.RD, zMS.rs, zMS.rm, zMS.rw, zMS.uC, zMS.ul, zMS.un, zMS.uR, zMS.uTR, zMS.uDI, zMS.uac, zMS.unx, zMS.uKP, zMS.uIK, zMS.uSW, zMS.uST, zMS.usn, zMS.usd, zMS.uTI, zMS.uWH, zMS.uBG, zMS.uOD, zMS.uWO, zMS.uMA, zMS.urp, zMS.uRD, zMS.urs, zMS.urm, zMS.urw] at w114
  refine zC.of zpl_X10 (Nat.le_of_ble_eq_true rfl) ?_
  refine z_iload_n 1 dX10_knowers_0 rfl rfl ?_
  refine z_i2l 2 dX10_knowers_1 rfl (by first | omega | exact zr_b _ | exact zr_and _ _ | exact zr_or _ _ | exact zr_shl _ _) ?_
  refine z_lconst 3 dX10_knowers_2 rfl ?_
  refine z_aload_n 4 dX10_knowers_3 rfl rfl ?_
  refine z_getf (ci := 10) 7 dX10_knowers_4 rfl rfl zin_10 3 (by decide) zw_767 (by first | with_reducible assumption | with_reducible exact zup_same _ _ _) rfl ?_
  refine z_iconst 8 dX10_knowers_7 rfl ?_
  refine z_iald 9 dX10_knowers_8 rfl (by first | with_reducible assumption | with_reducible exact zup_same _ _ _) (by omega) (by first | omega | exact zr_b _ | exact zr_and _ _ | exact zr_or _ _ | exact zr_shl _ _) ?_
  rw [r0]
  refine z_iconst 10 dX10_knowers_9 rfl ?_
  refine z_isub 11 dX10_knowers_10 rfl ?_
  refine z_i2l 12 dX10_knowers_11 rfl (by first | omega | exact zr_b _ | exact zr_and _ _ | exact zr_or _ _ | exact zr_shl _ _) ?_
  refine z_cS3 15 dX10_knowers_12 rfl kX10_in zw_846 (Nat.le_of_ble_eq_true rfl) ⟨Nat.le_refl _, Nat.le_refl _⟩ ?_
  refine c_X10_in (a := 0) (by omega) (by omega) (by omega) ?_
  rw [zb_t (by omega)]
  refine z_if_ne 20 18 dX10_knowers_15 (by decide) rfl (by first | omega | exact zr_b _ | exact zr_and _ _ | exact zr_or _ _ | exact zr_shl _ _) (fun c15 => ?_) (fun c15 => ?_)
  · try replace c15 := zb_1 c15
    refine z_iload_n 21 dX10_knowers_20 rfl rfl ?_
    refine z_i2l 22 dX10_knowers_21 rfl (by first | omega | exact zr_b _ | exact zr_and _ _ | exact zr_or _ _ | exact zr_shl _ _) ?_
    refine z_lconst 23 dX10_knowers_22 rfl ?_
    refine z_ldc2 (x := 999) 26 dX10_knowers_23 rfl zw_1038 ?_
    refine z_cS3 29 dX10_knowers_26 rfl kX10_in zw_846 (Nat.le_of_ble_eq_true rfl) ⟨Nat.le_refl _, Nat.le_refl _⟩ ?_
    refine c_X10_in (a := 0) (by omega) (by omega) (by omega) ?_
    rw [zb_t (by omega)]
    refine z_if_ne 35 32 dX10_knowers_29 (by decide) rfl (by first | omega | exact zr_b _ | exact zr_and _ _ | exact zr_or _ _ | exact zr_shl _ _) (fun c29 => ?_) (fun c29 => ?_)
    · try replace c29 := zb_1 c29
      refine z_aload_n 36 dX10_knowers_35 rfl rfl ?_
      refine z_aload_n 37 dX10_knowers_36 rfl rfl ?_
      refine z_getf (ci := 10) 40 dX10_knowers_37 rfl rfl zin_10 3 (by decide) zw_767 (by first | with_reducible assumption | with_reducible exact zup_same _ _ _) rfl ?_
      refine z_cV1 43 dX10_knowers_40 rfl kX10_layTicks zw_891 (Nat.le_of_ble_eq_true rfl) ⟨Nat.le_refl _, Nat.le_refl _⟩ (by first | with_reducible assumption | with_reducible exact zup_same _ _ _) ?_
      refine c_X10_layTicks hW.c112 rfl w114 (by decide) hW.c121 hR hO (by decide) hM (fun T' hT => ?_)
      refine z_iconst 44 dX10_knowers_43 rfl ?_
      refine z_istore_n 45 dX10_knowers_44 rfl (by decide) ?_
      refine z_iconst 46 dX10_knowers_45 rfl ?_
      refine z_istore 48 dX10_knowers_46 rfl (by decide) ?_
      exact key T' hT 0 (Nat.zero_le _)
    · exact absurd c29 (by decide)
  · exact absurd c15 (by decide)
theorem c_X10_gathered {p : Int} (hW : zMC h C l ((N + 1 : Nat) : Int) R DI ac nx KP IK SW ST sn sd) (hR : zRo N M D G E P R) (hO : zOK 9 N D G E P) (hM : 1 ≤ M ∧ M ≤ 3) (hp : 0 ≤ p ∧ p ≤ N) (hQ : ∀ h' : zH, zMC h' C l ((N + 1 : Nat) : Int) R DI ac nx KP IK SW ST sn sd → zMod 112 127 h h' → Q (some (vI (zLAST D G E P N M - zTK D G E P N M p (M - 1)))) h') : zC (d + 4) mX10_gathered 0 0 [vR 112, vI p] h Q := by
  obtain ⟨TR, TI, WH, BG, OD, WO, MA, RD, rp, rs, rm, rw', hW⟩ := hW
  have hN := hO.1
  have r0 := hR.1
  have w112 := hW.c112
  dsimp only [zMO, zMS.C, zMS.l, zMS.n, zMS.R, zMS.TR, zMS.DI, zMS.ac, zMS.nx, zMS.KP, zMS.IK, zMS.SW, zMS.ST, zMS.sn, zMS.sd, zMS.TI, zMS.WH, zMS.BG, zMS.OD, zMS.WO, zMS.MA, zMS.rp, zMS.RD, zMS.rs, zMS.rm, zMS.rw, zMS.uC, zMS.ul, zMS.un, zMS.uR, zMS.uTR, zMS.uDI, zMS.uac, zMS.unx, zMS.uKP, zMS.uIK, zMS.uSW, zMS.uST, zMS.usn, zMS.usd, zMS.uTI, zMS.uWH, zMS.uBG, zMS.uOD, zMS.uWO, zMS.uMA, zMS.urp, zMS.uRD, zMS.urs, zMS.urm, zMS.urw] at w112
  have w114 := hW.c114
  dsimp only [zMO, zMS.C, zMS.l, zMS.n, zMS.R, zMS.TR, zMS.DI, zMS.ac, zMS.nx, zMS.KP, zMS.IK, zMS.SW, zMS.ST, zMS.sn, zMS.sd, zMS.TI, zMS.WH, zMS.BG, zMS.OD, zMS.WO, zMS.MA, zMS.rp, zMS.RD, zMS.rs, zMS.rm, zMS.rw, zMS.uC, zMS.ul, zMS.un, zMS.uR, zMS.uTR, zMS.uDI, zMS.uac, zMS.unx, zMS.uKP, zMS.uIK, zMS.uSW, zMS.uST, zMS.usn, zMS.usd, zMS.uTI, zMS.uWH, zMS.uBG, zMS.uOD, zMS.uWO, zMS.uMA, zMS.urp, zMS.uRD, zMS.urs, zMS.urm, zMS.urw] at w114
  refine zC.of zpl_X10 (Nat.le_of_ble_eq_true rfl) ?_
  refine z_aload_n 1 dX10_gathered_0 rfl rfl ?_
  refine z_aload_n 2 dX10_gathered_1 rfl rfl ?_
  refine z_getf (ci := 10) 5 dX10_gathered_2 rfl rfl zin_10 3 (by decide) zw_767 (by first | with_reducible assumption | with_reducible exact zup_same _ _ _) rfl ?_
  refine z_cV1 8 dX10_gathered_5 rfl kX10_lastOf zw_883 (Nat.le_of_ble_eq_true rfl) ⟨Nat.le_refl _, Nat.le_refl _⟩ (by first | with_reducible assumption | with_reducible exact zup_same _ _ _) ?_
  refine c_X10_lastOf hW.c112 rfl w114 (by decide) hW.c121 hR hO (by decide) hM.2 (fun T1 => ?_)
  have hW1 := hW.s121 T1
  have w112 := hW1.c112
  dsimp only [zMO, zMS.C, zMS.l, zMS.n, zMS.R, zMS.TR, zMS.DI, zMS.ac, zMS.nx, zMS.KP, zMS.IK, zMS.SW, zMS.ST, zMS.sn, zMS.sd, zMS.TI, zMS.WH, zMS.BG, zMS.OD, zMS.WO, zMS.MA, zMS.rp, zMS.RD, zMS.rs, zMS.rm, zMS.rw, zMS.uC, zMS.ul, zMS.un, zMS.uR, zMS.uTR, zMS.uDI, zMS.uac, zMS.unx, zMS.uKP, zMS.uIK, zMS.uSW, zMS.uST, zMS.usn, zMS.usd, zMS.uTI, zMS.uWH, zMS.uBG, zMS.uOD, zMS.uWO, zMS.uMA, zMS.urp, zMS.uRD, zMS.urs, zMS.urm, zMS.urw] at w112
  have w114 := hW1.c114
  dsimp only [zMO, zMS.C, zMS.l, zMS.n, zMS.R, zMS.TR, zMS.DI, zMS.ac, zMS.nx, zMS.KP, zMS.IK, zMS.SW, zMS.ST, zMS.sn, zMS.sd, zMS.TI, zMS.WH, zMS.BG, zMS.OD, zMS.WO, zMS.MA, zMS.rp, zMS.RD, zMS.rs, zMS.rm, zMS.rw, zMS.uC, zMS.ul, zMS.un, zMS.uR, zMS.uTR, zMS.uDI, zMS.uac, zMS.unx, zMS.uKP, zMS.uIK, zMS.uSW, zMS.uST, zMS.usn, zMS.usd, zMS.uTI, zMS.uWH, zMS.uBG, zMS.uOD, zMS.uWO, zMS.uMA, zMS.urp, zMS.uRD, zMS.urs, zMS.urm, zMS.urw] at w114
  refine z_istore_n 9 dX10_gathered_8 rfl (by decide) ?_
  refine z_aload_n 10 dX10_gathered_9 rfl rfl ?_
  refine z_aload_n 11 dX10_gathered_10 rfl rfl ?_
  refine z_getf (ci := 10) 14 dX10_gathered_11 rfl rfl zin_10 3 (by decide) zw_767 (by first | with_reducible assumption | with_reducible exact zup_same _ _ _) rfl ?_
  refine z_cV1 17 dX10_gathered_14 rfl kX10_layTicks zw_891 (Nat.le_of_ble_eq_true rfl) ⟨Nat.le_refl _, Nat.le_refl _⟩ (by first | with_reducible assumption | with_reducible exact zup_same _ _ _) ?_
  refine c_X10_layTicks hW1.c112 rfl hW1.c114 (by decide) hW1.c121 hR hO (by decide) hM.2 (fun T2 hT => ?_)
  have hW2 := hW1.s121 T2
  have w112 := hW2.c112
  dsimp only [zMO, zMS.C, zMS.l, zMS.n, zMS.R, zMS.TR, zMS.DI, zMS.ac, zMS.nx, zMS.KP, zMS.IK, zMS.SW, zMS.ST, zMS.sn, zMS.sd, zMS.TI, zMS.WH, zMS.BG, zMS.OD, zMS.WO, zMS.MA, zMS.rp, zMS.RD, zMS.rs, zMS.rm, zMS.rw, zMS.uC, zMS.ul, zMS.un, zMS.uR, zMS.uTR, zMS.uDI, zMS.uac, zMS.unx, zMS.uKP, zMS.uIK, zMS.uSW, zMS.uST, zMS.usn, zMS.usd, zMS.uTI, zMS.uWH, zMS.uBG, zMS.uOD, zMS.uWO, zMS.uMA, zMS.urp, zMS.uRD, zMS.urs, zMS.urm, zMS.urw] at w112
  have w114 := hW2.c114
  dsimp only [zMO, zMS.C, zMS.l, zMS.n, zMS.R, zMS.TR, zMS.DI, zMS.ac, zMS.nx, zMS.KP, zMS.IK, zMS.SW, zMS.ST, zMS.sn, zMS.sd, zMS.TI, zMS.WH, zMS.BG, zMS.OD, zMS.WO, zMS.MA, zMS.rp, zMS.RD, zMS.rs, zMS.rm, zMS.rw, zMS.uC, zMS.ul, zMS.un, zMS.uR, zMS.uTR, zMS.uDI, zMS.uac, zMS.unx, zMS.uKP, zMS.uIK, zMS.uSW, zMS.uST, zMS.usn, zMS.usd, zMS.uTI, zMS.uWH, zMS.uBG, zMS.uOD, zMS.uWO, zMS.uMA, zMS.urp, zMS.uRD, zMS.urs, zMS.urm, zMS.urw] at w114
  have w121 := hW2.c121
  dsimp only [zMO, zMS.C, zMS.l, zMS.n, zMS.R, zMS.TR, zMS.DI, zMS.ac, zMS.nx, zMS.KP, zMS.IK, zMS.SW, zMS.ST, zMS.sn, zMS.sd, zMS.TI, zMS.WH, zMS.BG, zMS.OD, zMS.WO, zMS.MA, zMS.rp, zMS.RD, zMS.rs, zMS.rm, zMS.rw, zMS.uC, zMS.ul, zMS.un, zMS.uR, zMS.uTR, zMS.uDI, zMS.uac, zMS.unx, zMS.uKP, zMS.uIK, zMS.uSW, zMS.uST, zMS.usn, zMS.usd, zMS.uTI, zMS.uWH, zMS.uBG, zMS.uOD, zMS.uWO, zMS.uMA, zMS.urp, zMS.uRD, zMS.urs, zMS.urm, zMS.urw] at w121
  refine z_iload_n 18 dX10_gathered_17 rfl rfl ?_
  refine z_aload_n 19 dX10_gathered_18 rfl rfl ?_
  refine z_getf (ci := 10) 22 dX10_gathered_19 rfl rfl zin_10 14 (by decide) zw_778 (by first | with_reducible assumption | with_reducible exact zup_same _ _ _) rfl ?_
  refine z_iconst 23 dX10_gathered_22 rfl ?_
  refine z_iload_n 24 dX10_gathered_23 rfl rfl ?_
  refine z_imul 25 dX10_gathered_24 rfl ?_
  refine z_aload_n 26 dX10_gathered_25 rfl rfl ?_
  refine z_getf (ci := 10) 29 dX10_gathered_26 rfl rfl zin_10 3 (by decide) zw_767 (by first | with_reducible assumption | with_reducible exact zup_same _ _ _) rfl ?_
  refine z_iconst 30 dX10_gathered_29 rfl ?_
  refine z_iald 31 dX10_gathered_30 rfl (by first | with_reducible assumption | with_reducible exact zup_same _ _ _) (by omega) (by first | omega | exact zr_b _ | exact zr_and _ _ | exact zr_or _ _ | exact zr_shl _ _) ?_
  rw [r0]
  refine z_iadd 32 dX10_gathered_31 rfl ?_
  refine z_iconst 33 dX10_gathered_32 rfl ?_
  refine z_isub 34 dX10_gathered_33 rfl ?_
  refine z_iald 35 dX10_gathered_34 rfl (by first | with_reducible assumption | with_reducible exact zup_same _ _ _) (by omega) (by first | omega | exact zr_b _ | exact zr_and _ _ | exact zr_or _ _ | exact zr_shl _ _) ?_
  rw [show 3 * p + (M : Int) - 1 = 3 * p + ((M - 1 : Nat) : Int) by omega, hT p (M - 1) (by omega) (by omega) (by omega)]
  refine z_isub 36 dX10_gathered_35 rfl ?_
  refine z_ret dX10_gathered_36 (by first | exact True.intro | exact Or.inl rfl | exact Or.inr rfl | exact zb_01 _ | assumption | (show _ ∨ _; omega)) ⟨Nat.le_refl _, Nat.le_refl _⟩ ?_
  exact hQ _ hW2.mc (((zMod.rf _ _ h).up _ (by omega)).up _ (by omega))
end MPUB4
