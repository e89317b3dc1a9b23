/-! THE MODEL: slack -/
section MSLACK
variable {d : Nat} {h : zH} {Q : Option zV → zH → Prop} {C : Int → Int} {l : Int} {N M : Nat} {D G E P R DI : Int → Int} {ac nx : Int} {KP IK SW ST : Int → Int} {sn sd : Int} {s : zMS}
/-- a row with one delay set -/
theorem zRo.setD (hR : zRo N M D G E P R) {F : Int → Int} (hF : ∀ i : Int, 0 ≤ i → i < 33 → F i = R i) (hN : N ≤ 7) {p v : Int} (hp : 0 ≤ p ∧ p ≤ N) : zRo N M (zst D p v) G E P (zst F (1 + p) v) := by
  obtain ⟨r0, r1, r2, r3⟩ := hR
  refine ⟨?_, fun q q0 q1 => ⟨?_, ?_⟩, fun q q0 q1 => ?_, fun k hk => ?_⟩
  · rw [zst_ne _ _ (by omega), hF _ (by omega) (by omega)]; exact r0
  · by_cases e : q = p
    · subst e; rw [zst_same, zst_same]
    · rw [zst_ne _ _ (by omega), zst_ne _ _ e, hF _ (by omega) (by omega)]; exact (r1 q q0 q1).1
  · rw [zst_ne _ _ (by omega), hF _ (by omega) (by omega)]; exact (r1 q q0 q1).2
  · rw [zst_ne _ _ (by omega), hF _ (by omega) (by omega)]; exact r2 q q0 q1
  · rw [zst_ne _ _ (by omega), hF _ (by omega) (by omega)]; exact r3 k hk
theorem c_X10_slack {p : Int} {r : Nat} (hW : zMC h C l ((N + 1 : Nat) : Int) R DI ac nx KP IK SW ST sn sd) (hR : zRo N M D G E P R) (hO : zOK 9 N D G E P) (hM : M ≤ 3) (hp : 0 ≤ p ∧ p ≤ N) (hr : ∀ j : Nat, 1 ≤ j → j ≤ 30 → (zLAST (zst D p (D p + j)) G E P N M ≤ zLAST D G E P N M ↔ j ≤ r)) (hr0 : r ≤ 30)
    (hQ : ∀ h' : zH, zMC h' C l ((N + 1 : Nat) : Int) R DI ac nx KP IK SW ST sn sd → zMod 112 127 h h' → Q (some (vI r)) h') : zC (d + 4) mX10_slack 0 0 [vR 112, vI p] h Q := by
  obtain ⟨TR, TI, WH, BG, OD, WO, MA, RD, rp, rs, rm, rw', hW⟩ := hW
  have hN := hO.1
  have hd := hO.2.1 p hp.1 hp.2
  have e0 := (hR.2.1 p hp.1 hp.2).1
  have b0 := zLAST_b hO (by decide) hM
  have key : ∀ i : Nat, i ≤ 30 → ∀ (h' : zH) (TR TI : Int → Int), zMW h' (C, l, ((N + 1 : Nat) : Int), R, TR, DI, ac, nx, KP, IK, SW, ST, sn, sd, TI, WH, BG, OD, WO, MA, rp, RD, rs, rm, rw') → zMod 112 127 h h' → Z (d + 4) mX10_slack zo 14 [some (vR 112), some (vI p), some (vI (zLAST D G E P N M)), some (vI ((min i r : Nat) : Int)), some (vI ((i : Int) + 1))] [] h' Q := by
    refine z_loop 30 ?_ ?_
    · intro h' TR TI hW hF
      refine z_iload 16 dX10_slack_14 rfl rfl ?_
      refine z_bipush 18 dX10_slack_16 rfl (by decide) ?_
      refine z_icmp_gt 70 21 dX10_slack_18 (by decide) rfl (by first | omega | exact zr_b _ | exact zr_and _ _ | exact zr_or _ _ | exact zr_shl _ _) (by first | omega | exact zr_b _ | exact zr_and _ _ | exact zr_or _ _ | exact zr_shl _ _) (fun c18 => ?_) (fun c18 => ?_)
      · refine z_iload_n 71 dX10_slack_70 rfl rfl ?_
        refine z_ret dX10_slack_71 (by first | exact True.intro | exact Or.inl rfl | exact Or.inr rfl | exact zb_01 _ | assumption | (show _ ∨ _; omega)) ⟨Nat.le_refl _, Nat.le_refl _⟩ ?_
        rw [Nat.min_eq_right hr0]; exact hQ _ hW.mc hF
      · exfalso; omega
    · intro i hi ih h' TR TI hW hF
      have w112 := hW.c112
      dsimp only [zMO, zMS.C, zMS.l, zMS.n, zMS.R, zMS.TR, zMS.DI, zMS.ac, zMS.nx, zMS.KP, zMS.IK, zMS.SW, zMS.ST, zMS.sn, zMS.sd, zMS.TI, zMS.WH, zMS.BG, zMS.OD, zMS.WO, zMS.MA, zMS.rp, zMS.RD, zMS.rs, zMS.rm, zMS.rw, zMS.uC, zMS.ul, zMS.un, zMS.uR, zMS.uTR, zMS.uDI, zMS.uac, zMS.unx, zMS.uKP, zMS.uIK, zMS.uSW, zMS.uST, zMS.usn, zMS.usd, zMS.uTI, zMS.uWH, zMS.uBG, zMS.uOD, zMS.uWO, zMS.uMA, zMS.urp, zMS.uRD, zMS.urs, zMS.urm, zMS.urw] at w112
      have w114 := hW.c114
      dsimp only [zMO, zMS.C, zMS.l, zMS.n, zMS.R, zMS.TR, zMS.DI, zMS.ac, zMS.nx, zMS.KP, zMS.IK, zMS.SW, zMS.ST, zMS.sn, zMS.sd, zMS.TI, zMS.WH, zMS.BG, zMS.OD, zMS.WO, zMS.MA, zMS.rp, zMS.RD, zMS.rs, zMS.rm, zMS.rw, zMS.uC, zMS.ul, zMS.un, zMS.uR, zMS.uTR, zMS.uDI, zMS.uac, zMS.unx, zMS.uKP, zMS.uIK, zMS.uSW, zMS.uST, zMS.usn, zMS.usd, zMS.uTI, zMS.uWH, zMS.uBG, zMS.uOD, zMS.uWO, zMS.uMA, zMS.urp, zMS.uRD, zMS.urs, zMS.urm, zMS.urw] at w114
      have w115 := hW.c115
      dsimp only [zMO, zMS.C, zMS.l, zMS.n, zMS.R, zMS.TR, zMS.DI, zMS.ac, zMS.nx, zMS.KP, zMS.IK, zMS.SW, zMS.ST, zMS.sn, zMS.sd, zMS.TI, zMS.WH, zMS.BG, zMS.OD, zMS.WO, zMS.MA, zMS.rp, zMS.RD, zMS.rs, zMS.rm, zMS.rw, zMS.uC, zMS.ul, zMS.un, zMS.uR, zMS.uTR, zMS.uDI, zMS.uac, zMS.unx, zMS.uKP, zMS.uIK, zMS.uSW, zMS.uST, zMS.usn, zMS.usd, zMS.uTI, zMS.uWH, zMS.uBG, zMS.uOD, zMS.uWO, zMS.uMA, zMS.urp, zMS.uRD, zMS.urs, zMS.urm, zMS.urw] at w115
      have hOj : zOK 40 N (zst D p (D p + ((i + 1 : Nat) : Int))) G E P := hO.setD (by omega) (by omega)
      have bj := zLAST_b hOj (by decide) hM
      have hri := hr (i + 1) (by omega) (by omega)
      refine z_iload 16 dX10_slack_14 rfl rfl ?_
      refine z_bipush 18 dX10_slack_16 rfl (by decide) ?_
      refine z_icmp_gt 70 21 dX10_slack_18 (by decide) rfl (by first | omega | exact zr_b _ | exact zr_and _ _ | exact zr_or _ _ | exact zr_shl _ _) (by first | omega | exact zr_b _ | exact zr_and _ _ | exact zr_or _ _ | exact zr_shl _ _) (fun c18 => ?_) (fun c18 => ?_)
      · exfalso; omega
      · refine z_aload_n 22 dX10_slack_21 rfl rfl ?_
        refine z_getf (ci := 10) 25 dX10_slack_22 rfl rfl zin_10 3 (by decide) zw_767 (by first | with_reducible assumption | with_reducible exact zup_same _ _ _) rfl ?_
        refine z_aload_n 26 dX10_slack_25 rfl rfl ?_
        refine z_getf (ci := 10) 29 dX10_slack_26 rfl rfl zin_10 4 (by decide) zw_768 (by first | with_reducible assumption | with_reducible exact zup_same _ _ _) rfl ?_
        refine z_cS2 32 dX10_slack_29 rfl kX10_copy zw_880 (Nat.le_of_ble_eq_true rfl) ⟨Nat.le_refl _, Nat.le_refl _⟩ ?_
        refine c_X10_copy (by decide) w114 w115 (fun F' hF' => ?_)
        have hW1 := hW.s115 F'
        have w112 := hW1.c112
        dsimp only [zMO, zMS.C, zMS.l, zMS.n, zMS.R, zMS.TR, zMS.DI, zMS.ac, zMS.nx, zMS.KP, zMS.IK, zMS.SW, zMS.ST, zMS.sn, zMS.sd, zMS.TI, zMS.WH, zMS.BG, zMS.OD, zMS.WO, zMS.MA, zMS.rp, zMS.RD, zMS.rs, zMS.rm, zMS.rw, zMS.uC, zMS.ul, zMS.un, zMS.uR, zMS.uTR, zMS.uDI, zMS.uac, zMS.unx, zMS.uKP, zMS.uIK, zMS.uSW, zMS.uST, zMS.usn, zMS.usd, zMS.uTI, zMS.uWH, zMS.uBG, zMS.uOD, zMS.uWO, zMS.uMA, zMS.urp, zMS.uRD, zMS.urs, zMS.urm, zMS.urw] at w112
        refine z_aload_n 33 dX10_slack_32 rfl rfl ?_
        refine z_getf (ci := 10) 36 dX10_slack_33 rfl rfl zin_10 4 (by decide) zw_768 (by first | with_reducible assumption | with_reducible exact zup_same _ _ _) rfl ?_
        refine z_iconst 37 dX10_slack_36 rfl ?_
        refine z_iload_n 38 dX10_slack_37 rfl rfl ?_
        refine z_iadd 39 dX10_slack_38 rfl ?_
        refine z_dup2 40 dX10_slack_39 rfl ?_
        refine z_iald 41 dX10_slack_40 rfl (by first | with_reducible assumption | with_reducible exact zup_same _ _ _) (by omega) (by first | omega | exact zr_b _ | exact zr_and _ _ | exact zr_or _ _ | exact zr_shl _ _) ?_
        refine z_iload 43 dX10_slack_41 rfl rfl ?_
        rw [hF' (1 + p) (by omega) (by omega), e0]
        refine z_iadd 44 dX10_slack_43 rfl ?_
        refine z_iast 45 dX10_slack_44 rfl (by omega) (by first | with_reducible assumption | with_reducible exact zup_same _ _ _) (by omega) (by first | omega | exact zr_b _ | exact zr_and _ _ | exact zr_or _ _ | exact zr_shl _ _) ?_
        rw [zup_zup, show D p + ((i : Int) + 1) = D p + ((i + 1 : Nat) : Int) by omega]
        have hW2 := hW.s115 (zst F' (1 + p) (D p + ((i + 1 : Nat) : Int)))
        have w112 := hW2.c112
        dsimp only [zMO, zMS.C, zMS.l, zMS.n, zMS.R, zMS.TR, zMS.DI, zMS.ac, zMS.nx, zMS.KP, zMS.IK, zMS.SW, zMS.ST, zMS.sn, zMS.sd, zMS.TI, zMS.WH, zMS.BG, zMS.OD, zMS.WO, zMS.MA, zMS.rp, zMS.RD, zMS.rs, zMS.rm, zMS.rw, zMS.uC, zMS.ul, zMS.un, zMS.uR, zMS.uTR, zMS.uDI, zMS.uac, zMS.unx, zMS.uKP, zMS.uIK, zMS.uSW, zMS.uST, zMS.usn, zMS.usd, zMS.uTI, zMS.uWH, zMS.uBG, zMS.uOD, zMS.uWO, zMS.uMA, zMS.urp, zMS.uRD, zMS.urs, zMS.urm, zMS.urw] at w112
        refine z_aload_n 46 dX10_slack_45 rfl rfl ?_
        refine z_aload_n 47 dX10_slack_46 rfl rfl ?_
        refine z_getf (ci := 10) 50 dX10_slack_47 rfl rfl zin_10 4 (by decide) zw_768 (by first | with_reducible assumption | with_reducible exact zup_same _ _ _) rfl ?_
        refine z_cV1 53 dX10_slack_50 rfl kX10_lastOf zw_883 (Nat.le_of_ble_eq_true rfl) ⟨Nat.le_refl _, Nat.le_refl _⟩ (by first | with_reducible assumption | with_reducible exact zup_same _ _ _) ?_
        refine c_X10_lastOf hW2.c112 rfl (zup_same _ _ _) (by decide) hW2.c121 (hR.setD hF' hN hp) hOj (by decide) hM (fun T1 => ?_)
        have hW3 := hW2.s121 T1
        refine z_iload_n 54 dX10_slack_53 rfl rfl ?_
        refine z_icmp_gt 62 57 dX10_slack_54 (by decide) rfl (by first | omega | exact zr_b _ | exact zr_and _ _ | exact zr_or _ _ | exact zr_shl _ _) (by first | omega | exact zr_b _ | exact zr_and _ _ | exact zr_or _ _ | exact zr_shl _ _) (fun c54 => ?_) (fun c54 => ?_)
        · refine z_iload_n 63 dX10_slack_62 rfl rfl ?_
          refine z_istore_n 64 dX10_slack_63 rfl (by decide) ?_
          refine z_iinc 67 dX10_slack_64 rfl (by decide) rfl ?_
          refine z_goto 14 dX10_slack_67 (by decide) ?_
          have k := ih _ _ _ hW3 ((hF.up _ (by omega)).up _ (by omega))
          first | (rw [show min (i + 1) r = min i r by omega] at k; exact k) | (rw [show min (i + 1) r = i + 1 by omega] at k; exact k)
        · refine z_iload 59 dX10_slack_57 rfl rfl ?_
          refine z_goto 63 dX10_slack_59 (by decide) ?_
          refine z_istore_n 64 dX10_slack_63 rfl (by decide) ?_
          refine z_iinc 67 dX10_slack_64 rfl (by decide) rfl ?_
          refine z_goto 14 dX10_slack_67 (by decide) ?_
          have k := ih _ _ _ hW3 ((hF.up _ (by omega)).up _ (by omega))
          first | (rw [show min (i + 1) r = min i r by omega] at k; exact k) | (rw [show min (i + 1) r = i + 1 by omega] at k; exact k)
  have w112 := hW.c112
  dsimp only [zMO, zMS.C, zMS.l, zMS.n, zMS.R, zMS.TR, zMS.DI, zMS.ac, zMS.nx, zMS.KP, zMS.IK, zMS.SW, zMS.ST, zMS.sn, zMS.sd, zMS.TI, zMS.WH, zMS.BG, zMS.OD, zMS.WO, zMS.MA, zMS.rp, zMS.RD, zMS.rs, zMS.rm, zMS.rw, zMS.uC, zMS.ul, zMS.un, zMS.uR, zMS.uTR, zMS.uDI, zMS.uac, zMS.unx, zMS.uKP, zMS.uIK, zMS.uSW, zMS.uST, zMS.usn, zMS.usd, zMS.uTI, zMS.uWH, zMS.uBG, zMS.uOD, zMS.uWO, zMS.uMA, zMS.urp, zMS.uRD, zMS.urs, zMS.urm, zMS.urw] at w112
  have w114 := hW.c114
  dsimp only [zMO, zMS.C, zMS.l, zMS.n, zMS.R, zMS.TR, zMS.DI, zMS.ac, zMS.nx, zMS.KP, zMS.IK, zMS.SW, zMS.ST, zMS.sn, zMS.sd, zMS.TI, zMS.WH, zMS.BG, zMS.OD, zMS.WO, zMS.MA, zMS.rp, zMS.RD, zMS.rs, zMS.rm, zMS.rw, zMS.uC, zMS.ul, zMS.un, zMS.uR, zMS.uTR, zMS.uDI, zMS.uac, zMS.unx, zMS.uKP, zMS.uIK, zMS.uSW, zMS.uST, zMS.usn, zMS.usd, zMS.uTI, zMS.uWH, zMS.uBG, zMS.uOD, zMS.uWO, zMS.uMA, zMS.urp, zMS.uRD, zMS.urs, zMS.urm, zMS.urw] at w114
  refine zC.of zpl_X10 (Nat.le_of_ble_eq_true rfl) ?_
  refine z_aload_n 1 dX10_slack_0 rfl rfl ?_
  refine z_aload_n 2 dX10_slack_1 rfl rfl ?_
  refine z_getf (ci := 10) 5 dX10_slack_2 rfl rfl zin_10 3 (by decide) zw_767 (by first | with_reducible assumption | with_reducible exact zup_same _ _ _) rfl ?_
  refine z_cV1 8 dX10_slack_5 rfl kX10_lastOf zw_883 (Nat.le_of_ble_eq_true rfl) ⟨Nat.le_refl _, Nat.le_refl _⟩ (by first | with_reducible assumption | with_reducible exact zup_same _ _ _) ?_
  refine c_X10_lastOf hW.c112 rfl w114 (by decide) hW.c121 hR hO (by decide) hM (fun T1 => ?_)
  refine z_istore_n 9 dX10_slack_8 rfl (by decide) ?_
  refine z_iconst 10 dX10_slack_9 rfl ?_
  refine z_istore_n 11 dX10_slack_10 rfl (by decide) ?_
  refine z_iconst 12 dX10_slack_11 rfl ?_
  refine z_istore 14 dX10_slack_12 rfl (by decide) ?_
  have k := key 0 (by omega) _ _ _ (hW.s121 T1) ((zMod.rf _ _ h).up _ (by omega))
  rw [Nat.zero_min] at k
  exact k
end MSLACK
