/-! THE MODEL: what is asked of it, first -/
def zMC (h : zH) (C : Int → Int) (l n : Int) (R DI : Int → Int) (ac nx : Int) (KP IK SW ST : Int → Int) (sn sd : Int) : Prop := ∃ (TR TI WH BG OD WO MA RD : Int → Int) (rp rs rm rw : Int), zMW h (C, l, n, R, TR, DI, ac, nx, KP, IK, SW, ST, sn, sd, TI, WH, BG, OD, WO, MA, rp, RD, rs, rm, rw)
theorem zMW.mc {h : zH} {s : zMS} (hW : zMW h s) : zMC h s.C s.l s.n s.R s.DI s.ac s.nx s.KP s.IK s.SW s.ST s.sn s.sd := ⟨_, _, _, _, _, _, _, _, _, _, _, _, hW⟩
section MPUB
variable {d : Nat} {h : zH} {Q : Option zV → zH → Prop} {C : Int → Int} {l n : Int} {R DI : Int → Int} {ac nx : Int} {KP IK SW ST : Int → Int} {sn sd : Int} {s : zMS}
theorem c_X10_isPerson {p : Int} (hob : h.1 112 = some (zMO s)) (hn : 1 ≤ s.n ∧ s.n ≤ 8) (hp : -2147483648 ≤ p ∧ p ≤ 2147483647) (hQ : Q (some (vI (zb (0 ≤ p ∧ p < s.n)))) h) : zC (d + 1) mX10_isPerson 0 0 [vR 112, vI p] h Q := by
  refine zC.of zpl_X10 (Nat.le_of_ble_eq_true rfl) ?_
  refine z_iload_n 1 dX10_isPerson_0 rfl rfl ?_
  refine z_i2l 2 dX10_isPerson_1 rfl (by first | omega | exact zr_b _ | exact zr_and _ _ | exact zr_or _ _ | exact zr_shl _ _) ?_
  refine z_lconst 3 dX10_isPerson_2 rfl ?_
  refine z_aload_n 4 dX10_isPerson_3 rfl rfl ?_
  refine z_getf (ci := 10) 7 dX10_isPerson_4 rfl rfl zin_10 2 (by decide) zw_766 (by first | with_reducible assumption | with_reducible exact zup_same _ _ _) rfl ?_
  refine z_iconst 8 dX10_isPerson_7 rfl ?_
  refine z_isub 9 dX10_isPerson_8 rfl ?_
  refine z_i2l 10 dX10_isPerson_9 rfl (by first | omega | exact zr_b _ | exact zr_and _ _ | exact zr_or _ _ | exact zr_shl _ _) ?_
  refine z_cS3 13 dX10_isPerson_10 rfl kX10_in zw_846 (Nat.le_of_ble_eq_true rfl) ⟨Nat.le_refl _, Nat.le_refl _⟩ ?_
  refine c_X10_in (a := 0) (by omega) (by omega) (by omega) ?_
  refine z_ret dX10_isPerson_13 (by first | exact True.intro | exact Or.inl rfl | exact Or.inr rfl | exact zb_01 _ | assumption | (show _ ∨ _; omega)) ⟨Nat.le_refl _, Nat.le_refl _⟩ ?_
  rw [zb_cg (show (0 ≤ p ∧ p ≤ s.n - 1) ↔ (0 ≤ p ∧ p < s.n) by omega)]; exact hQ
theorem m_wipe (hW : zMC h C l n R DI ac nx KP IK SW ST sn sd) (hQ : ∀ h' : zH, zMC h' C 0 n R DI ac nx KP IK SW ST sn sd → zMod 112 127 h h' → Q (some (vI l)) h') : zC (d + 1) mX10_wipe 0 0 [vR 112] h Q := by
  obtain ⟨TR, TI, WH, BG, OD, WO, MA, RD, rp, rs, rm, rw', hW⟩ := hW
  have w112 := hW.c112
  dsimp only [zMO, zMS.C, zMS.l, zMS.n, zMS.R, zMS.TR, zMS.DI, zMS.ac, zMS.nx, zMS.KP, zMS.IK, zMS.SW, zMS.ST, zMS.sn, zMS.sd, zMS.TI, zMS.WH, zMS.BG, zMS.OD, zMS.WO, zMS.MA, zMS.rp, zMS.RD, zMS.rs, zMS.rm, zMS.rw, zMS.uC, zMS.ul, zMS.un, zMS.uR, zMS.uTR, zMS.uDI, zMS.uac, zMS.unx, zMS.uKP, zMS.uIK, zMS.uSW, zMS.uST, zMS.usn, zMS.usd, zMS.uTI, zMS.uWH, zMS.uBG, zMS.uOD, zMS.uWO, zMS.uMA, zMS.urp, zMS.uRD, zMS.urs, zMS.urm, zMS.urw] at w112
  refine zC.of zpl_X10 (Nat.le_of_ble_eq_true rfl) ?_
  refine z_aload_n 1 dX10_wipe_0 rfl rfl ?_
  refine z_getf (ci := 10) 4 dX10_wipe_1 rfl rfl zin_10 1 (by decide) zw_765 (by first | with_reducible assumption | with_reducible exact zup_same _ _ _) rfl ?_
  refine z_istore_n 5 dX10_wipe_4 rfl (by decide) ?_
  refine z_aload_n 6 dX10_wipe_5 rfl rfl ?_
  refine z_iconst 7 dX10_wipe_6 rfl ?_
  refine z_putf (ci := 10) 10 dX10_wipe_7 rfl rfl zin_10 tyX10_ok nmX10 1 (by decide) zw_765 rfl (fun _ => ⟨rfl, rfl⟩) (by omega) (by first | with_reducible assumption | with_reducible exact zup_same _ _ _) (Nat.le_of_ble_eq_true rfl) ?_
  refine z_iload_n 11 dX10_wipe_10 rfl rfl ?_
  refine z_ret dX10_wipe_11 (by first | exact True.intro | exact Or.inl rfl | exact Or.inr rfl | exact zb_01 _ | assumption | (show _ ∨ _; omega)) ⟨Nat.le_refl _, Nat.le_refl _⟩ ?_
  exact hQ _ (hW.f_l 0).mc ((zMod.rf _ _ h).up _ (by omega))
theorem m_unsee (hW : zMC h C l n R DI ac nx KP IK SW ST sn sd) (hQ : ∀ h' : zH, zMC h' C l n R DI ac nx KP IK SW ST 0 sd → zMod 112 127 h h' → Q (some (vI sn)) h') : zC (d + 1) mX10_unsee 0 0 [vR 112] h Q := by
  obtain ⟨TR, TI, WH, BG, OD, WO, MA, RD, rp, rs, rm, rw', hW⟩ := hW
  have w112 := hW.c112
  dsimp only [zMO, zMS.C, zMS.l, zMS.n, zMS.R, zMS.TR, zMS.DI, zMS.ac, zMS.nx, zMS.KP, zMS.IK, zMS.SW, zMS.ST, zMS.sn, zMS.sd, zMS.TI, zMS.WH, zMS.BG, zMS.OD, zMS.WO, zMS.MA, zMS.rp, zMS.RD, zMS.rs, zMS.rm, zMS.rw, zMS.uC, zMS.ul, zMS.un, zMS.uR, zMS.uTR, zMS.uDI, zMS.uac, zMS.unx, zMS.uKP, zMS.uIK, zMS.uSW, zMS.uST, zMS.usn, zMS.usd, zMS.uTI, zMS.uWH, zMS.uBG, zMS.uOD, zMS.uWO, zMS.uMA, zMS.urp, zMS.uRD, zMS.urs, zMS.urm, zMS.urw] at w112
  refine zC.of zpl_X10 (Nat.le_of_ble_eq_true rfl) ?_
  refine z_aload_n 1 dX10_unsee_0 rfl rfl ?_
  refine z_getf (ci := 10) 4 dX10_unsee_1 rfl rfl zin_10 12 (by decide) zw_776 (by first | with_reducible assumption | with_reducible exact zup_same _ _ _) rfl ?_
  refine z_istore_n 5 dX10_unsee_4 rfl (by decide) ?_
  refine z_aload_n 6 dX10_unsee_5 rfl rfl ?_
  refine z_iconst 7 dX10_unsee_6 rfl ?_
  refine z_putf (ci := 10) 10 dX10_unsee_7 rfl rfl zin_10 tyX10_ok nmX10 12 (by decide) zw_776 rfl (fun _ => ⟨rfl, rfl⟩) (by omega) (by first | with_reducible assumption | with_reducible exact zup_same _ _ _) (Nat.le_of_ble_eq_true rfl) ?_
  refine z_iload_n 11 dX10_unsee_10 rfl rfl ?_
  refine z_ret dX10_unsee_11 (by first | exact True.intro | exact Or.inl rfl | exact Or.inr rfl | exact zb_01 _ | assumption | (show _ ∨ _; omega)) ⟨Nat.le_refl _, Nat.le_refl _⟩ ?_
  exact hQ _ (hW.f_sn 0).mc ((zMod.rf _ _ h).up _ (by omega))
theorem m_seed {v : Int} (hW : zMC h C l n R DI ac nx KP IK SW ST sn sd) (hQ : ∀ h' : zH, zMC h' C l n R DI ac nx KP IK SW ST sn v → zMod 112 127 h h' → Q (some (vJ sd)) h') : zC (d + 1) mX10_seed 0 0 [vR 112, vJ v] h Q := by
  obtain ⟨TR, TI, WH, BG, OD, WO, MA, RD, rp, rs, rm, rw', hW⟩ := hW
  have w112 := hW.c112
  dsimp only [zMO, zMS.C, zMS.l, zMS.n, zMS.R, zMS.TR, zMS.DI, zMS.ac, zMS.nx, zMS.KP, zMS.IK, zMS.SW, zMS.ST, zMS.sn, zMS.sd, zMS.TI, zMS.WH, zMS.BG, zMS.OD, zMS.WO, zMS.MA, zMS.rp, zMS.RD, zMS.rs, zMS.rm, zMS.rw, zMS.uC, zMS.ul, zMS.un, zMS.uR, zMS.uTR, zMS.uDI, zMS.uac, zMS.unx, zMS.uKP, zMS.uIK, zMS.uSW, zMS.uST, zMS.usn, zMS.usd, zMS.uTI, zMS.uWH, zMS.uBG, zMS.uOD, zMS.uWO, zMS.uMA, zMS.urp, zMS.uRD, zMS.urs, zMS.urm, zMS.urw] at w112
  refine zC.of zpl_X10 (Nat.le_of_ble_eq_true rfl) ?_
  refine z_aload_n 1 dX10_seed_0 rfl rfl ?_
  refine z_getf (ci := 10) 4 dX10_seed_1 rfl rfl zin_10 13 (by decide) zw_777 (by first | with_reducible assumption | with_reducible exact zup_same _ _ _) rfl ?_
  refine z_lstore_n 5 dX10_seed_4 rfl (by decide) ?_
  refine z_aload_n 6 dX10_seed_5 rfl rfl ?_
  refine z_lload_n 7 dX10_seed_6 rfl rfl ?_
  refine z_putf (ci := 10) 10 dX10_seed_7 rfl rfl zin_10 tyX10_ok nmX10 13 (by decide) zw_777 rfl (fun _ => ⟨rfl, rfl⟩) (by omega) (by first | with_reducible assumption | with_reducible exact zup_same _ _ _) (Nat.le_of_ble_eq_true rfl) ?_
  refine z_lload_n 11 dX10_seed_10 rfl rfl ?_
  refine z_lret dX10_seed_11 (by first | exact True.intro | exact Or.inl rfl | exact Or.inr rfl | exact zb_01 _ | assumption | (show _ ∨ _; omega)) ⟨Nat.le_refl _, Nat.le_refl _⟩ ?_
  exact hQ _ (hW.f_sd v).mc ((zMod.rf _ _ h).up _ (by omega))
theorem m_write_bad {x : Int} (hx : (-2147483648 ≤ x ∧ x ≤ 2147483647) ∧ (x < 0 ∨ 255 < x)) (hQ : Q (some (vI (-2))) h) : zC (d + 2) mX10_write 0 0 [vR 112, vI x] h Q := by
  refine zC.of zpl_X10 (Nat.le_of_ble_eq_true rfl) ?_
  refine z_iload_n 1 dX10_write_0 rfl rfl ?_
  refine z_i2l 2 dX10_write_1 rfl (by first | omega | exact zr_b _ | exact zr_and _ _ | exact zr_or _ _ | exact zr_shl _ _) ?_
  refine z_lconst 3 dX10_write_2 rfl ?_
  refine z_ldc2 (x := 255) 6 dX10_write_3 rfl zw_845 ?_
  refine z_cS3 9 dX10_write_6 rfl kX10_in zw_846 (Nat.le_of_ble_eq_true rfl) ⟨Nat.le_refl _, Nat.le_refl _⟩ ?_
  refine c_X10_in (a := 0) (by omega) (by omega) (by omega) ?_
  rw [zb_f (by omega)]
  refine z_if_ne 15 12 dX10_write_9 (by decide) rfl (by first | omega | exact zr_b _ | exact zr_and _ _ | exact zr_or _ _ | exact zr_shl _ _) (fun c9 => ?_) (fun c9 => ?_)
  · exact absurd rfl c9
  · try replace c9 := zb_0 c9
    refine z_bipush 14 dX10_write_12 rfl (by decide) ?_
    refine z_ret dX10_write_14 (by first | exact True.intro | exact Or.inl rfl | exact Or.inr rfl | exact zb_01 _ | assumption | (show _ ∨ _; omega)) ⟨Nat.le_refl _, Nat.le_refl _⟩ ?_
    exact hQ
theorem m_write_full {x : Int} (hW : zMC h C 60 n R DI ac nx KP IK SW ST sn sd) (hx : 0 ≤ x ∧ x ≤ 255) (hQ : Q (some (vI (-4))) h) : zC (d + 2) mX10_write 0 0 [vR 112, vI x] h Q := by
  obtain ⟨TR, TI, WH, BG, OD, WO, MA, RD, rp, rs, rm, rw', hW⟩ := hW
  have w112 := hW.c112
  dsimp only [zMO, zMS.C, zMS.l, zMS.n, zMS.R, zMS.TR, zMS.DI, zMS.ac, zMS.nx, zMS.KP, zMS.IK, zMS.SW, zMS.ST, zMS.sn, zMS.sd, zMS.TI, zMS.WH, zMS.BG, zMS.OD, zMS.WO, zMS.MA, zMS.rp, zMS.RD, zMS.rs, zMS.rm, zMS.rw, zMS.uC, zMS.ul, zMS.un, zMS.uR, zMS.uTR, zMS.uDI, zMS.uac, zMS.unx, zMS.uKP, zMS.uIK, zMS.uSW, zMS.uST, zMS.usn, zMS.usd, zMS.uTI, zMS.uWH, zMS.uBG, zMS.uOD, zMS.uWO, zMS.uMA, zMS.urp, zMS.uRD, zMS.urs, zMS.urm, zMS.urw] at w112
  refine zC.of zpl_X10 (Nat.le_of_ble_eq_true rfl) ?_
  refine z_iload_n 1 dX10_write_0 rfl rfl ?_
  refine z_i2l 2 dX10_write_1 rfl (by first | omega | exact zr_b _ | exact zr_and _ _ | exact zr_or _ _ | exact zr_shl _ _) ?_
  refine z_lconst 3 dX10_write_2 rfl ?_
  refine z_ldc2 (x := 255) 6 dX10_write_3 rfl zw_845 ?_
  refine z_cS3 9 dX10_write_6 rfl kX10_in zw_846 (Nat.le_of_ble_eq_true rfl) ⟨Nat.le_refl _, Nat.le_refl _⟩ ?_
  refine c_X10_in (a := 0) (by omega) (by omega) (by omega) ?_
  rw [zb_t (by omega)]
  refine z_if_ne 15 12 dX10_write_9 (by decide) rfl (by first | omega | exact zr_b _ | exact zr_and _ _ | exact zr_or _ _ | exact zr_shl _ _) (fun c9 => ?_) (fun c9 => ?_)
  · try replace c9 := zb_1 c9
    refine z_aload_n 16 dX10_write_15 rfl rfl ?_
    refine z_getf (ci := 10) 19 dX10_write_16 rfl rfl zin_10 1 (by decide) zw_765 (by first | with_reducible assumption | with_reducible exact zup_same _ _ _) rfl ?_
    refine z_bipush 21 dX10_write_19 rfl (by decide) ?_
    refine z_icmp_ne 27 24 dX10_write_21 (by decide) rfl (by first | omega | exact zr_b _ | exact zr_and _ _ | exact zr_or _ _ | exact zr_shl _ _) (by first | omega | exact zr_b _ | exact zr_and _ _ | exact zr_or _ _ | exact zr_shl _ _) (fun c21 => ?_) (fun c21 => ?_)
    · exact absurd rfl c21
    · refine z_bipush 26 dX10_write_24 rfl (by decide) ?_
      refine z_ret dX10_write_26 (by first | exact True.intro | exact Or.inl rfl | exact Or.inr rfl | exact zb_01 _ | assumption | (show _ ∨ _; omega)) ⟨Nat.le_refl _, Nat.le_refl _⟩ ?_
      exact hQ
  · exact absurd c9 (by decide)
theorem m_write {x : Int} (hW : zMC h C l n R DI ac nx KP IK SW ST sn sd) (hl : 0 ≤ l ∧ l < 60) (hx : 0 ≤ x ∧ x ≤ 255) (hQ : ∀ h' : zH, zMC h' (zst C l x) (l + 1) n R DI ac nx KP IK SW ST sn sd → zMod 112 127 h h' → Q (some (vI (l + 1))) h') : zC (d + 2) mX10_write 0 0 [vR 112, vI x] h Q := by
  obtain ⟨TR, TI, WH, BG, OD, WO, MA, RD, rp, rs, rm, rw', hW⟩ := hW
  have hW1 := hW.s113 (zst C l x)
  have hW2 := hW1.f_l (l + 1)
  have w112 := hW.c112
  dsimp only [zMO, zMS.C, zMS.l, zMS.n, zMS.R, zMS.TR, zMS.DI, zMS.ac, zMS.nx, zMS.KP, zMS.IK, zMS.SW, zMS.ST, zMS.sn, zMS.sd, zMS.TI, zMS.WH, zMS.BG, zMS.OD, zMS.WO, zMS.MA, zMS.rp, zMS.RD, zMS.rs, zMS.rm, zMS.rw, zMS.uC, zMS.ul, zMS.un, zMS.uR, zMS.uTR, zMS.uDI, zMS.uac, zMS.unx, zMS.uKP, zMS.uIK, zMS.uSW, zMS.uST, zMS.usn, zMS.usd, zMS.uTI, zMS.uWH, zMS.uBG, zMS.uOD, zMS.uWO, zMS.uMA, zMS.urp, zMS.uRD, zMS.urs, zMS.urm, zMS.urw] at w112
  have w113 := hW.c113
  dsimp only [zMO, zMS.C, zMS.l, zMS.n, zMS.R, zMS.TR, zMS.DI, zMS.ac, zMS.nx, zMS.KP, zMS.IK, zMS.SW, zMS.ST, zMS.sn, zMS.sd, zMS.TI, zMS.WH, zMS.BG, zMS.OD, zMS.WO, zMS.MA, zMS.rp, zMS.RD, zMS.rs, zMS.rm, zMS.rw, zMS.uC, zMS.ul, zMS.un, zMS.uR, zMS.uTR, zMS.uDI, zMS.uac, zMS.unx, zMS.uKP, zMS.uIK, zMS.uSW, zMS.uST, zMS.usn, zMS.usd, zMS.uTI, zMS.uWH, zMS.uBG, zMS.uOD, zMS.uWO, zMS.uMA, zMS.urp, zMS.uRD, zMS.urs, zMS.urm, zMS.urw] at w113
  have w112 := hW1.c112
  dsimp only [zMO, zMS.C, zMS.l, zMS.n, zMS.R, zMS.TR, zMS.DI, zMS.ac, zMS.nx, zMS.KP, zMS.IK, zMS.SW, zMS.ST, zMS.sn, zMS.sd, zMS.TI, zMS.WH, zMS.BG, zMS.OD, zMS.WO, zMS.MA, zMS.rp, zMS.RD, zMS.rs, zMS.rm, zMS.rw, zMS.uC, zMS.ul, zMS.un, zMS.uR, zMS.uTR, zMS.uDI, zMS.uac, zMS.unx, zMS.uKP, zMS.uIK, zMS.uSW, zMS.uST, zMS.usn, zMS.usd, zMS.uTI, zMS.uWH, zMS.uBG, zMS.uOD, zMS.uWO, zMS.uMA, zMS.urp, zMS.uRD, zMS.urs, zMS.urm, zMS.urw] at w112
  have w112 := hW2.c112
  dsimp only [zMO, zMS.C, zMS.l, zMS.n, zMS.R, zMS.TR, zMS.DI, zMS.ac, zMS.nx, zMS.KP, zMS.IK, zMS.SW, zMS.ST, zMS.sn, zMS.sd, zMS.TI, zMS.WH, zMS.BG, zMS.OD, zMS.WO, zMS.MA, zMS.rp, zMS.RD, zMS.rs, zMS.rm, zMS.rw, zMS.uC, zMS.ul, zMS.un, zMS.uR, zMS.uTR, zMS.uDI, zMS.uac, zMS.unx, zMS.uKP, zMS.uIK, zMS.uSW, zMS.uST, zMS.usn, zMS.usd, zMS.uTI, zMS.uWH, zMS.uBG, zMS.uOD, zMS.uWO, zMS.uMA, zMS.urp, zMS.uRD, zMS.urs, zMS.urm, zMS.urw] at w112
  refine zC.of zpl_X10 (Nat.le_of_ble_eq_true rfl) ?_
  refine z_iload_n 1 dX10_write_0 rfl rfl ?_
  refine z_i2l 2 dX10_write_1 rfl (by first | omega | exact zr_b _ | exact zr_and _ _ | exact zr_or _ _ | exact zr_shl _ _) ?_
  refine z_lconst 3 dX10_write_2 rfl ?_
  refine z_ldc2 (x := 255) 6 dX10_write_3 rfl zw_845 ?_
  refine z_cS3 9 dX10_write_6 rfl kX10_in zw_846 (Nat.le_of_ble_eq_true rfl) ⟨Nat.le_refl _, Nat.le_refl _⟩ ?_
  refine c_X10_in (a := 0) (by omega) (by omega) (by omega) ?_
  rw [zb_t (by omega)]
  refine z_if_ne 15 12 dX10_write_9 (by decide) rfl (by first | omega | exact zr_b _ | exact zr_and _ _ | exact zr_or _ _ | exact zr_shl _ _) (fun c9 => ?_) (fun c9 => ?_)
  · try replace c9 := zb_1 c9
    refine z_aload_n 16 dX10_write_15 rfl rfl ?_
    refine z_getf (ci := 10) 19 dX10_write_16 rfl rfl zin_10 1 (by decide) zw_765 (by first | with_reducible assumption | with_reducible exact zup_same _ _ _) rfl ?_
    refine z_bipush 21 dX10_write_19 rfl (by decide) ?_
    refine z_icmp_ne 27 24 dX10_write_21 (by decide) rfl (by first | omega | exact zr_b _ | exact zr_and _ _ | exact zr_or _ _ | exact zr_shl _ _) (by first | omega | exact zr_b _ | exact zr_and _ _ | exact zr_or _ _ | exact zr_shl _ _) (fun c21 => ?_) (fun c21 => ?_)
    · refine z_aload_n 28 dX10_write_27 rfl rfl ?_
      refine z_getf (ci := 10) 31 dX10_write_28 rfl rfl zin_10 0 (by decide) zw_764 (by first | with_reducible assumption | with_reducible exact zup_same _ _ _) rfl ?_
      refine z_aload_n 32 dX10_write_31 rfl rfl ?_
      refine z_getf (ci := 10) 35 dX10_write_32 rfl rfl zin_10 1 (by decide) zw_765 (by first | with_reducible assumption | with_reducible exact zup_same _ _ _) rfl ?_
      refine z_iload_n 36 dX10_write_35 rfl rfl ?_
      refine z_iast 37 dX10_write_36 rfl (by omega) (by first | with_reducible assumption | with_reducible exact zup_same _ _ _) (by omega) (by first | omega | exact zr_b _ | exact zr_and _ _ | exact zr_or _ _ | exact zr_shl _ _) ?_
      refine z_aload_n 38 dX10_write_37 rfl rfl ?_
      refine z_dup_a 39 dX10_write_38 rfl ?_
      refine z_getf (ci := 10) 42 dX10_write_39 rfl rfl zin_10 1 (by decide) zw_765 (by first | with_reducible assumption | with_reducible exact zup_same _ _ _) rfl ?_
      refine z_iconst 43 dX10_write_42 rfl ?_
      refine z_iadd 44 dX10_write_43 rfl ?_
      refine z_putf (ci := 10) 47 dX10_write_44 rfl rfl zin_10 tyX10_ok nmX10 1 (by decide) zw_765 rfl (fun _ => ⟨rfl, rfl⟩) (by omega) (by first | with_reducible assumption | with_reducible exact zup_same _ _ _) (Nat.le_of_ble_eq_true rfl) ?_
      refine z_aload_n 48 dX10_write_47 rfl rfl ?_
      refine z_getf (ci := 10) 51 dX10_write_48 rfl rfl zin_10 1 (by decide) zw_765 (by first | with_reducible assumption | with_reducible exact zup_same _ _ _) rfl ?_
      refine z_ret dX10_write_51 (by first | exact True.intro | exact Or.inl rfl | exact Or.inr rfl | exact zb_01 _ | assumption | (show _ ∨ _; omega)) ⟨Nat.le_refl _, Nat.le_refl _⟩ ?_
      exact hQ _ hW2.mc (((zMod.rf _ _ h).up _ (by omega)).up _ (by omega))
    · exfalso; omega
  · exact absurd c9 (by decide)
theorem m_plan_no {i : Int} (hW : zMC h C l n R DI ac nx KP IK SW ST sn sd) (hn : 1 ≤ n ∧ n ≤ 8) (hi : (-2147483648 ≤ i ∧ i ≤ 2147483647) ∧ ¬ (0 ≤ i ∧ i < n - 1)) (hQ : Q (some (vI (-1))) h) : zC (d + 2) mX10_plan 0 0 [vR 112, vI i] h Q := by
  obtain ⟨TR, TI, WH, BG, OD, WO, MA, RD, rp, rs, rm, rw', hW⟩ := hW
  have w112 := hW.c112
  dsimp only [zMO, zMS.C, zMS.l, zMS.n, zMS.R, zMS.TR, zMS.DI, zMS.ac, zMS.nx, zMS.KP, zMS.IK, zMS.SW, zMS.ST, zMS.sn, zMS.sd, zMS.TI, zMS.WH, zMS.BG, zMS.OD, zMS.WO, zMS.MA, zMS.rp, zMS.RD, zMS.rs, zMS.rm, zMS.rw, zMS.uC, zMS.ul, zMS.un, zMS.uR, zMS.uTR, zMS.uDI, zMS.uac, zMS.unx, zMS.uKP, zMS.uIK, zMS.uSW, zMS.uST, zMS.usn, zMS.usd, zMS.uTI, zMS.uWH, zMS.uBG, zMS.uOD, zMS.uWO, zMS.uMA, zMS.urp, zMS.uRD, zMS.urs, zMS.urm, zMS.urw] at w112
  refine zC.of zpl_X10 (Nat.le_of_ble_eq_true rfl) ?_
  refine z_iload_n 1 dX10_plan_0 rfl rfl ?_
  refine z_i2l 2 dX10_plan_1 rfl (by first | omega | exact zr_b _ | exact zr_and _ _ | exact zr_or _ _ | exact zr_shl _ _) ?_
  refine z_lconst 3 dX10_plan_2 rfl ?_
  refine z_aload_n 4 dX10_plan_3 rfl rfl ?_
  refine z_getf (ci := 10) 7 dX10_plan_4 rfl rfl zin_10 2 (by decide) zw_766 (by first | with_reducible assumption | with_reducible exact zup_same _ _ _) rfl ?_
  refine z_iconst 8 dX10_plan_7 rfl ?_
  refine z_isub 9 dX10_plan_8 rfl ?_
  refine z_i2l 10 dX10_plan_9 rfl (by first | omega | exact zr_b _ | exact zr_and _ _ | exact zr_or _ _ | exact zr_shl _ _) ?_
  refine z_cS3 13 dX10_plan_10 rfl kX10_in zw_846 (Nat.le_of_ble_eq_true rfl) ⟨Nat.le_refl _, Nat.le_refl _⟩ ?_
  refine c_X10_in (a := 0) (by omega) (by omega) (by omega) ?_
  rw [zb_f (by omega)]
  refine z_if_eq 28 16 dX10_plan_13 (by decide) rfl (by first | omega | exact zr_b _ | exact zr_and _ _ | exact zr_or _ _ | exact zr_shl _ _) (fun c13 => ?_) (fun c13 => ?_)
  · try replace c13 := zb_0 c13
    refine z_iconst 29 dX10_plan_28 rfl ?_
    refine z_ret dX10_plan_29 (by first | exact True.intro | exact Or.inl rfl | exact Or.inr rfl | exact zb_01 _ | assumption | (show _ ∨ _; omega)) ⟨Nat.le_refl _, Nat.le_refl _⟩ ?_
    exact hQ
  · exact absurd rfl c13
theorem m_plan {i : Int} (hW : zMC h C l n R DI ac nx KP IK SW ST sn sd) (hn : 1 ≤ n ∧ n ≤ 8) (hi : 0 ≤ i ∧ i < n - 1) (hQ : Q (some (vI (R (25 + i)))) h) : zC (d + 2) mX10_plan 0 0 [vR 112, vI i] h Q := by
  obtain ⟨TR, TI, WH, BG, OD, WO, MA, RD, rp, rs, rm, rw', hW⟩ := hW
  have w112 := hW.c112
  dsimp only [zMO, zMS.C, zMS.l, zMS.n, zMS.R, zMS.TR, zMS.DI, zMS.ac, zMS.nx, zMS.KP, zMS.IK, zMS.SW, zMS.ST, zMS.sn, zMS.sd, zMS.TI, zMS.WH, zMS.BG, zMS.OD, zMS.WO, zMS.MA, zMS.rp, zMS.RD, zMS.rs, zMS.rm, zMS.rw, zMS.uC, zMS.ul, zMS.un, zMS.uR, zMS.uTR, zMS.uDI, zMS.uac, zMS.unx, zMS.uKP, zMS.uIK, zMS.uSW, zMS.uST, zMS.usn, zMS.usd, zMS.uTI, zMS.uWH, zMS.uBG, zMS.uOD, zMS.uWO, zMS.uMA, zMS.urp, zMS.uRD, zMS.urs, zMS.urm, zMS.urw] at w112
  have w114 := hW.c114
  dsimp only [zMO, zMS.C, zMS.l, zMS.n, zMS.R, zMS.TR, zMS.DI, zMS.ac, zMS.nx, zMS.KP, zMS.IK, zMS.SW, zMS.ST, zMS.sn, zMS.sd, zMS.TI, zMS.WH, zMS.BG, zMS.OD, zMS.WO, zMS.MA, zMS.rp, zMS.RD, zMS.rs, zMS.rm, zMS.rw, zMS.uC, zMS.ul, zMS.un, zMS.uR, zMS.uTR, zMS.uDI, zMS.uac, zMS.unx, zMS.uKP, zMS.uIK, zMS.uSW, zMS.uST, zMS.usn, zMS.usd, zMS.uTI, zMS.uWH, zMS.uBG, zMS.uOD, zMS.uWO, zMS.uMA, zMS.urp, zMS.uRD, zMS.urs, zMS.urm, zMS.urw] at w114
  refine zC.of zpl_X10 (Nat.le_of_ble_eq_true rfl) ?_
  refine z_iload_n 1 dX10_plan_0 rfl rfl ?_
  refine z_i2l 2 dX10_plan_1 rfl (by first | omega | exact zr_b _ | exact zr_and _ _ | exact zr_or _ _ | exact zr_shl _ _) ?_
  refine z_lconst 3 dX10_plan_2 rfl ?_
  refine z_aload_n 4 dX10_plan_3 rfl rfl ?_
  refine z_getf (ci := 10) 7 dX10_plan_4 rfl rfl zin_10 2 (by decide) zw_766 (by first | with_reducible assumption | with_reducible exact zup_same _ _ _) rfl ?_
  refine z_iconst 8 dX10_plan_7 rfl ?_
  refine z_isub 9 dX10_plan_8 rfl ?_
  refine z_i2l 10 dX10_plan_9 rfl (by first | omega | exact zr_b _ | exact zr_and _ _ | exact zr_or _ _ | exact zr_shl _ _) ?_
  refine z_cS3 13 dX10_plan_10 rfl kX10_in zw_846 (Nat.le_of_ble_eq_true rfl) ⟨Nat.le_refl _, Nat.le_refl _⟩ ?_
  refine c_X10_in (a := 0) (by omega) (by omega) (by omega) ?_
  rw [zb_t (by omega)]
  refine z_if_eq 28 16 dX10_plan_13 (by decide) rfl (by first | omega | exact zr_b _ | exact zr_and _ _ | exact zr_or _ _ | exact zr_shl _ _) (fun c13 => ?_) (fun c13 => ?_)
  · exact absurd c13 (by decide)
  · try replace c13 := zb_1 c13
    refine z_aload_n 17 dX10_plan_16 rfl rfl ?_
    refine z_getf (ci := 10) 20 dX10_plan_17 rfl rfl zin_10 3 (by decide) zw_767 (by first | with_reducible assumption | with_reducible exact zup_same _ _ _) rfl ?_
    refine z_bipush 22 dX10_plan_20 rfl (by decide) ?_
    refine z_iload_n 23 dX10_plan_22 rfl rfl ?_
    refine z_iadd 24 dX10_plan_23 rfl ?_
    refine z_iald 25 dX10_plan_24 rfl (by first | with_reducible assumption | with_reducible exact zup_same _ _ _) (by omega) (by first | omega | exact zr_b _ | exact zr_and _ _ | exact zr_or _ _ | exact zr_shl _ _) ?_
    refine z_goto 29 dX10_plan_25 (by decide) ?_
    refine z_ret dX10_plan_29 (by first | exact True.intro | exact Or.inl rfl | exact Or.inr rfl | exact zb_01 _ | assumption | (show _ ∨ _; omega)) ⟨Nat.le_refl _, Nat.le_refl _⟩ ?_
    exact hQ
end MPUB
