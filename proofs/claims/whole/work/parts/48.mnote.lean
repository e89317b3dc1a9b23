/-! THE MODEL: its diary -/
section MNOTE
variable {d : Nat} {h : zH} {Q : Option zV → zH → Prop} {C : Int → Int} {l n : Int} {R DI : Int → Int} {ac nx : Int} {KP IK SW ST : Int → Int} {sn sd : Int}
theorem c_X10_note (hW : zMC h C l n R DI ac nx KP IK SW ST sn sd) (ha : 0 ≤ ac ∧ ac ≤ 14) (hx : 0 ≤ nx ∧ nx < 14)
    (hQ : ∀ (h' : zH) (DI' : Int → Int), (∀ k : Int, 0 ≤ k → k < 33 → DI' (33 * nx + k) = R k) → (∀ q : Int, (q < 33 * nx ∨ 33 * nx + 33 ≤ q) → DI' q = DI q) → zMC h' C l n R DI' (if ac < 14 then ac + 1 else 14) ((nx + 1) % 14) KP IK SW ST sn sd → zMod 112 127 h h' → Q none h') : zC d mX10_note 0 0 [vR 112] h Q := by
  obtain ⟨TR, TI, WH, BG, OD, WO, MA, RD, rp, rs, rm, rw', hW⟩ := hW
  have key : ∀ i : Nat, i ≤ 33 → ∀ DI' : Int → Int, (∀ k : Int, 0 ≤ k → k < i → DI' (33 * nx + k) = R k) → (∀ q : Int, (q < 33 * nx ∨ 33 * nx + 33 ≤ q) → DI' q = DI q) → Z d mX10_note zo 2 [some (vR 112), some (vI i)] [] (zup h 116 (zI 462 DI')) Q := by
    refine z_loop 33 ?_ ?_
    · intro DI' k1 k2
      have hW1 := hW.s116 DI'
      have hW2 := hW1.f_nx ((nx + 1) % 14)
      have hW3 := hW2.f_ac (if ac < 14 then ac + 1 else 14)
      have w112 := hW1.c112
      dsimp only [zMO, zMS.C, zMS.l, zMS.n, zMS.R, zMS.TR, zMS.DI, zMS.ac, zMS.nx, zMS.KP, zMS.IK, zMS.SW, zMS.ST, zMS.sn, zMS.sd, zMS.TI, zMS.WH, zMS.BG, zMS.OD, zMS.WO, zMS.MA, zMS.rp, zMS.RD, zMS.rs, zMS.rm, zMS.rw, zMS.uC, zMS.ul, zMS.un, zMS.uR, zMS.uTR, zMS.uDI, zMS.uac, zMS.unx, zMS.uKP, zMS.uIK, zMS.uSW, zMS.uST, zMS.usn, zMS.usd, zMS.uTI, zMS.uWH, zMS.uBG, zMS.uOD, zMS.uWO, zMS.uMA, zMS.urp, zMS.uRD, zMS.urs, zMS.urm, zMS.urw] at w112
      have w112 := hW2.c112
      dsimp only [zMO, zMS.C, zMS.l, zMS.n, zMS.R, zMS.TR, zMS.DI, zMS.ac, zMS.nx, zMS.KP, zMS.IK, zMS.SW, zMS.ST, zMS.sn, zMS.sd, zMS.TI, zMS.WH, zMS.BG, zMS.OD, zMS.WO, zMS.MA, zMS.rp, zMS.RD, zMS.rs, zMS.rm, zMS.rw, zMS.uC, zMS.ul, zMS.un, zMS.uR, zMS.uTR, zMS.uDI, zMS.uac, zMS.unx, zMS.uKP, zMS.uIK, zMS.uSW, zMS.uST, zMS.usn, zMS.usd, zMS.uTI, zMS.uWH, zMS.uBG, zMS.uOD, zMS.uWO, zMS.uMA, zMS.urp, zMS.uRD, zMS.urs, zMS.urm, zMS.urw] at w112
      refine z_iload_n 3 dX10_note_2 rfl rfl ?_
      refine z_bipush 5 dX10_note_3 rfl (by decide) ?_
      refine z_icmp_ge 34 8 dX10_note_5 (by decide) rfl (by first | omega | exact zr_b _ | exact zr_and _ _ | exact zr_or _ _ | exact zr_shl _ _) (by first | omega | exact zr_b _ | exact zr_and _ _ | exact zr_or _ _ | exact zr_shl _ _) (fun c5 => ?_) (fun c5 => ?_)
      · refine z_aload_n 35 dX10_note_34 rfl rfl ?_
        refine z_aload_n 36 dX10_note_35 rfl rfl ?_
        refine z_getf (ci := 10) 39 dX10_note_36 rfl rfl zin_10 7 (by decide) zw_771 (by first | with_reducible assumption | with_reducible exact zup_same _ _ _) rfl ?_
        refine z_iconst 40 dX10_note_39 rfl ?_
        refine z_iadd 41 dX10_note_40 rfl ?_
        refine z_bipush 43 dX10_note_41 rfl (by decide) ?_
        refine z_irem 44 dX10_note_43 rfl (by first | omega | exact zr_b _ | exact zr_and _ _ | exact zr_or _ _ | exact zr_shl _ _) (by first | omega | exact zr_b _ | exact zr_and _ _ | exact zr_or _ _ | exact zr_shl _ _) ?_
        refine z_putf (ci := 10) 47 dX10_note_44 rfl rfl zin_10 tyX10_ok nmX10 7 (by decide) zw_771 rfl (fun _ => ⟨rfl, rfl⟩) (by omega) (by first | with_reducible assumption | with_reducible exact zup_same _ _ _) (Nat.le_of_ble_eq_true rfl) ?_
        refine z_aload_n 48 dX10_note_47 rfl rfl ?_
        refine z_aload_n 49 dX10_note_48 rfl rfl ?_
        refine z_getf (ci := 10) 52 dX10_note_49 rfl rfl zin_10 6 (by decide) zw_770 (by first | with_reducible assumption | with_reducible exact zup_same _ _ _) rfl ?_
        refine z_bipush 54 dX10_note_52 rfl (by decide) ?_
        refine z_icmp_ge 66 57 dX10_note_54 (by decide) rfl (by first | omega | exact zr_b _ | exact zr_and _ _ | exact zr_or _ _ | exact zr_shl _ _) (by first | omega | exact zr_b _ | exact zr_and _ _ | exact zr_or _ _ | exact zr_shl _ _) (fun c54 => ?_) (fun c54 => ?_)
        · rw [if_neg (show ¬ ac < 14 by omega)] at hQ hW3
          refine z_bipush 68 dX10_note_66 rfl (by decide) ?_
          refine z_putf (ci := 10) 71 dX10_note_68 rfl rfl zin_10 tyX10_ok nmX10 6 (by decide) zw_770 rfl (fun _ => ⟨rfl, rfl⟩) (by omega) (by first | with_reducible assumption | with_reducible exact zup_same _ _ _) (Nat.le_of_ble_eq_true rfl) ?_
          refine z_vret dX10_note_71 (by first | exact True.intro | exact Or.inl rfl | exact Or.inr rfl | exact zb_01 _ | assumption | (show _ ∨ _; omega)) ⟨Nat.le_refl _, Nat.le_refl _⟩ ?_
          exact hQ _ DI' k1 k2 hW3.mc ((((zMod.rf _ _ h).up _ (by omega)).up _ (by omega)).up _ (by omega))
        · rw [if_pos (show ac < 14 by omega)] at hQ hW3
          refine z_aload_n 58 dX10_note_57 rfl rfl ?_
          refine z_getf (ci := 10) 61 dX10_note_58 rfl rfl zin_10 6 (by decide) zw_770 (by first | with_reducible assumption | with_reducible exact zup_same _ _ _) rfl ?_
          refine z_iconst 62 dX10_note_61 rfl ?_
          refine z_iadd 63 dX10_note_62 rfl ?_
          refine z_goto 68 dX10_note_63 (by decide) ?_
          refine z_putf (ci := 10) 71 dX10_note_68 rfl rfl zin_10 tyX10_ok nmX10 6 (by decide) zw_770 rfl (fun _ => ⟨rfl, rfl⟩) (by omega) (by first | with_reducible assumption | with_reducible exact zup_same _ _ _) (Nat.le_of_ble_eq_true rfl) ?_
          refine z_vret dX10_note_71 (by first | exact True.intro | exact Or.inl rfl | exact Or.inr rfl | exact zb_01 _ | assumption | (show _ ∨ _; omega)) ⟨Nat.le_refl _, Nat.le_refl _⟩ ?_
          exact hQ _ DI' k1 k2 hW3.mc ((((zMod.rf _ _ h).up _ (by omega)).up _ (by omega)).up _ (by omega))
      · exfalso; omega
    · intro i hi ih DI' k1 k2
      have hW1 := hW.s116 DI'
      have w112 := hW1.c112
      dsimp only [zMO, zMS.C, zMS.l, zMS.n, zMS.R, zMS.TR, zMS.DI, zMS.ac, zMS.nx, zMS.KP, zMS.IK, zMS.SW, zMS.ST, zMS.sn, zMS.sd, zMS.TI, zMS.WH, zMS.BG, zMS.OD, zMS.WO, zMS.MA, zMS.rp, zMS.RD, zMS.rs, zMS.rm, zMS.rw, zMS.uC, zMS.ul, zMS.un, zMS.uR, zMS.uTR, zMS.uDI, zMS.uac, zMS.unx, zMS.uKP, zMS.uIK, zMS.uSW, zMS.uST, zMS.usn, zMS.usd, zMS.uTI, zMS.uWH, zMS.uBG, zMS.uOD, zMS.uWO, zMS.uMA, zMS.urp, zMS.uRD, zMS.urs, zMS.urm, zMS.urw] at w112
      have w114 := hW1.c114
      dsimp only [zMO, zMS.C, zMS.l, zMS.n, zMS.R, zMS.TR, zMS.DI, zMS.ac, zMS.nx, zMS.KP, zMS.IK, zMS.SW, zMS.ST, zMS.sn, zMS.sd, zMS.TI, zMS.WH, zMS.BG, zMS.OD, zMS.WO, zMS.MA, zMS.rp, zMS.RD, zMS.rs, zMS.rm, zMS.rw, zMS.uC, zMS.ul, zMS.un, zMS.uR, zMS.uTR, zMS.uDI, zMS.uac, zMS.unx, zMS.uKP, zMS.uIK, zMS.uSW, zMS.uST, zMS.usn, zMS.usd, zMS.uTI, zMS.uWH, zMS.uBG, zMS.uOD, zMS.uWO, zMS.uMA, zMS.urp, zMS.uRD, zMS.urs, zMS.urm, zMS.urw] at w114
      refine z_iload_n 3 dX10_note_2 rfl rfl ?_
      refine z_bipush 5 dX10_note_3 rfl (by decide) ?_
      refine z_icmp_ge 34 8 dX10_note_5 (by decide) rfl (by first | omega | exact zr_b _ | exact zr_and _ _ | exact zr_or _ _ | exact zr_shl _ _) (by first | omega | exact zr_b _ | exact zr_and _ _ | exact zr_or _ _ | exact zr_shl _ _) (fun c5 => ?_) (fun c5 => ?_)
      · exfalso; omega
      · refine z_aload_n 9 dX10_note_8 rfl rfl ?_
        refine z_getf (ci := 10) 12 dX10_note_9 rfl rfl zin_10 5 (by decide) zw_769 (by first | with_reducible assumption | with_reducible exact zup_same _ _ _) rfl ?_
        refine z_bipush 14 dX10_note_12 rfl (by decide) ?_
        refine z_aload_n 15 dX10_note_14 rfl rfl ?_
        refine z_getf (ci := 10) 18 dX10_note_15 rfl rfl zin_10 7 (by decide) zw_771 (by first | with_reducible assumption | with_reducible exact zup_same _ _ _) rfl ?_
        refine z_imul 19 dX10_note_18 rfl ?_
        refine z_iload_n 20 dX10_note_19 rfl rfl ?_
        refine z_iadd 21 dX10_note_20 rfl ?_
        refine z_aload_n 22 dX10_note_21 rfl rfl ?_
        refine z_getf (ci := 10) 25 dX10_note_22 rfl rfl zin_10 3 (by decide) zw_767 (by first | with_reducible assumption | with_reducible exact zup_same _ _ _) rfl ?_
        refine z_iload_n 26 dX10_note_25 rfl rfl ?_
        refine z_iald 27 dX10_note_26 rfl (by first | with_reducible assumption | with_reducible exact zup_same _ _ _) (by omega) (by first | omega | exact zr_b _ | exact zr_and _ _ | exact zr_or _ _ | exact zr_shl _ _) ?_
        refine z_iast 28 dX10_note_27 rfl (by omega) (by first | with_reducible assumption | with_reducible exact zup_same _ _ _) (by omega) (by first | omega | exact zr_b _ | exact zr_and _ _ | exact zr_or _ _ | exact zr_shl _ _) ?_
        refine z_iinc 31 dX10_note_28 rfl (by decide) rfl ?_
        refine z_goto 2 dX10_note_31 (by decide) ?_
        have k := ih (zst DI' (33 * nx + i) (R i)) (fun j h1 h2 => by
          by_cases e : j = i
          · subst e; exact zst_same _ _ _
          · rw [zst_ne _ _ (by omega)]; exact k1 j h1 (by omega)) (fun q hq => by rw [zst_ne _ _ (by omega)]; exact k2 q hq)
        rw [← zup_zup h 116 (zI 462 DI')] at k
        exact k
  refine zC.of zpl_X10 (Nat.le_of_ble_eq_true rfl) ?_
  refine z_iconst 1 dX10_note_0 rfl ?_
  refine z_istore_n 2 dX10_note_1 rfl (by decide) ?_
  have k := key 0 (by omega) DI (fun j h1 h2 => by exfalso; omega) (fun q _ => rfl)
  rw [zup_self h hW.c116] at k
  exact k
theorem m_undo_no (hW : zMC h C l n R DI 0 nx KP IK SW ST sn sd) (hQ : Q (some (vI (-3))) h) : zC (d + 4) mX10_undo 0 0 [vR 112] h Q := by
  obtain ⟨TR, TI, WH, BG, OD, WO, MA, RD, rp, rs, rm, rw', hW⟩ := hW
  have w112 := hW.c112
  dsimp only [zMO, zMS.C, zMS.l, zMS.n, zMS.R, zMS.TR, zMS.DI, zMS.ac, zMS.nx, zMS.KP, zMS.IK, zMS.SW, zMS.ST, zMS.sn, zMS.sd, zMS.TI, zMS.WH, zMS.BG, zMS.OD, zMS.WO, zMS.MA, zMS.rp, zMS.RD, zMS.rs, zMS.rm, zMS.rw, zMS.uC, zMS.ul, zMS.un, zMS.uR, zMS.uTR, zMS.uDI, zMS.uac, zMS.unx, zMS.uKP, zMS.uIK, zMS.uSW, zMS.uST, zMS.usn, zMS.usd, zMS.uTI, zMS.uWH, zMS.uBG, zMS.uOD, zMS.uWO, zMS.uMA, zMS.urp, zMS.uRD, zMS.urs, zMS.urm, zMS.urw] at w112
  refine zC.of zpl_X10 (Nat.le_of_ble_eq_true rfl) ?_
  refine z_aload_n 1 dX10_undo_0 rfl rfl ?_
  refine z_getf (ci := 10) 4 dX10_undo_1 rfl rfl zin_10 6 (by decide) zw_770 (by first | with_reducible assumption | with_reducible exact zup_same _ _ _) rfl ?_
  refine z_if_ne 10 7 dX10_undo_4 (by decide) rfl (by first | omega | exact zr_b _ | exact zr_and _ _ | exact zr_or _ _ | exact zr_shl _ _) (fun c4 => ?_) (fun c4 => ?_)
  · exact absurd rfl c4
  · try replace c4 := zb_0 c4
    refine z_bipush 9 dX10_undo_7 rfl (by decide) ?_
    refine z_ret dX10_undo_9 (by first | exact True.intro | exact Or.inl rfl | exact Or.inr rfl | exact zb_01 _ | assumption | (show _ ∨ _; omega)) ⟨Nat.le_refl _, Nat.le_refl _⟩ ?_
    exact hQ
theorem m_undo (hW : zMC h C l n R DI ac nx KP IK SW ST sn sd) (ha : 0 < ac ∧ ac ≤ 14) (hx : 0 ≤ nx ∧ nx < 14)
    (hQ : ∀ (h' : zH) (R' : Int → Int), (∀ k : Int, 0 ≤ k → k < 33 → R' k = DI (33 * ((nx + 14 - 1) % 14) + k)) → zMC h' C l n R' DI (ac - 1) ((nx + 14 - 1) % 14) KP IK SW ST sn sd → zMod 112 127 h h' → Q (some (vI (ac - 1))) h') : zC (d + 4) mX10_undo 0 0 [vR 112] h Q := by
  obtain ⟨TR, TI, WH, BG, OD, WO, MA, RD, rp, rs, rm, rw', hW⟩ := hW
  have hW1 := hW.f_ac (ac - 1)
  have hW2 := hW1.f_nx ((nx + 14 - 1) % 14)
  have hF : zMod 112 127 h (zup (zup h 112 (zMO (zMS.uac (C, l, n, R, TR, DI, ac, nx, KP, IK, SW, ST, sn, sd, TI, WH, BG, OD, WO, MA, rp, RD, rs, rm, rw') (ac - 1)))) 112 (zMO (zMS.unx (zMS.uac (C, l, n, R, TR, DI, ac, nx, KP, IK, SW, ST, sn, sd, TI, WH, BG, OD, WO, MA, rp, RD, rs, rm, rw') (ac - 1)) ((nx + 14 - 1) % 14)))) := ((zMod.rf _ _ h).up _ (by omega)).up _ (by omega)
  have key : ∀ (h2 : zH), zMW h2 (C, l, n, R, TR, DI, ac - 1, (nx + 14 - 1) % 14, KP, IK, SW, ST, sn, sd, TI, WH, BG, OD, WO, MA, rp, RD, rs, rm, rw') → zMod 112 127 h h2 → ∀ i : Nat, i ≤ 33 → ∀ R' : Int → Int, (∀ k : Int, 0 ≤ k → k < i → R' k = DI (33 * ((nx + 14 - 1) % 14) + k)) → Z (d + 4) mX10_undo zo 38 [some (vR 112), some (vI i)] [] (zup h2 114 (zI 33 R')) Q := by
    intro h2 hW hF
    refine z_loop 33 ?_ ?_
    · intro R' k1
      have hW1 := hW.s114 R'
      have w112 := hW1.c112
      dsimp only [zMO, zMS.C, zMS.l, zMS.n, zMS.R, zMS.TR, zMS.DI, zMS.ac, zMS.nx, zMS.KP, zMS.IK, zMS.SW, zMS.ST, zMS.sn, zMS.sd, zMS.TI, zMS.WH, zMS.BG, zMS.OD, zMS.WO, zMS.MA, zMS.rp, zMS.RD, zMS.rs, zMS.rm, zMS.rw, zMS.uC, zMS.ul, zMS.un, zMS.uR, zMS.uTR, zMS.uDI, zMS.uac, zMS.unx, zMS.uKP, zMS.uIK, zMS.uSW, zMS.uST, zMS.usn, zMS.usd, zMS.uTI, zMS.uWH, zMS.uBG, zMS.uOD, zMS.uWO, zMS.uMA, zMS.urp, zMS.uRD, zMS.urs, zMS.urm, zMS.urw] at w112
      refine z_iload_n 39 dX10_undo_38 rfl rfl ?_
      refine z_bipush 41 dX10_undo_39 rfl (by decide) ?_
      refine z_icmp_ge 70 44 dX10_undo_41 (by decide) rfl (by first | omega | exact zr_b _ | exact zr_and _ _ | exact zr_or _ _ | exact zr_shl _ _) (by first | omega | exact zr_b _ | exact zr_and _ _ | exact zr_or _ _ | exact zr_shl _ _) (fun c41 => ?_) (fun c41 => ?_)
      · refine z_aload_n 71 dX10_undo_70 rfl rfl ?_
        refine z_getf (ci := 10) 74 dX10_undo_71 rfl rfl zin_10 6 (by decide) zw_770 (by first | with_reducible assumption | with_reducible exact zup_same _ _ _) rfl ?_
        refine z_ret dX10_undo_74 (by first | exact True.intro | exact Or.inl rfl | exact Or.inr rfl | exact zb_01 _ | assumption | (show _ ∨ _; omega)) ⟨Nat.le_refl _, Nat.le_refl _⟩ ?_
        exact hQ _ R' k1 hW1.mc (hF.up _ (by omega))
      · exfalso; omega
    · intro i hi ih R' k1
      have hW1 := hW.s114 R'
      have w112 := hW1.c112
      dsimp only [zMO, zMS.C, zMS.l, zMS.n, zMS.R, zMS.TR, zMS.DI, zMS.ac, zMS.nx, zMS.KP, zMS.IK, zMS.SW, zMS.ST, zMS.sn, zMS.sd, zMS.TI, zMS.WH, zMS.BG, zMS.OD, zMS.WO, zMS.MA, zMS.rp, zMS.RD, zMS.rs, zMS.rm, zMS.rw, zMS.uC, zMS.ul, zMS.un, zMS.uR, zMS.uTR, zMS.uDI, zMS.uac, zMS.unx, zMS.uKP, zMS.uIK, zMS.uSW, zMS.uST, zMS.usn, zMS.usd, zMS.uTI, zMS.uWH, zMS.uBG, zMS.uOD, zMS.uWO, zMS.uMA, zMS.urp, zMS.uRD, zMS.urs, zMS.urm, zMS.urw] at w112
      have w116 := hW1.c116
      dsimp only [zMO, zMS.C, zMS.l, zMS.n, zMS.R, zMS.TR, zMS.DI, zMS.ac, zMS.nx, zMS.KP, zMS.IK, zMS.SW, zMS.ST, zMS.sn, zMS.sd, zMS.TI, zMS.WH, zMS.BG, zMS.OD, zMS.WO, zMS.MA, zMS.rp, zMS.RD, zMS.rs, zMS.rm, zMS.rw, zMS.uC, zMS.ul, zMS.un, zMS.uR, zMS.uTR, zMS.uDI, zMS.uac, zMS.unx, zMS.uKP, zMS.uIK, zMS.uSW, zMS.uST, zMS.usn, zMS.usd, zMS.uTI, zMS.uWH, zMS.uBG, zMS.uOD, zMS.uWO, zMS.uMA, zMS.urp, zMS.uRD, zMS.urs, zMS.urm, zMS.urw] at w116
      refine z_iload_n 39 dX10_undo_38 rfl rfl ?_
      refine z_bipush 41 dX10_undo_39 rfl (by decide) ?_
      refine z_icmp_ge 70 44 dX10_undo_41 (by decide) rfl (by first | omega | exact zr_b _ | exact zr_and _ _ | exact zr_or _ _ | exact zr_shl _ _) (by first | omega | exact zr_b _ | exact zr_and _ _ | exact zr_or _ _ | exact zr_shl _ _) (fun c41 => ?_) (fun c41 => ?_)
      · exfalso; omega
      · refine z_aload_n 45 dX10_undo_44 rfl rfl ?_
        refine z_getf (ci := 10) 48 dX10_undo_45 rfl rfl zin_10 3 (by decide) zw_767 (by first | with_reducible assumption | with_reducible exact zup_same _ _ _) rfl ?_
        refine z_iload_n 49 dX10_undo_48 rfl rfl ?_
        refine z_aload_n 50 dX10_undo_49 rfl rfl ?_
        refine z_getf (ci := 10) 53 dX10_undo_50 rfl rfl zin_10 5 (by decide) zw_769 (by first | with_reducible assumption | with_reducible exact zup_same _ _ _) rfl ?_
        refine z_bipush 55 dX10_undo_53 rfl (by decide) ?_
        refine z_aload_n 56 dX10_undo_55 rfl rfl ?_
        refine z_getf (ci := 10) 59 dX10_undo_56 rfl rfl zin_10 7 (by decide) zw_771 (by first | with_reducible assumption | with_reducible exact zup_same _ _ _) rfl ?_
        refine z_imul 60 dX10_undo_59 rfl ?_
        refine z_iload_n 61 dX10_undo_60 rfl rfl ?_
        refine z_iadd 62 dX10_undo_61 rfl ?_
        refine z_iald 63 dX10_undo_62 rfl (by first | with_reducible assumption | with_reducible exact zup_same _ _ _) (by omega) (by first | omega | exact zr_b _ | exact zr_and _ _ | exact zr_or _ _ | exact zr_shl _ _) ?_
        refine z_iast 64 dX10_undo_63 rfl (by omega) (by first | with_reducible assumption | with_reducible exact zup_same _ _ _) (by omega) (by first | omega | exact zr_b _ | exact zr_and _ _ | exact zr_or _ _ | exact zr_shl _ _) ?_
        refine z_iinc 67 dX10_undo_64 rfl (by decide) rfl ?_
        refine z_goto 38 dX10_undo_67 (by decide) ?_
        have k := ih (zst R' i (DI (33 * ((nx + 14 - 1) % 14) + i))) (fun j h1 h2 => by
          by_cases e : j = i
          · subst e; exact zst_same _ _ _
          · rw [zst_ne _ _ (by omega)]; exact k1 j h1 (by omega))
        rw [← zup_zup h2 114 (zI 33 R')] at k
        exact k
  have w112 := hW.c112
  dsimp only [zMO, zMS.C, zMS.l, zMS.n, zMS.R, zMS.TR, zMS.DI, zMS.ac, zMS.nx, zMS.KP, zMS.IK, zMS.SW, zMS.ST, zMS.sn, zMS.sd, zMS.TI, zMS.WH, zMS.BG, zMS.OD, zMS.WO, zMS.MA, zMS.rp, zMS.RD, zMS.rs, zMS.rm, zMS.rw, zMS.uC, zMS.ul, zMS.un, zMS.uR, zMS.uTR, zMS.uDI, zMS.uac, zMS.unx, zMS.uKP, zMS.uIK, zMS.uSW, zMS.uST, zMS.usn, zMS.usd, zMS.uTI, zMS.uWH, zMS.uBG, zMS.uOD, zMS.uWO, zMS.uMA, zMS.urp, zMS.uRD, zMS.urs, zMS.urm, zMS.urw] at w112
  have w112 := hW1.c112
  dsimp only [zMO, zMS.C, zMS.l, zMS.n, zMS.R, zMS.TR, zMS.DI, zMS.ac, zMS.nx, zMS.KP, zMS.IK, zMS.SW, zMS.ST, zMS.sn, zMS.sd, zMS.TI, zMS.WH, zMS.BG, zMS.OD, zMS.WO, zMS.MA, zMS.rp, zMS.RD, zMS.rs, zMS.rm, zMS.rw, zMS.uC, zMS.ul, zMS.un, zMS.uR, zMS.uTR, zMS.uDI, zMS.uac, zMS.unx, zMS.uKP, zMS.uIK, zMS.uSW, zMS.uST, zMS.usn, zMS.usd, zMS.uTI, zMS.uWH, zMS.uBG, zMS.uOD, zMS.uWO, zMS.uMA, zMS.urp, zMS.uRD, zMS.urs, zMS.urm, zMS.urw] at w112
  have w112 := hW2.c112
  dsimp only [zMO, zMS.C, zMS.l, zMS.n, zMS.R, zMS.TR, zMS.DI, zMS.ac, zMS.nx, zMS.KP, zMS.IK, zMS.SW, zMS.ST, zMS.sn, zMS.sd, zMS.TI, zMS.WH, zMS.BG, zMS.OD, zMS.WO, zMS.MA, zMS.rp, zMS.RD, zMS.rs, zMS.rm, zMS.rw, zMS.uC, zMS.ul, zMS.un, zMS.uR, zMS.uTR, zMS.uDI, zMS.uac, zMS.unx, zMS.uKP, zMS.uIK, zMS.uSW, zMS.uST, zMS.usn, zMS.usd, zMS.uTI, zMS.uWH, zMS.uBG, zMS.uOD, zMS.uWO, zMS.uMA, zMS.urp, zMS.uRD, zMS.urs, zMS.urm, zMS.urw] at w112
  refine zC.of zpl_X10 (Nat.le_of_ble_eq_true rfl) ?_
  refine z_aload_n 1 dX10_undo_0 rfl rfl ?_
  refine z_getf (ci := 10) 4 dX10_undo_1 rfl rfl zin_10 6 (by decide) zw_770 (by first | with_reducible assumption | with_reducible exact zup_same _ _ _) rfl ?_
  refine z_if_ne 10 7 dX10_undo_4 (by decide) rfl (by first | omega | exact zr_b _ | exact zr_and _ _ | exact zr_or _ _ | exact zr_shl _ _) (fun c4 => ?_) (fun c4 => ?_)
  · try replace c4 := zb_1 c4
    refine z_aload_n 11 dX10_undo_10 rfl rfl ?_
    refine z_dup_a 12 dX10_undo_11 rfl ?_
    refine z_getf (ci := 10) 15 dX10_undo_12 rfl rfl zin_10 6 (by decide) zw_770 (by first | with_reducible assumption | with_reducible exact zup_same _ _ _) rfl ?_
    refine z_iconst 16 dX10_undo_15 rfl ?_
    refine z_isub 17 dX10_undo_16 rfl ?_
    refine z_putf (ci := 10) 20 dX10_undo_17 rfl rfl zin_10 tyX10_ok nmX10 6 (by decide) zw_770 rfl (fun _ => ⟨rfl, rfl⟩) (by omega) (by first | with_reducible assumption | with_reducible exact zup_same _ _ _) (Nat.le_of_ble_eq_true rfl) ?_
    refine z_aload_n 21 dX10_undo_20 rfl rfl ?_
    refine z_aload_n 22 dX10_undo_21 rfl rfl ?_
    refine z_getf (ci := 10) 25 dX10_undo_22 rfl rfl zin_10 7 (by decide) zw_771 (by first | with_reducible assumption | with_reducible exact zup_same _ _ _) rfl ?_
    refine z_bipush 27 dX10_undo_25 rfl (by decide) ?_
    refine z_iadd 28 dX10_undo_27 rfl ?_
    refine z_iconst 29 dX10_undo_28 rfl ?_
    refine z_isub 30 dX10_undo_29 rfl ?_
    refine z_bipush 32 dX10_undo_30 rfl (by decide) ?_
    refine z_irem 33 dX10_undo_32 rfl (by first | omega | exact zr_b _ | exact zr_and _ _ | exact zr_or _ _ | exact zr_shl _ _) (by first | omega | exact zr_b _ | exact zr_and _ _ | exact zr_or _ _ | exact zr_shl _ _) ?_
    refine z_putf (ci := 10) 36 dX10_undo_33 rfl rfl zin_10 tyX10_ok nmX10 7 (by decide) zw_771 rfl (fun _ => ⟨rfl, rfl⟩) (by omega) (by first | with_reducible assumption | with_reducible exact zup_same _ _ _) (Nat.le_of_ble_eq_true rfl) ?_
    refine z_iconst 37 dX10_undo_36 rfl ?_
    refine z_istore_n 38 dX10_undo_37 rfl (by decide) ?_
    have k := key _ hW2 hF 0 (by omega) R (fun j h1 h2 => by exfalso; omega)
    rw [zup_self _ hW2.c114] at k
    exact k
  · exfalso; omega
end MNOTE
