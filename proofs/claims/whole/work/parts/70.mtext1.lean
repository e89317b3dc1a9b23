/-! THE MODEL: the text's letters, taken -/
section MTEXT1
variable {d : Nat} {h : zH} {Q : Option zV → zH → Prop} {C : Int → Int} {l n : Int} {R TR DI : Int → Int} {ac nx : Int} {KP IK SW ST : Int → Int} {sn sd : Int} {TI WH BG OD WO MA : Int → Int} {rp : Int} {RD : Int → Int} {rs rm rw : Int}
theorem c_X10_takeHead1 {f : Int} (hW : zMW h (C, l, n, R, TR, DI, ac, nx, KP, IK, SW, ST, sn, sd, TI, WH, BG, OD, WO, MA, rp, RD, rs, rm, rw)) (hf : -100 ≤ f ∧ f ≤ 300) (hQ : ∀ h' : zH, zMW h' (C, l, n, R, TR, DI, ac, nx, KP, IK, SW, ST, sn, sd, TI, WH, BG, OD, WO, MA, rp, zst RD 0 f, rs, rm, rw) → zMod 112 127 h h' → Q (some (vI (zb (1 ≤ f ∧ f ≤ 3)))) h') : zC (d + 1) mX10_takeHead 0 0 [vR 112, vI 1, vI f] h Q := by
  have w112 := hW.c112
  dsimp only [zMO, zMS.C, zMS.l, zMS.n, zMS.R, zMS.TR, zMS.DI, zMS.ac, zMS.nx, zMS.KP, zMS.IK, zMS.SW, zMS.ST, zMS.sn, zMS.sd, zMS.TI, zMS.WH, zMS.BG, zMS.OD, zMS.WO, zMS.MA, zMS.rp, zMS.RD, zMS.rs, zMS.rm, zMS.rw, zMS.uC, zMS.ul, zMS.un, zMS.uR, zMS.uTR, zMS.uDI, zMS.uac, zMS.unx, zMS.uKP, zMS.uIK, zMS.uSW, zMS.uST, zMS.usn, zMS.usd, zMS.uTI, zMS.uWH, zMS.uBG, zMS.uOD, zMS.uWO, zMS.uMA, zMS.urp, zMS.uRD, zMS.urs, zMS.urm, zMS.urw] at w112
  have w127 := hW.c127
  dsimp only [zMO, zMS.C, zMS.l, zMS.n, zMS.R, zMS.TR, zMS.DI, zMS.ac, zMS.nx, zMS.KP, zMS.IK, zMS.SW, zMS.ST, zMS.sn, zMS.sd, zMS.TI, zMS.WH, zMS.BG, zMS.OD, zMS.WO, zMS.MA, zMS.rp, zMS.RD, zMS.rs, zMS.rm, zMS.rw, zMS.uC, zMS.ul, zMS.un, zMS.uR, zMS.uTR, zMS.uDI, zMS.uac, zMS.unx, zMS.uKP, zMS.uIK, zMS.uSW, zMS.uST, zMS.usn, zMS.usd, zMS.uTI, zMS.uWH, zMS.uBG, zMS.uOD, zMS.uWO, zMS.uMA, zMS.urp, zMS.uRD, zMS.urs, zMS.urm, zMS.urw] at w127
  refine zC.of zpl_X10 (Nat.le_of_ble_eq_true rfl) ?_
  refine z_iload_n 1 dX10_takeHead_0 rfl rfl ?_
  refine z_iconst 2 dX10_takeHead_1 rfl ?_
  refine z_icmp_ne 22 5 dX10_takeHead_2 (by decide) rfl (by first | omega | exact zr_b _ | exact zr_and _ _ | exact zr_or _ _ | exact zr_shl _ _) (by first | omega | exact zr_b _ | exact zr_and _ _ | exact zr_or _ _ | exact zr_shl _ _) (fun c2 => ?_) (fun c2 => ?_)
  · exact absurd rfl c2
  · refine z_aload_n 6 dX10_takeHead_5 rfl rfl ?_
    refine z_getf (ci := 10) 9 dX10_takeHead_6 rfl rfl zin_10 21 (by decide) zw_785 (by first | with_reducible assumption | with_reducible exact zup_same _ _ _) rfl ?_
    refine z_iconst 10 dX10_takeHead_9 rfl ?_
    refine z_iload_n 11 dX10_takeHead_10 rfl rfl ?_
    refine z_iast 12 dX10_takeHead_11 rfl (by omega) (by first | with_reducible assumption | with_reducible exact zup_same _ _ _) (by omega) (by first | omega | exact zr_b _ | exact zr_and _ _ | exact zr_or _ _ | exact zr_shl _ _) ?_
    refine z_iload_n 13 dX10_takeHead_12 rfl rfl ?_
    refine z_i2l 14 dX10_takeHead_13 rfl (by first | omega | exact zr_b _ | exact zr_and _ _ | exact zr_or _ _ | exact zr_shl _ _) ?_
    refine z_lconst 15 dX10_takeHead_14 rfl ?_
    refine z_ldc2 (x := 3) 18 dX10_takeHead_15 rfl zw_865 ?_
    refine z_cS3 21 dX10_takeHead_18 rfl kX10_in zw_846 (Nat.le_of_ble_eq_true rfl) ⟨Nat.le_refl _, Nat.le_refl _⟩ ?_
    refine c_X10_in (a := 1) (by omega) (by omega) (by omega) ?_
    refine z_ret dX10_takeHead_21 (by first | exact True.intro | exact Or.inl rfl | exact Or.inr rfl | exact zb_01 _ | assumption | (show _ ∨ _; omega)) ⟨Nat.le_refl _, Nat.le_refl _⟩ ?_
    exact hQ _ (hW.s127 _) ((zMod.rf _ _ h).up _ (by omega))
theorem c_X10_takeHead2 {f : Int} (hW : zMW h (C, l, n, R, TR, DI, ac, nx, KP, IK, SW, ST, sn, sd, TI, WH, BG, OD, WO, MA, rp, RD, rs, rm, rw)) (hf : -100 ≤ f ∧ f ≤ 300) (hQ : ∀ h' : zH, zMW h' (C, l, n, R, TR, DI, ac, nx, KP, IK, SW, ST, sn, sd, TI, WH, BG, OD, WO, MA, f, RD, rs, rm, rw) → zMod 112 127 h h' → Q (some (vI (zb (1 ≤ f ∧ f ≤ 8)))) h') : zC (d + 1) mX10_takeHead 0 0 [vR 112, vI 2, vI f] h Q := by
  have w112 := hW.c112
  dsimp only [zMO, zMS.C, zMS.l, zMS.n, zMS.R, zMS.TR, zMS.DI, zMS.ac, zMS.nx, zMS.KP, zMS.IK, zMS.SW, zMS.ST, zMS.sn, zMS.sd, zMS.TI, zMS.WH, zMS.BG, zMS.OD, zMS.WO, zMS.MA, zMS.rp, zMS.RD, zMS.rs, zMS.rm, zMS.rw, zMS.uC, zMS.ul, zMS.un, zMS.uR, zMS.uTR, zMS.uDI, zMS.uac, zMS.unx, zMS.uKP, zMS.uIK, zMS.uSW, zMS.uST, zMS.usn, zMS.usd, zMS.uTI, zMS.uWH, zMS.uBG, zMS.uOD, zMS.uWO, zMS.uMA, zMS.urp, zMS.uRD, zMS.urs, zMS.urm, zMS.urw] at w112
  refine zC.of zpl_X10 (Nat.le_of_ble_eq_true rfl) ?_
  refine z_iload_n 1 dX10_takeHead_0 rfl rfl ?_
  refine z_iconst 2 dX10_takeHead_1 rfl ?_
  refine z_icmp_ne 22 5 dX10_takeHead_2 (by decide) rfl (by first | omega | exact zr_b _ | exact zr_and _ _ | exact zr_or _ _ | exact zr_shl _ _) (by first | omega | exact zr_b _ | exact zr_and _ _ | exact zr_or _ _ | exact zr_shl _ _) (fun c2 => ?_) (fun c2 => ?_)
  · refine z_iload_n 23 dX10_takeHead_22 rfl rfl ?_
    refine z_iconst 24 dX10_takeHead_23 rfl ?_
    refine z_icmp_ne 42 27 dX10_takeHead_24 (by decide) rfl (by first | omega | exact zr_b _ | exact zr_and _ _ | exact zr_or _ _ | exact zr_shl _ _) (by first | omega | exact zr_b _ | exact zr_and _ _ | exact zr_or _ _ | exact zr_shl _ _) (fun c24 => ?_) (fun c24 => ?_)
    · exact absurd rfl c24
    · refine z_aload_n 28 dX10_takeHead_27 rfl rfl ?_
      refine z_iload_n 29 dX10_takeHead_28 rfl rfl ?_
      refine z_putf (ci := 10) 32 dX10_takeHead_29 rfl rfl zin_10 tyX10_ok nmX10 20 (by decide) zw_784 rfl (fun _ => ⟨rfl, rfl⟩) (by omega) (by first | with_reducible assumption | with_reducible exact zup_same _ _ _) (Nat.le_of_ble_eq_true rfl) ?_
      refine z_iload_n 33 dX10_takeHead_32 rfl rfl ?_
      refine z_i2l 34 dX10_takeHead_33 rfl (by first | omega | exact zr_b _ | exact zr_and _ _ | exact zr_or _ _ | exact zr_shl _ _) ?_
      refine z_lconst 35 dX10_takeHead_34 rfl ?_
      refine z_ldc2 (x := 8) 38 dX10_takeHead_35 rfl zw_866 ?_
      refine z_cS3 41 dX10_takeHead_38 rfl kX10_in zw_846 (Nat.le_of_ble_eq_true rfl) ⟨Nat.le_refl _, Nat.le_refl _⟩ ?_
      refine c_X10_in (a := 1) (by omega) (by omega) (by omega) ?_
      refine z_ret dX10_takeHead_41 (by first | exact True.intro | exact Or.inl rfl | exact Or.inr rfl | exact zb_01 _ | assumption | (show _ ∨ _; omega)) ⟨Nat.le_refl _, Nat.le_refl _⟩ ?_
      exact hQ _ (hW.f_rp f) ((zMod.rf _ _ h).up _ (by omega))
  · exfalso; omega
theorem c_X10_takeHead3 {f : Int} {k : Nat} (hW : zMW h (C, l, n, R, TR, DI, ac, nx, KP, IK, SW, ST, sn, sd, TI, WH, BG, OD, WO, MA, rp, RD, rs, rm, rw)) (hf : -100 ≤ f ∧ f ≤ 300) (hk : 3 ≤ k ∧ k < 19) (hQ : ∀ (h' : zH) (i : Int), (if k % 2 = 1 then i = 1 + ((k : Int) - 3) / 2 else i = 9 + ((k : Int) - 3) / 2) → zMW h' (C, l, n, R, TR, DI, ac, nx, KP, IK, SW, ST, sn, sd, TI, WH, BG, OD, WO, MA, rp, zst RD i f, rs, rm, rw) → zMod 112 127 h h' → Q (some (vI (zb (1 ≤ f ∧ f ≤ (if ((k : Int) - 3) % 2 = 0 then 9 else 5))))) h') : zC (d + 1) mX10_takeHead 0 0 [vR 112, vI k, vI f] h Q := by
  have w112 := hW.c112
  dsimp only [zMO, zMS.C, zMS.l, zMS.n, zMS.R, zMS.TR, zMS.DI, zMS.ac, zMS.nx, zMS.KP, zMS.IK, zMS.SW, zMS.ST, zMS.sn, zMS.sd, zMS.TI, zMS.WH, zMS.BG, zMS.OD, zMS.WO, zMS.MA, zMS.rp, zMS.RD, zMS.rs, zMS.rm, zMS.rw, zMS.uC, zMS.ul, zMS.un, zMS.uR, zMS.uTR, zMS.uDI, zMS.uac, zMS.unx, zMS.uKP, zMS.uIK, zMS.uSW, zMS.uST, zMS.usn, zMS.usd, zMS.uTI, zMS.uWH, zMS.uBG, zMS.uOD, zMS.uWO, zMS.uMA, zMS.urp, zMS.uRD, zMS.urs, zMS.urm, zMS.urw] at w112
  have w127 := hW.c127
  dsimp only [zMO, zMS.C, zMS.l, zMS.n, zMS.R, zMS.TR, zMS.DI, zMS.ac, zMS.nx, zMS.KP, zMS.IK, zMS.SW, zMS.ST, zMS.sn, zMS.sd, zMS.TI, zMS.WH, zMS.BG, zMS.OD, zMS.WO, zMS.MA, zMS.rp, zMS.RD, zMS.rs, zMS.rm, zMS.rw, zMS.uC, zMS.ul, zMS.un, zMS.uR, zMS.uTR, zMS.uDI, zMS.uac, zMS.unx, zMS.uKP, zMS.uIK, zMS.uSW, zMS.uST, zMS.usn, zMS.usd, zMS.uTI, zMS.uWH, zMS.uBG, zMS.uOD, zMS.uWO, zMS.uMA, zMS.urp, zMS.uRD, zMS.urs, zMS.urm, zMS.urw] at w127
  by_cases e : k % 2 = 1
  · rw [if_pos (show ((k : Int) - 3) % 2 = 0 by omega)] at hQ
    refine zC.of zpl_X10 (Nat.le_of_ble_eq_true rfl) ?_
    refine z_iload_n 1 dX10_takeHead_0 rfl rfl ?_
    refine z_iconst 2 dX10_takeHead_1 rfl ?_
    refine z_icmp_ne 22 5 dX10_takeHead_2 (by decide) rfl (by first | omega | exact zr_b _ | exact zr_and _ _ | exact zr_or _ _ | exact zr_shl _ _) (by first | omega | exact zr_b _ | exact zr_and _ _ | exact zr_or _ _ | exact zr_shl _ _) (fun c2 => ?_) (fun c2 => ?_)
    · refine z_iload_n 23 dX10_takeHead_22 rfl rfl ?_
      refine z_iconst 24 dX10_takeHead_23 rfl ?_
      refine z_icmp_ne 42 27 dX10_takeHead_24 (by decide) rfl (by first | omega | exact zr_b _ | exact zr_and _ _ | exact zr_or _ _ | exact zr_shl _ _) (by first | omega | exact zr_b _ | exact zr_and _ _ | exact zr_or _ _ | exact zr_shl _ _) (fun c24 => ?_) (fun c24 => ?_)
      · refine z_iload_n 43 dX10_takeHead_42 rfl rfl ?_
        refine z_iconst 44 dX10_takeHead_43 rfl ?_
        refine z_isub 45 dX10_takeHead_44 rfl ?_
        refine z_iconst 46 dX10_takeHead_45 rfl ?_
        refine z_idiv 47 dX10_takeHead_46 rfl (by first | omega | exact zr_b _ | exact zr_and _ _ | exact zr_or _ _ | exact zr_shl _ _) (by first | omega | exact zr_b _ | exact zr_and _ _ | exact zr_or _ _ | exact zr_shl _ _) ?_
        refine z_istore_n 48 dX10_takeHead_47 rfl (by decide) ?_
        refine z_iload_n 49 dX10_takeHead_48 rfl rfl ?_
        refine z_iconst 50 dX10_takeHead_49 rfl ?_
        refine z_irem 51 dX10_takeHead_50 rfl (by first | omega | exact zr_b _ | exact zr_and _ _ | exact zr_or _ _ | exact zr_shl _ _) (by first | omega | exact zr_b _ | exact zr_and _ _ | exact zr_or _ _ | exact zr_shl _ _) ?_
        refine z_iconst 52 dX10_takeHead_51 rfl ?_
        refine z_icmp_ne 74 55 dX10_takeHead_52 (by decide) rfl (by first | omega | exact zr_b _ | exact zr_and _ _ | exact zr_or _ _ | exact zr_shl _ _) (by first | omega | exact zr_b _ | exact zr_and _ _ | exact zr_or _ _ | exact zr_shl _ _) (fun c52 => ?_) (fun c52 => ?_)
        · exfalso; omega
        · refine z_aload_n 56 dX10_takeHead_55 rfl rfl ?_
          refine z_getf (ci := 10) 59 dX10_takeHead_56 rfl rfl zin_10 21 (by decide) zw_785 (by first | with_reducible assumption | with_reducible exact zup_same _ _ _) rfl ?_
          refine z_iconst 60 dX10_takeHead_59 rfl ?_
          refine z_iload_n 61 dX10_takeHead_60 rfl rfl ?_
          refine z_iadd 62 dX10_takeHead_61 rfl ?_
          refine z_iload_n 63 dX10_takeHead_62 rfl rfl ?_
          refine z_iast 64 dX10_takeHead_63 rfl (by omega) (by first | with_reducible assumption | with_reducible exact zup_same _ _ _) (by omega) (by first | omega | exact zr_b _ | exact zr_and _ _ | exact zr_or _ _ | exact zr_shl _ _) ?_
          refine z_iload_n 65 dX10_takeHead_64 rfl rfl ?_
          refine z_i2l 66 dX10_takeHead_65 rfl (by first | omega | exact zr_b _ | exact zr_and _ _ | exact zr_or _ _ | exact zr_shl _ _) ?_
          refine z_lconst 67 dX10_takeHead_66 rfl ?_
          refine z_ldc2 (x := 9) 70 dX10_takeHead_67 rfl zw_867 ?_
          refine z_cS3 73 dX10_takeHead_70 rfl kX10_in zw_846 (Nat.le_of_ble_eq_true rfl) ⟨Nat.le_refl _, Nat.le_refl _⟩ ?_
          refine c_X10_in (a := 1) (by omega) (by omega) (by omega) ?_
          refine z_ret dX10_takeHead_73 (by first | exact True.intro | exact Or.inl rfl | exact Or.inr rfl | exact zb_01 _ | assumption | (show _ ∨ _; omega)) ⟨Nat.le_refl _, Nat.le_refl _⟩ ?_
          exact hQ _ _ (by rw [if_pos e]) (hW.s127 _) ((zMod.rf _ _ h).up _ (by omega))
      · exfalso; omega
    · exfalso; omega
  · rw [if_neg (show ¬ ((k : Int) - 3) % 2 = 0 by omega)] at hQ
    refine zC.of zpl_X10 (Nat.le_of_ble_eq_true rfl) ?_
    refine z_iload_n 1 dX10_takeHead_0 rfl rfl ?_
    refine z_iconst 2 dX10_takeHead_1 rfl ?_
    refine z_icmp_ne 22 5 dX10_takeHead_2 (by decide) rfl (by first | omega | exact zr_b _ | exact zr_and _ _ | exact zr_or _ _ | exact zr_shl _ _) (by first | omega | exact zr_b _ | exact zr_and _ _ | exact zr_or _ _ | exact zr_shl _ _) (fun c2 => ?_) (fun c2 => ?_)
    · refine z_iload_n 23 dX10_takeHead_22 rfl rfl ?_
      refine z_iconst 24 dX10_takeHead_23 rfl ?_
      refine z_icmp_ne 42 27 dX10_takeHead_24 (by decide) rfl (by first | omega | exact zr_b _ | exact zr_and _ _ | exact zr_or _ _ | exact zr_shl _ _) (by first | omega | exact zr_b _ | exact zr_and _ _ | exact zr_or _ _ | exact zr_shl _ _) (fun c24 => ?_) (fun c24 => ?_)
      · refine z_iload_n 43 dX10_takeHead_42 rfl rfl ?_
        refine z_iconst 44 dX10_takeHead_43 rfl ?_
        refine z_isub 45 dX10_takeHead_44 rfl ?_
        refine z_iconst 46 dX10_takeHead_45 rfl ?_
        refine z_idiv 47 dX10_takeHead_46 rfl (by first | omega | exact zr_b _ | exact zr_and _ _ | exact zr_or _ _ | exact zr_shl _ _) (by first | omega | exact zr_b _ | exact zr_and _ _ | exact zr_or _ _ | exact zr_shl _ _) ?_
        refine z_istore_n 48 dX10_takeHead_47 rfl (by decide) ?_
        refine z_iload_n 49 dX10_takeHead_48 rfl rfl ?_
        refine z_iconst 50 dX10_takeHead_49 rfl ?_
        refine z_irem 51 dX10_takeHead_50 rfl (by first | omega | exact zr_b _ | exact zr_and _ _ | exact zr_or _ _ | exact zr_shl _ _) (by first | omega | exact zr_b _ | exact zr_and _ _ | exact zr_or _ _ | exact zr_shl _ _) ?_
        refine z_iconst 52 dX10_takeHead_51 rfl ?_
        refine z_icmp_ne 74 55 dX10_takeHead_52 (by decide) rfl (by first | omega | exact zr_b _ | exact zr_and _ _ | exact zr_or _ _ | exact zr_shl _ _) (by first | omega | exact zr_b _ | exact zr_and _ _ | exact zr_or _ _ | exact zr_shl _ _) (fun c52 => ?_) (fun c52 => ?_)
        · refine z_aload_n 75 dX10_takeHead_74 rfl rfl ?_
          refine z_getf (ci := 10) 78 dX10_takeHead_75 rfl rfl zin_10 21 (by decide) zw_785 (by first | with_reducible assumption | with_reducible exact zup_same _ _ _) rfl ?_
          refine z_bipush 80 dX10_takeHead_78 rfl (by decide) ?_
          refine z_iload_n 81 dX10_takeHead_80 rfl rfl ?_
          refine z_iadd 82 dX10_takeHead_81 rfl ?_
          refine z_iload_n 83 dX10_takeHead_82 rfl rfl ?_
          refine z_iast 84 dX10_takeHead_83 rfl (by omega) (by first | with_reducible assumption | with_reducible exact zup_same _ _ _) (by omega) (by first | omega | exact zr_b _ | exact zr_and _ _ | exact zr_or _ _ | exact zr_shl _ _) ?_
          refine z_iload_n 85 dX10_takeHead_84 rfl rfl ?_
          refine z_i2l 86 dX10_takeHead_85 rfl (by first | omega | exact zr_b _ | exact zr_and _ _ | exact zr_or _ _ | exact zr_shl _ _) ?_
          refine z_lconst 87 dX10_takeHead_86 rfl ?_
          refine z_ldc2 (x := 5) 90 dX10_takeHead_87 rfl zw_868 ?_
          refine z_cS3 93 dX10_takeHead_90 rfl kX10_in zw_846 (Nat.le_of_ble_eq_true rfl) ⟨Nat.le_refl _, Nat.le_refl _⟩ ?_
          refine c_X10_in (a := 1) (by omega) (by omega) (by omega) ?_
          refine z_ret dX10_takeHead_93 (by first | exact True.intro | exact Or.inl rfl | exact Or.inr rfl | exact zb_01 _ | assumption | (show _ ∨ _; omega)) ⟨Nat.le_refl _, Nat.le_refl _⟩ ?_
          exact hQ _ _ (by rw [if_neg e]) (hW.s127 _) ((zMod.rf _ _ h).up _ (by omega))
        · exfalso; omega
      · exfalso; omega
    · exfalso; omega
theorem c_X10_takePart0 {x : Int} (hW : zMW h (C, l, n, R, TR, DI, ac, nx, KP, IK, SW, ST, sn, sd, TI, WH, BG, OD, WO, MA, rp, RD, rs, rm, rw)) (hx : 0 ≤ x ∧ x ≤ 255) (hm : 0 ≤ rm ∧ rm ≤ 100) (hp : 0 ≤ rp ∧ rp ≤ 100) (hQ : Q (some (vI (zb (x = 116 ∧ rm < rp - 1)))) h) : zC (d + 2) mX10_takePart 0 0 [vR 112, vI 0, vI x] h Q := by
  have w112 := hW.c112
  dsimp only [zMO, zMS.C, zMS.l, zMS.n, zMS.R, zMS.TR, zMS.DI, zMS.ac, zMS.nx, zMS.KP, zMS.IK, zMS.SW, zMS.ST, zMS.sn, zMS.sd, zMS.TI, zMS.WH, zMS.BG, zMS.OD, zMS.WO, zMS.MA, zMS.rp, zMS.RD, zMS.rs, zMS.rm, zMS.rw, zMS.uC, zMS.ul, zMS.un, zMS.uR, zMS.uTR, zMS.uDI, zMS.uac, zMS.unx, zMS.uKP, zMS.uIK, zMS.uSW, zMS.uST, zMS.usn, zMS.usd, zMS.uTI, zMS.uWH, zMS.uBG, zMS.uOD, zMS.uWO, zMS.uMA, zMS.urp, zMS.uRD, zMS.urs, zMS.urm, zMS.urw] at w112
  refine zC.of zpl_X10 (Nat.le_of_ble_eq_true rfl) ?_
  refine z_iload_n 1 dX10_takePart_0 rfl rfl ?_
  refine z_bipush 3 dX10_takePart_1 rfl (by decide) ?_
  refine z_isub 4 dX10_takePart_3 rfl ?_
  refine z_istore_n 5 dX10_takePart_4 rfl (by decide) ?_
  refine z_iload_n 6 dX10_takePart_5 rfl rfl ?_
  refine z_if_ne 34 9 dX10_takePart_6 (by decide) rfl (by first | omega | exact zr_b _ | exact zr_and _ _ | exact zr_or _ _ | exact zr_shl _ _) (fun c6 => ?_) (fun c6 => ?_)
  · exact absurd rfl c6
  · try replace c6 := zb_0 c6
    refine z_iload_n 10 dX10_takePart_9 rfl rfl ?_
    refine z_bipush 12 dX10_takePart_10 rfl (by decide) ?_
    refine z_icmp_ne 32 15 dX10_takePart_12 (by decide) rfl (by first | omega | exact zr_b _ | exact zr_and _ _ | exact zr_or _ _ | exact zr_shl _ _) (by first | omega | exact zr_b _ | exact zr_and _ _ | exact zr_or _ _ | exact zr_shl _ _) (fun c12 => ?_) (fun c12 => ?_)
    · refine z_iconst 33 dX10_takePart_32 rfl ?_
      refine z_ret dX10_takePart_33 (by first | exact True.intro | exact Or.inl rfl | exact Or.inr rfl | exact zb_01 _ | assumption | (show _ ∨ _; omega)) ⟨Nat.le_refl _, Nat.le_refl _⟩ ?_
      first | (rw [zb_f (by omega)] at hQ; exact hQ) | (rw [zb_t (by omega)] at hQ; exact hQ)
    · refine z_aload_n 16 dX10_takePart_15 rfl rfl ?_
      refine z_getf (ci := 10) 19 dX10_takePart_16 rfl rfl zin_10 23 (by decide) zw_787 (by first | with_reducible assumption | with_reducible exact zup_same _ _ _) rfl ?_
      refine z_aload_n 20 dX10_takePart_19 rfl rfl ?_
      refine z_getf (ci := 10) 23 dX10_takePart_20 rfl rfl zin_10 20 (by decide) zw_784 (by first | with_reducible assumption | with_reducible exact zup_same _ _ _) rfl ?_
      refine z_iconst 24 dX10_takePart_23 rfl ?_
      refine z_isub 25 dX10_takePart_24 rfl ?_
      refine z_icmp_ge 32 28 dX10_takePart_25 (by decide) rfl (by first | omega | exact zr_b _ | exact zr_and _ _ | exact zr_or _ _ | exact zr_shl _ _) (by first | omega | exact zr_b _ | exact zr_and _ _ | exact zr_or _ _ | exact zr_shl _ _) (fun c25 => ?_) (fun c25 => ?_)
      · refine z_iconst 33 dX10_takePart_32 rfl ?_
        refine z_ret dX10_takePart_33 (by first | exact True.intro | exact Or.inl rfl | exact Or.inr rfl | exact zb_01 _ | assumption | (show _ ∨ _; omega)) ⟨Nat.le_refl _, Nat.le_refl _⟩ ?_
        first | (rw [zb_f (by omega)] at hQ; exact hQ) | (rw [zb_t (by omega)] at hQ; exact hQ)
      · refine z_iconst 29 dX10_takePart_28 rfl ?_
        refine z_goto 33 dX10_takePart_29 (by decide) ?_
        refine z_ret dX10_takePart_33 (by first | exact True.intro | exact Or.inl rfl | exact Or.inr rfl | exact zb_01 _ | assumption | (show _ ∨ _; omega)) ⟨Nat.le_refl _, Nat.le_refl _⟩ ?_
        first | (rw [zb_f (by omega)] at hQ; exact hQ) | (rw [zb_t (by omega)] at hQ; exact hQ)
theorem c_X10_takePart1 {x : Int} (hW : zMW h (C, l, n, R, TR, DI, ac, nx, KP, IK, SW, ST, sn, sd, TI, WH, BG, OD, WO, MA, rp, RD, rs, rm, rw)) (hx : 0 ≤ x ∧ x ≤ 255) (hp : 1 ≤ rp ∧ rp ≤ 8) (hs : -2147483648 ≤ rs ∧ rs ≤ 2147483647) (hQ : ∀ h' : zH, zMW h' (C, l, n, R, TR, DI, ac, nx, KP, IK, SW, ST, sn, sd, TI, WH, BG, OD, WO, MA, rp, RD, rs, rm, x - 48) → zMod 112 127 h h' → Q (some (vI (zb ((1 ≤ x - 48 ∧ x - 48 ≤ rp - 1) ∧ zkb rs (x - 48) = false)))) h') : zC (d + 2) mX10_takePart 0 0 [vR 112, vI 1, vI x] h Q := by
  have hW1 := hW.f_rw (x - 48)
  have hQ := hQ _ hW1 ((zMod.rf _ _ h).up _ (by omega))
  have w112 := hW.c112
  dsimp only [zMO, zMS.C, zMS.l, zMS.n, zMS.R, zMS.TR, zMS.DI, zMS.ac, zMS.nx, zMS.KP, zMS.IK, zMS.SW, zMS.ST, zMS.sn, zMS.sd, zMS.TI, zMS.WH, zMS.BG, zMS.OD, zMS.WO, zMS.MA, zMS.rp, zMS.RD, zMS.rs, zMS.rm, zMS.rw, zMS.uC, zMS.ul, zMS.un, zMS.uR, zMS.uTR, zMS.uDI, zMS.uac, zMS.unx, zMS.uKP, zMS.uIK, zMS.uSW, zMS.uST, zMS.usn, zMS.usd, zMS.uTI, zMS.uWH, zMS.uBG, zMS.uOD, zMS.uWO, zMS.uMA, zMS.urp, zMS.uRD, zMS.urs, zMS.urm, zMS.urw] at w112
  have w112 := hW1.c112
  dsimp only [zMO, zMS.C, zMS.l, zMS.n, zMS.R, zMS.TR, zMS.DI, zMS.ac, zMS.nx, zMS.KP, zMS.IK, zMS.SW, zMS.ST, zMS.sn, zMS.sd, zMS.TI, zMS.WH, zMS.BG, zMS.OD, zMS.WO, zMS.MA, zMS.rp, zMS.RD, zMS.rs, zMS.rm, zMS.rw, zMS.uC, zMS.ul, zMS.un, zMS.uR, zMS.uTR, zMS.uDI, zMS.uac, zMS.unx, zMS.uKP, zMS.uIK, zMS.uSW, zMS.uST, zMS.usn, zMS.usd, zMS.uTI, zMS.uWH, zMS.uBG, zMS.uOD, zMS.uWO, zMS.uMA, zMS.urp, zMS.uRD, zMS.urs, zMS.urm, zMS.urw] at w112
  refine zC.of zpl_X10 (Nat.le_of_ble_eq_true rfl) ?_
  refine z_iload_n 1 dX10_takePart_0 rfl rfl ?_
  refine z_bipush 3 dX10_takePart_1 rfl (by decide) ?_
  refine z_isub 4 dX10_takePart_3 rfl ?_
  refine z_istore_n 5 dX10_takePart_4 rfl (by decide) ?_
  refine z_iload_n 6 dX10_takePart_5 rfl rfl ?_
  refine z_if_ne 34 9 dX10_takePart_6 (by decide) rfl (by first | omega | exact zr_b _ | exact zr_and _ _ | exact zr_or _ _ | exact zr_shl _ _) (fun c6 => ?_) (fun c6 => ?_)
  · try replace c6 := zb_1 c6
    refine z_iload_n 35 dX10_takePart_34 rfl rfl ?_
    refine z_iconst 36 dX10_takePart_35 rfl ?_
    refine z_icmp_ne 77 39 dX10_takePart_36 (by decide) rfl (by first | omega | exact zr_b _ | exact zr_and _ _ | exact zr_or _ _ | exact zr_shl _ _) (by first | omega | exact zr_b _ | exact zr_and _ _ | exact zr_or _ _ | exact zr_shl _ _) (fun c36 => ?_) (fun c36 => ?_)
    · exact absurd rfl c36
    · refine z_aload_n 40 dX10_takePart_39 rfl rfl ?_
      refine z_iload_n 41 dX10_takePart_40 rfl rfl ?_
      refine z_putf (ci := 10) 44 dX10_takePart_41 rfl rfl zin_10 tyX10_ok nmX10 24 (by decide) zw_788 rfl (fun _ => ⟨rfl, rfl⟩) (by omega) (by first | with_reducible assumption | with_reducible exact zup_same _ _ _) (Nat.le_of_ble_eq_true rfl) ?_
      refine z_iload_n 45 dX10_takePart_44 rfl rfl ?_
      refine z_i2l 46 dX10_takePart_45 rfl (by first | omega | exact zr_b _ | exact zr_and _ _ | exact zr_or _ _ | exact zr_shl _ _) ?_
      refine z_lconst 47 dX10_takePart_46 rfl ?_
      refine z_aload_n 48 dX10_takePart_47 rfl rfl ?_
      refine z_getf (ci := 10) 51 dX10_takePart_48 rfl rfl zin_10 20 (by decide) zw_784 (by first | with_reducible assumption | with_reducible exact zup_same _ _ _) rfl ?_
      refine z_iconst 52 dX10_takePart_51 rfl ?_
      refine z_isub 53 dX10_takePart_52 rfl ?_
      refine z_i2l 54 dX10_takePart_53 rfl (by first | omega | exact zr_b _ | exact zr_and _ _ | exact zr_or _ _ | exact zr_shl _ _) ?_
      refine z_cS3 57 dX10_takePart_54 rfl kX10_in zw_846 (Nat.le_of_ble_eq_true rfl) ⟨Nat.le_refl _, Nat.le_refl _⟩ ?_
      refine c_X10_in (a := 1) (by omega) (by omega) (by omega) ?_
      refine z_if_eq 75 60 dX10_takePart_57 (by decide) rfl (by first | omega | exact zr_b _ | exact zr_and _ _ | exact zr_or _ _ | exact zr_shl _ _) (fun c57 => ?_) (fun c57 => ?_)
      · try replace c57 := zb_0 c57
        rw [zb_f (fun q => c57 q.1)] at hQ
        refine z_iconst 76 dX10_takePart_75 rfl ?_
        refine z_ret dX10_takePart_76 (by first | exact True.intro | exact Or.inl rfl | exact Or.inr rfl | exact zb_01 _ | assumption | (show _ ∨ _; omega)) ⟨Nat.le_refl _, Nat.le_refl _⟩ ?_
        exact hQ
      · try replace c57 := zb_1 c57
        refine z_aload_n 61 dX10_takePart_60 rfl rfl ?_
        refine z_getf (ci := 10) 64 dX10_takePart_61 rfl rfl zin_10 22 (by decide) zw_786 (by first | with_reducible assumption | with_reducible exact zup_same _ _ _) rfl ?_
        refine z_iload_n 65 dX10_takePart_64 rfl rfl ?_
        refine z_cS2 68 dX10_takePart_65 rfl kX10_has zw_873 (Nat.le_of_ble_eq_true rfl) ⟨Nat.le_refl _, Nat.le_refl _⟩ ?_
        refine c_X10_has hs (by omega) ?_
        refine z_if_ne 75 71 dX10_takePart_68 (by decide) rfl (by first | omega | exact zr_b _ | exact zr_and _ _ | exact zr_or _ _ | exact zr_shl _ _) (fun c68 => ?_) (fun c68 => ?_)
        · try replace c68 := zb_1 c68
          rw [zb_f (fun q => by rw [q.2] at c68; exact absurd c68 (by decide))] at hQ
          refine z_iconst 76 dX10_takePart_75 rfl ?_
          refine z_ret dX10_takePart_76 (by first | exact True.intro | exact Or.inl rfl | exact Or.inr rfl | exact zb_01 _ | assumption | (show _ ∨ _; omega)) ⟨Nat.le_refl _, Nat.le_refl _⟩ ?_
          exact hQ
        · try replace c68 := zb_0 c68
          rw [zb_t ⟨c57, by simpa using c68⟩] at hQ
          refine z_iconst 72 dX10_takePart_71 rfl ?_
          refine z_goto 76 dX10_takePart_72 (by decide) ?_
          refine z_ret dX10_takePart_76 (by first | exact True.intro | exact Or.inl rfl | exact Or.inr rfl | exact zb_01 _ | assumption | (show _ ∨ _; omega)) ⟨Nat.le_refl _, Nat.le_refl _⟩ ?_
          exact hQ
  · exfalso; omega
theorem c_X10_takePart2_no {x : Int} (hW : zMW h (C, l, n, R, TR, DI, ac, nx, KP, IK, SW, ST, sn, sd, TI, WH, BG, OD, WO, MA, rp, RD, rs, rm, rw)) (hx : 0 ≤ x ∧ x ≤ 255) (hp : 1 ≤ rp ∧ rp ≤ 8) (hs : -2147483648 ≤ rs ∧ rs ≤ 2147483647) (hno : ¬ ((0 ≤ x - 48 ∧ x - 48 ≤ rp - 1) ∧ zkb rs (x - 48) = true)) (hQ : Q (some (vI 0)) h) : zC (d + 2) mX10_takePart 0 0 [vR 112, vI 2, vI x] h Q := by
  have w112 := hW.c112
  dsimp only [zMO, zMS.C, zMS.l, zMS.n, zMS.R, zMS.TR, zMS.DI, zMS.ac, zMS.nx, zMS.KP, zMS.IK, zMS.SW, zMS.ST, zMS.sn, zMS.sd, zMS.TI, zMS.WH, zMS.BG, zMS.OD, zMS.WO, zMS.MA, zMS.rp, zMS.RD, zMS.rs, zMS.rm, zMS.rw, zMS.uC, zMS.ul, zMS.un, zMS.uR, zMS.uTR, zMS.uDI, zMS.uac, zMS.unx, zMS.uKP, zMS.uIK, zMS.uSW, zMS.uST, zMS.usn, zMS.usd, zMS.uTI, zMS.uWH, zMS.uBG, zMS.uOD, zMS.uWO, zMS.uMA, zMS.urp, zMS.uRD, zMS.urs, zMS.urm, zMS.urw] at w112
  refine zC.of zpl_X10 (Nat.le_of_ble_eq_true rfl) ?_
  refine z_iload_n 1 dX10_takePart_0 rfl rfl ?_
  refine z_bipush 3 dX10_takePart_1 rfl (by decide) ?_
  refine z_isub 4 dX10_takePart_3 rfl ?_
  refine z_istore_n 5 dX10_takePart_4 rfl (by decide) ?_
  refine z_iload_n 6 dX10_takePart_5 rfl rfl ?_
  refine z_if_ne 34 9 dX10_takePart_6 (by decide) rfl (by first | omega | exact zr_b _ | exact zr_and _ _ | exact zr_or _ _ | exact zr_shl _ _) (fun c6 => ?_) (fun c6 => ?_)
  · try replace c6 := zb_1 c6
    refine z_iload_n 35 dX10_takePart_34 rfl rfl ?_
    refine z_iconst 36 dX10_takePart_35 rfl ?_
    refine z_icmp_ne 77 39 dX10_takePart_36 (by decide) rfl (by first | omega | exact zr_b _ | exact zr_and _ _ | exact zr_or _ _ | exact zr_shl _ _) (by first | omega | exact zr_b _ | exact zr_and _ _ | exact zr_or _ _ | exact zr_shl _ _) (fun c36 => ?_) (fun c36 => ?_)
    · refine z_iload_n 78 dX10_takePart_77 rfl rfl ?_
      refine z_i2l 79 dX10_takePart_78 rfl (by first | omega | exact zr_b _ | exact zr_and _ _ | exact zr_or _ _ | exact zr_shl _ _) ?_
      refine z_lconst 80 dX10_takePart_79 rfl ?_
      refine z_aload_n 81 dX10_takePart_80 rfl rfl ?_
      refine z_getf (ci := 10) 84 dX10_takePart_81 rfl rfl zin_10 20 (by decide) zw_784 (by first | with_reducible assumption | with_reducible exact zup_same _ _ _) rfl ?_
      refine z_iconst 85 dX10_takePart_84 rfl ?_
      refine z_isub 86 dX10_takePart_85 rfl ?_
      refine z_i2l 87 dX10_takePart_86 rfl (by first | omega | exact zr_b _ | exact zr_and _ _ | exact zr_or _ _ | exact zr_shl _ _) ?_
      refine z_cS3 90 dX10_takePart_87 rfl kX10_in zw_846 (Nat.le_of_ble_eq_true rfl) ⟨Nat.le_refl _, Nat.le_refl _⟩ ?_
      refine c_X10_in (a := 0) (by omega) (by omega) (by omega) ?_
      refine z_if_eq 104 93 dX10_takePart_90 (by decide) rfl (by first | omega | exact zr_b _ | exact zr_and _ _ | exact zr_or _ _ | exact zr_shl _ _) (fun c90 => ?_) (fun c90 => ?_)
      · try replace c90 := zb_0 c90
        refine z_iconst 105 dX10_takePart_104 rfl ?_
        refine z_ret dX10_takePart_105 (by first | exact True.intro | exact Or.inl rfl | exact Or.inr rfl | exact zb_01 _ | assumption | (show _ ∨ _; omega)) ⟨Nat.le_refl _, Nat.le_refl _⟩ ?_
        exact hQ
      · try replace c90 := zb_1 c90
        refine z_aload_n 94 dX10_takePart_93 rfl rfl ?_
        refine z_getf (ci := 10) 97 dX10_takePart_94 rfl rfl zin_10 22 (by decide) zw_786 (by first | with_reducible assumption | with_reducible exact zup_same _ _ _) rfl ?_
        refine z_iload_n 98 dX10_takePart_97 rfl rfl ?_
        refine z_cS2 101 dX10_takePart_98 rfl kX10_has zw_873 (Nat.le_of_ble_eq_true rfl) ⟨Nat.le_refl _, Nat.le_refl _⟩ ?_
        refine c_X10_has hs (by omega) ?_
        refine z_if_ne 106 104 dX10_takePart_101 (by decide) rfl (by first | omega | exact zr_b _ | exact zr_and _ _ | exact zr_or _ _ | exact zr_shl _ _) (fun c101 => ?_) (fun c101 => ?_)
        · try replace c101 := zb_1 c101
          exact absurd ⟨c90, c101⟩ hno
        · try replace c101 := zb_0 c101
          refine z_iconst 105 dX10_takePart_104 rfl ?_
          refine z_ret dX10_takePart_105 (by first | exact True.intro | exact Or.inl rfl | exact Or.inr rfl | exact zb_01 _ | assumption | (show _ ∨ _; omega)) ⟨Nat.le_refl _, Nat.le_refl _⟩ ?_
          exact hQ
    · exfalso; omega
  · exfalso; omega
theorem c_X10_takePart2 {x : Int} (hW : zMW h (C, l, n, R, TR, DI, ac, nx, KP, IK, SW, ST, sn, sd, TI, WH, BG, OD, WO, MA, rp, RD, rs, rm, rw)) (hx : 0 ≤ x ∧ x ≤ 255) (hp : 1 ≤ rp ∧ rp ≤ 8) (hs : -2147483648 ≤ rs ∧ rs ≤ 2147483647) (hy : (0 ≤ x - 48 ∧ x - 48 ≤ rp - 1) ∧ zkb rs (x - 48) = true) (hw : 0 ≤ rw ∧ rw < 8) (hm : 0 ≤ rm ∧ rm < 8) (hQ : ∀ h' : zH, zMW h' (C, l, n, R, TR, DI, ac, nx, KP, IK, SW, ST, sn, sd, TI, WH, BG, OD, WO, MA, rp, zst (zst RD (17 + rw) (x - 48)) (25 + rm) rw, zor rs (zshl 1 rw), rm + 1, rw) → zMod 112 127 h h' → Q (some (vI 1)) h') : zC (d + 2) mX10_takePart 0 0 [vR 112, vI 2, vI x] h Q := by
  have hWa := hW.s127 (zst RD (17 + rw) (x - 48))
  have hW1 := hW.s127 (zst (zst RD (17 + rw) (x - 48)) (25 + rm) rw)
  have hW2 := hW1.f_rm (rm + 1)
  have hW3 := hW2.f_rs (zor rs (zshl 1 rw))
  have hQ := hQ _ hW3 ((((zMod.rf _ _ h).up _ (by omega)).up _ (by omega)).up _ (by omega))
  have w112 := hW.c112
  dsimp only [zMO, zMS.C, zMS.l, zMS.n, zMS.R, zMS.TR, zMS.DI, zMS.ac, zMS.nx, zMS.KP, zMS.IK, zMS.SW, zMS.ST, zMS.sn, zMS.sd, zMS.TI, zMS.WH, zMS.BG, zMS.OD, zMS.WO, zMS.MA, zMS.rp, zMS.RD, zMS.rs, zMS.rm, zMS.rw, zMS.uC, zMS.ul, zMS.un, zMS.uR, zMS.uTR, zMS.uDI, zMS.uac, zMS.unx, zMS.uKP, zMS.uIK, zMS.uSW, zMS.uST, zMS.usn, zMS.usd, zMS.uTI, zMS.uWH, zMS.uBG, zMS.uOD, zMS.uWO, zMS.uMA, zMS.urp, zMS.uRD, zMS.urs, zMS.urm, zMS.urw] at w112
  have w127 := hW.c127
  dsimp only [zMO, zMS.C, zMS.l, zMS.n, zMS.R, zMS.TR, zMS.DI, zMS.ac, zMS.nx, zMS.KP, zMS.IK, zMS.SW, zMS.ST, zMS.sn, zMS.sd, zMS.TI, zMS.WH, zMS.BG, zMS.OD, zMS.WO, zMS.MA, zMS.rp, zMS.RD, zMS.rs, zMS.rm, zMS.rw, zMS.uC, zMS.ul, zMS.un, zMS.uR, zMS.uTR, zMS.uDI, zMS.uac, zMS.unx, zMS.uKP, zMS.uIK, zMS.uSW, zMS.uST, zMS.usn, zMS.usd, zMS.uTI, zMS.uWH, zMS.uBG, zMS.uOD, zMS.uWO, zMS.uMA, zMS.urp, zMS.uRD, zMS.urs, zMS.urm, zMS.urw] at w127
  have w112 := hWa.c112
  dsimp only [zMO, zMS.C, zMS.l, zMS.n, zMS.R, zMS.TR, zMS.DI, zMS.ac, zMS.nx, zMS.KP, zMS.IK, zMS.SW, zMS.ST, zMS.sn, zMS.sd, zMS.TI, zMS.WH, zMS.BG, zMS.OD, zMS.WO, zMS.MA, zMS.rp, zMS.RD, zMS.rs, zMS.rm, zMS.rw, zMS.uC, zMS.ul, zMS.un, zMS.uR, zMS.uTR, zMS.uDI, zMS.uac, zMS.unx, zMS.uKP, zMS.uIK, zMS.uSW, zMS.uST, zMS.usn, zMS.usd, zMS.uTI, zMS.uWH, zMS.uBG, zMS.uOD, zMS.uWO, zMS.uMA, zMS.urp, zMS.uRD, zMS.urs, zMS.urm, zMS.urw] at w112
  have w127 := hWa.c127
  dsimp only [zMO, zMS.C, zMS.l, zMS.n, zMS.R, zMS.TR, zMS.DI, zMS.ac, zMS.nx, zMS.KP, zMS.IK, zMS.SW, zMS.ST, zMS.sn, zMS.sd, zMS.TI, zMS.WH, zMS.BG, zMS.OD, zMS.WO, zMS.MA, zMS.rp, zMS.RD, zMS.rs, zMS.rm, zMS.rw, zMS.uC, zMS.ul, zMS.un, zMS.uR, zMS.uTR, zMS.uDI, zMS.uac, zMS.unx, zMS.uKP, zMS.uIK, zMS.uSW, zMS.uST, zMS.usn, zMS.usd, zMS.uTI, zMS.uWH, zMS.uBG, zMS.uOD, zMS.uWO, zMS.uMA, zMS.urp, zMS.uRD, zMS.urs, zMS.urm, zMS.urw] at w127
  have w112 := hW1.c112
  dsimp only [zMO, zMS.C, zMS.l, zMS.n, zMS.R, zMS.TR, zMS.DI, zMS.ac, zMS.nx, zMS.KP, zMS.IK, zMS.SW, zMS.ST, zMS.sn, zMS.sd, zMS.TI, zMS.WH, zMS.BG, zMS.OD, zMS.WO, zMS.MA, zMS.rp, zMS.RD, zMS.rs, zMS.rm, zMS.rw, zMS.uC, zMS.ul, zMS.un, zMS.uR, zMS.uTR, zMS.uDI, zMS.uac, zMS.unx, zMS.uKP, zMS.uIK, zMS.uSW, zMS.uST, zMS.usn, zMS.usd, zMS.uTI, zMS.uWH, zMS.uBG, zMS.uOD, zMS.uWO, zMS.uMA, zMS.urp, zMS.uRD, zMS.urs, zMS.urm, zMS.urw] at w112
  have w112 := hW2.c112
  dsimp only [zMO, zMS.C, zMS.l, zMS.n, zMS.R, zMS.TR, zMS.DI, zMS.ac, zMS.nx, zMS.KP, zMS.IK, zMS.SW, zMS.ST, zMS.sn, zMS.sd, zMS.TI, zMS.WH, zMS.BG, zMS.OD, zMS.WO, zMS.MA, zMS.rp, zMS.RD, zMS.rs, zMS.rm, zMS.rw, zMS.uC, zMS.ul, zMS.un, zMS.uR, zMS.uTR, zMS.uDI, zMS.uac, zMS.unx, zMS.uKP, zMS.uIK, zMS.uSW, zMS.uST, zMS.usn, zMS.usd, zMS.uTI, zMS.uWH, zMS.uBG, zMS.uOD, zMS.uWO, zMS.uMA, zMS.urp, zMS.uRD, zMS.urs, zMS.urm, zMS.urw] at w112
  refine zC.of zpl_X10 (Nat.le_of_ble_eq_true rfl) ?_
  refine z_iload_n 1 dX10_takePart_0 rfl rfl ?_
  refine z_bipush 3 dX10_takePart_1 rfl (by decide) ?_
  refine z_isub 4 dX10_takePart_3 rfl ?_
  refine z_istore_n 5 dX10_takePart_4 rfl (by decide) ?_
  refine z_iload_n 6 dX10_takePart_5 rfl rfl ?_
  refine z_if_ne 34 9 dX10_takePart_6 (by decide) rfl (by first | omega | exact zr_b _ | exact zr_and _ _ | exact zr_or _ _ | exact zr_shl _ _) (fun c6 => ?_) (fun c6 => ?_)
  · try replace c6 := zb_1 c6
    refine z_iload_n 35 dX10_takePart_34 rfl rfl ?_
    refine z_iconst 36 dX10_takePart_35 rfl ?_
    refine z_icmp_ne 77 39 dX10_takePart_36 (by decide) rfl (by first | omega | exact zr_b _ | exact zr_and _ _ | exact zr_or _ _ | exact zr_shl _ _) (by first | omega | exact zr_b _ | exact zr_and _ _ | exact zr_or _ _ | exact zr_shl _ _) (fun c36 => ?_) (fun c36 => ?_)
    · refine z_iload_n 78 dX10_takePart_77 rfl rfl ?_
      refine z_i2l 79 dX10_takePart_78 rfl (by first | omega | exact zr_b _ | exact zr_and _ _ | exact zr_or _ _ | exact zr_shl _ _) ?_
      refine z_lconst 80 dX10_takePart_79 rfl ?_
      refine z_aload_n 81 dX10_takePart_80 rfl rfl ?_
      refine z_getf (ci := 10) 84 dX10_takePart_81 rfl rfl zin_10 20 (by decide) zw_784 (by first | with_reducible assumption | with_reducible exact zup_same _ _ _) rfl ?_
      refine z_iconst 85 dX10_takePart_84 rfl ?_
      refine z_isub 86 dX10_takePart_85 rfl ?_
      refine z_i2l 87 dX10_takePart_86 rfl (by first | omega | exact zr_b _ | exact zr_and _ _ | exact zr_or _ _ | exact zr_shl _ _) ?_
      refine z_cS3 90 dX10_takePart_87 rfl kX10_in zw_846 (Nat.le_of_ble_eq_true rfl) ⟨Nat.le_refl _, Nat.le_refl _⟩ ?_
      refine c_X10_in (a := 0) (by omega) (by omega) (by omega) ?_
      rw [zb_t hy.1]
      refine z_if_eq 104 93 dX10_takePart_90 (by decide) rfl (by first | omega | exact zr_b _ | exact zr_and _ _ | exact zr_or _ _ | exact zr_shl _ _) (fun c90 => ?_) (fun c90 => ?_)
      · exact absurd c90 (by decide)
      · try replace c90 := zb_1 c90
        refine z_aload_n 94 dX10_takePart_93 rfl rfl ?_
        refine z_getf (ci := 10) 97 dX10_takePart_94 rfl rfl zin_10 22 (by decide) zw_786 (by first | with_reducible assumption | with_reducible exact zup_same _ _ _) rfl ?_
        refine z_iload_n 98 dX10_takePart_97 rfl rfl ?_
        refine z_cS2 101 dX10_takePart_98 rfl kX10_has zw_873 (Nat.le_of_ble_eq_true rfl) ⟨Nat.le_refl _, Nat.le_refl _⟩ ?_
        refine c_X10_has hs (by omega) ?_
        rw [zb_t hy.2]
        refine z_if_ne 106 104 dX10_takePart_101 (by decide) rfl (by first | omega | exact zr_b _ | exact zr_and _ _ | exact zr_or _ _ | exact zr_shl _ _) (fun c101 => ?_) (fun c101 => ?_)
        · try replace c101 := zb_1 c101
          refine z_aload_n 107 dX10_takePart_106 rfl rfl ?_
          refine z_getf (ci := 10) 110 dX10_takePart_107 rfl rfl zin_10 21 (by decide) zw_785 (by first | with_reducible assumption | with_reducible exact zup_same _ _ _) rfl ?_
          refine z_bipush 112 dX10_takePart_110 rfl (by decide) ?_
          refine z_aload_n 113 dX10_takePart_112 rfl rfl ?_
          refine z_getf (ci := 10) 116 dX10_takePart_113 rfl rfl zin_10 24 (by decide) zw_788 (by first | with_reducible assumption | with_reducible exact zup_same _ _ _) rfl ?_
          refine z_iadd 117 dX10_takePart_116 rfl ?_
          refine z_iload_n 118 dX10_takePart_117 rfl rfl ?_
          refine z_iast 119 dX10_takePart_118 rfl (by omega) (by first | with_reducible assumption | with_reducible exact zup_same _ _ _) (by omega) (by first | omega | exact zr_b _ | exact zr_and _ _ | exact zr_or _ _ | exact zr_shl _ _) ?_
          refine z_aload_n 120 dX10_takePart_119 rfl rfl ?_
          refine z_getf (ci := 10) 123 dX10_takePart_120 rfl rfl zin_10 21 (by decide) zw_785 (by first | with_reducible assumption | with_reducible exact zup_same _ _ _) rfl ?_
          refine z_bipush 125 dX10_takePart_123 rfl (by decide) ?_
          refine z_aload_n 126 dX10_takePart_125 rfl rfl ?_
          refine z_getf (ci := 10) 129 dX10_takePart_126 rfl rfl zin_10 23 (by decide) zw_787 (by first | with_reducible assumption | with_reducible exact zup_same _ _ _) rfl ?_
          refine z_iadd 130 dX10_takePart_129 rfl ?_
          refine z_aload_n 131 dX10_takePart_130 rfl rfl ?_
          refine z_getf (ci := 10) 134 dX10_takePart_131 rfl rfl zin_10 24 (by decide) zw_788 (by first | with_reducible assumption | with_reducible exact zup_same _ _ _) rfl ?_
          refine z_iast 135 dX10_takePart_134 rfl (by omega) (by first | with_reducible assumption | with_reducible exact zup_same _ _ _) (by omega) (by first | omega | exact zr_b _ | exact zr_and _ _ | exact zr_or _ _ | exact zr_shl _ _) ?_
          rw [zup_zup]
          refine z_aload_n 136 dX10_takePart_135 rfl rfl ?_
          refine z_dup_a 137 dX10_takePart_136 rfl ?_
          refine z_getf (ci := 10) 140 dX10_takePart_137 rfl rfl zin_10 23 (by decide) zw_787 (by first | with_reducible assumption | with_reducible exact zup_same _ _ _) rfl ?_
          refine z_iconst 141 dX10_takePart_140 rfl ?_
          refine z_iadd 142 dX10_takePart_141 rfl ?_
          refine z_putf (ci := 10) 145 dX10_takePart_142 rfl rfl zin_10 tyX10_ok nmX10 23 (by decide) zw_787 rfl (fun _ => ⟨rfl, rfl⟩) (by omega) (by first | with_reducible assumption | with_reducible exact zup_same _ _ _) (Nat.le_of_ble_eq_true rfl) ?_
          refine z_aload_n 146 dX10_takePart_145 rfl rfl ?_
          refine z_dup_a 147 dX10_takePart_146 rfl ?_
          refine z_getf (ci := 10) 150 dX10_takePart_147 rfl rfl zin_10 22 (by decide) zw_786 (by first | with_reducible assumption | with_reducible exact zup_same _ _ _) rfl ?_
          refine z_iconst 151 dX10_takePart_150 rfl ?_
          refine z_aload_n 152 dX10_takePart_151 rfl rfl ?_
          refine z_getf (ci := 10) 155 dX10_takePart_152 rfl rfl zin_10 24 (by decide) zw_788 (by first | with_reducible assumption | with_reducible exact zup_same _ _ _) rfl ?_
          refine z_ishl 156 dX10_takePart_155 rfl ?_
          refine z_ior 157 dX10_takePart_156 rfl ?_
          refine z_putf (ci := 10) 160 dX10_takePart_157 rfl rfl zin_10 tyX10_ok nmX10 22 (by decide) zw_786 rfl (fun _ => ⟨rfl, rfl⟩) (by omega) (by first | with_reducible assumption | with_reducible exact zup_same _ _ _) (Nat.le_of_ble_eq_true rfl) ?_
          refine z_iconst 161 dX10_takePart_160 rfl ?_
          refine z_ret dX10_takePart_161 (by first | exact True.intro | exact Or.inl rfl | exact Or.inr rfl | exact zb_01 _ | assumption | (show _ ∨ _; omega)) ⟨Nat.le_refl _, Nat.le_refl _⟩ ?_
          exact hQ
        · exact absurd c101 (by decide)
    · exfalso; omega
  · exfalso; omega
end MTEXT1
