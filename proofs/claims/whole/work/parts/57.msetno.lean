/-! THE MODEL: set refused -/
section MSETNO
variable {d : Nat} {h : zH} {Q : Option zV → zH → Prop} {C : Int → Int} {l : Int} {N : Nat} {R DI : Int → Int} {ac nx : Int} {KP IK SW ST : Int → Int} {sn sd : Int}
theorem m_set_no1 {p w v : Int} (hW : zMC h C l ((N + 1 : Nat) : Int) R DI ac nx KP IK SW ST sn sd) (hN : N ≤ 7) (hp : (-2147483648 ≤ p ∧ p ≤ 2147483647) ∧ ¬ (0 ≤ p ∧ p < N + 1)) (hQ : Q (some (vI (-1))) h) : zC (d + 4) mX10_set 0 0 [vR 112, vI p, vI w, vI v] h Q := by
  obtain ⟨TR, TI, WH, BG, OD, WO, MA, RD, rp, rs, rm, rw', hW⟩ := hW
  have w112 := hW.c112
  dsimp only [zMO, zMS.C, zMS.l, zMS.n, zMS.R, zMS.TR, zMS.DI, zMS.ac, zMS.nx, zMS.KP, zMS.IK, zMS.SW, zMS.ST, zMS.sn, zMS.sd, zMS.TI, zMS.WH, zMS.BG, zMS.OD, zMS.WO, zMS.MA, zMS.rp, zMS.RD, zMS.rs, zMS.rm, zMS.rw, zMS.uC, zMS.ul, zMS.un, zMS.uR, zMS.uTR, zMS.uDI, zMS.uac, zMS.unx, zMS.uKP, zMS.uIK, zMS.uSW, zMS.uST, zMS.usn, zMS.usd, zMS.uTI, zMS.uWH, zMS.uBG, zMS.uOD, zMS.uWO, zMS.uMA, zMS.urp, zMS.uRD, zMS.urs, zMS.urm, zMS.urw] at w112
  refine zC.of zpl_X10 (Nat.le_of_ble_eq_true rfl) ?_
  refine z_aload_n 1 dX10_set_0 rfl rfl ?_
  refine z_iload_n 2 dX10_set_1 rfl rfl ?_
  refine z_cV1 5 dX10_set_2 rfl kX10_isPerson zw_939 (Nat.le_of_ble_eq_true rfl) ⟨Nat.le_refl _, Nat.le_refl _⟩ (by first | with_reducible assumption | with_reducible exact zup_same _ _ _) ?_
  refine c_X10_isPerson hW.c112 (by show 1 ≤ ((N + 1 : Nat) : Int) ∧ ((N + 1 : Nat) : Int) ≤ 8; omega) (by omega) ?_
  rw [zb_f (by show ¬ (0 ≤ (p : Int) ∧ p < ((N + 1 : Nat) : Int)); omega)]
  refine z_if_ne 10 8 dX10_set_5 (by decide) rfl (by first | omega | exact zr_b _ | exact zr_and _ _ | exact zr_or _ _ | exact zr_shl _ _) (fun c5 => ?_) (fun c5 => ?_)
  · try replace c5 := zb_1 c5
    exact absurd rfl c5
  · try replace c5 := zb_0 c5
    refine z_iconst 9 dX10_set_8 rfl ?_
    refine z_ret dX10_set_9 (by first | exact True.intro | exact Or.inl rfl | exact Or.inr rfl | exact zb_01 _ | assumption | (show _ ∨ _; omega)) ⟨Nat.le_refl _, Nat.le_refl _⟩ ?_
    exact hQ
theorem m_set_no2 {p w v : Int} (hW : zMC h C l ((N + 1 : Nat) : Int) R DI ac nx KP IK SW ST sn sd) (hN : N ≤ 7) (hp : 0 ≤ p ∧ p < N + 1) (hw : (-2147483648 ≤ w ∧ w ≤ 2147483647)) (hbad : w < 0 ∨ 2 < w ∨ w = 2 ∧ p ≠ 0) (hQ : Q (some (vI (-2))) h) : zC (d + 4) mX10_set 0 0 [vR 112, vI p, vI w, vI v] h Q := by
  obtain ⟨TR, TI, WH, BG, OD, WO, MA, RD, rp, rs, rm, rw', hW⟩ := hW
  have w112 := hW.c112
  dsimp only [zMO, zMS.C, zMS.l, zMS.n, zMS.R, zMS.TR, zMS.DI, zMS.ac, zMS.nx, zMS.KP, zMS.IK, zMS.SW, zMS.ST, zMS.sn, zMS.sd, zMS.TI, zMS.WH, zMS.BG, zMS.OD, zMS.WO, zMS.MA, zMS.rp, zMS.RD, zMS.rs, zMS.rm, zMS.rw, zMS.uC, zMS.ul, zMS.un, zMS.uR, zMS.uTR, zMS.uDI, zMS.uac, zMS.unx, zMS.uKP, zMS.uIK, zMS.uSW, zMS.uST, zMS.usn, zMS.usd, zMS.uTI, zMS.uWH, zMS.uBG, zMS.uOD, zMS.uWO, zMS.uMA, zMS.urp, zMS.uRD, zMS.urs, zMS.urm, zMS.urw] at w112
  refine zC.of zpl_X10 (Nat.le_of_ble_eq_true rfl) ?_
  refine z_aload_n 1 dX10_set_0 rfl rfl ?_
  refine z_iload_n 2 dX10_set_1 rfl rfl ?_
  refine z_cV1 5 dX10_set_2 rfl kX10_isPerson zw_939 (Nat.le_of_ble_eq_true rfl) ⟨Nat.le_refl _, Nat.le_refl _⟩ (by first | with_reducible assumption | with_reducible exact zup_same _ _ _) ?_
  refine c_X10_isPerson hW.c112 (by show 1 ≤ ((N + 1 : Nat) : Int) ∧ ((N + 1 : Nat) : Int) ≤ 8; omega) (by omega) ?_
  rw [zb_t (by show 0 ≤ (p : Int) ∧ p < ((N + 1 : Nat) : Int); omega)]
  refine z_if_ne 10 8 dX10_set_5 (by decide) rfl (by first | omega | exact zr_b _ | exact zr_and _ _ | exact zr_or _ _ | exact zr_shl _ _) (fun c5 => ?_) (fun c5 => ?_)
  · try replace c5 := zb_1 c5
    refine z_iload_n 11 dX10_set_10 rfl rfl ?_
    refine z_if_ne 19 14 dX10_set_11 (by decide) rfl (by first | omega | exact zr_b _ | exact zr_and _ _ | exact zr_or _ _ | exact zr_shl _ _) (fun c11 => ?_) (fun c11 => ?_)
    · try replace c11 := zb_1 c11
      refine z_iload_n 20 dX10_set_19 rfl rfl ?_
      refine z_iconst 21 dX10_set_20 rfl ?_
      refine z_icmp_ne 28 24 dX10_set_21 (by decide) rfl (by first | omega | exact zr_b _ | exact zr_and _ _ | exact zr_or _ _ | exact zr_shl _ _) (by first | omega | exact zr_b _ | exact zr_and _ _ | exact zr_or _ _ | exact zr_shl _ _) (fun c21 => ?_) (fun c21 => ?_)
      · refine z_iconst 29 dX10_set_28 rfl ?_
        refine z_istore 31 dX10_set_29 rfl (by decide) ?_
        refine z_iload_n 32 dX10_set_31 rfl rfl ?_
        refine z_i2l 33 dX10_set_32 rfl (by first | omega | exact zr_b _ | exact zr_and _ _ | exact zr_or _ _ | exact zr_shl _ _) ?_
        refine z_lconst 34 dX10_set_33 rfl ?_
        refine z_ldc2 (x := 2) 37 dX10_set_34 rfl zw_1013 ?_
        refine z_cS3 40 dX10_set_37 rfl kX10_in zw_846 (Nat.le_of_ble_eq_true rfl) ⟨Nat.le_refl _, Nat.le_refl _⟩ ?_
        refine c_X10_in (a := 0) (by omega) (by omega) (by omega) ?_
        refine z_if_eq 64 43 dX10_set_40 (by decide) rfl (by first | omega | exact zr_b _ | exact zr_and _ _ | exact zr_or _ _ | exact zr_shl _ _) (fun c40 => ?_) (fun c40 => ?_)
        · try replace c40 := zb_0 c40
          refine z_bipush 66 dX10_set_64 rfl (by decide) ?_
          refine z_ret dX10_set_66 (by first | exact True.intro | exact Or.inl rfl | exact Or.inr rfl | exact zb_01 _ | assumption | (show _ ∨ _; omega)) ⟨Nat.le_refl _, Nat.le_refl _⟩ ?_
          exact hQ
        · try replace c40 := zb_1 c40
          refine z_iload_n 44 dX10_set_43 rfl rfl ?_
          refine z_iconst 45 dX10_set_44 rfl ?_
          refine z_icmp_ne 52 48 dX10_set_45 (by decide) rfl (by first | omega | exact zr_b _ | exact zr_and _ _ | exact zr_or _ _ | exact zr_shl _ _) (by first | omega | exact zr_b _ | exact zr_and _ _ | exact zr_or _ _ | exact zr_shl _ _) (fun c45 => ?_) (fun c45 => ?_)
          · exfalso; omega
          · refine z_iload_n 49 dX10_set_48 rfl rfl ?_
            refine z_if_ne 64 52 dX10_set_49 (by decide) rfl (by first | omega | exact zr_b _ | exact zr_and _ _ | exact zr_or _ _ | exact zr_shl _ _) (fun c49 => ?_) (fun c49 => ?_)
            · try replace c49 := zb_1 c49
              refine z_bipush 66 dX10_set_64 rfl (by decide) ?_
              refine z_ret dX10_set_66 (by first | exact True.intro | exact Or.inl rfl | exact Or.inr rfl | exact zb_01 _ | assumption | (show _ ∨ _; omega)) ⟨Nat.le_refl _, Nat.le_refl _⟩ ?_
              exact hQ
            · try replace c49 := zb_0 c49
              exfalso; omega
      · refine z_iconst 25 dX10_set_24 rfl ?_
        refine z_goto 29 dX10_set_25 (by decide) ?_
        refine z_istore 31 dX10_set_29 rfl (by decide) ?_
        refine z_iload_n 32 dX10_set_31 rfl rfl ?_
        refine z_i2l 33 dX10_set_32 rfl (by first | omega | exact zr_b _ | exact zr_and _ _ | exact zr_or _ _ | exact zr_shl _ _) ?_
        refine z_lconst 34 dX10_set_33 rfl ?_
        refine z_ldc2 (x := 2) 37 dX10_set_34 rfl zw_1013 ?_
        refine z_cS3 40 dX10_set_37 rfl kX10_in zw_846 (Nat.le_of_ble_eq_true rfl) ⟨Nat.le_refl _, Nat.le_refl _⟩ ?_
        refine c_X10_in (a := 0) (by omega) (by omega) (by omega) ?_
        refine z_if_eq 64 43 dX10_set_40 (by decide) rfl (by first | omega | exact zr_b _ | exact zr_and _ _ | exact zr_or _ _ | exact zr_shl _ _) (fun c40 => ?_) (fun c40 => ?_)
        · try replace c40 := zb_0 c40
          refine z_bipush 66 dX10_set_64 rfl (by decide) ?_
          refine z_ret dX10_set_66 (by first | exact True.intro | exact Or.inl rfl | exact Or.inr rfl | exact zb_01 _ | assumption | (show _ ∨ _; omega)) ⟨Nat.le_refl _, Nat.le_refl _⟩ ?_
          exact hQ
        · try replace c40 := zb_1 c40
          refine z_iload_n 44 dX10_set_43 rfl rfl ?_
          refine z_iconst 45 dX10_set_44 rfl ?_
          refine z_icmp_ne 52 48 dX10_set_45 (by decide) rfl (by first | omega | exact zr_b _ | exact zr_and _ _ | exact zr_or _ _ | exact zr_shl _ _) (by first | omega | exact zr_b _ | exact zr_and _ _ | exact zr_or _ _ | exact zr_shl _ _) (fun c45 => ?_) (fun c45 => ?_)
          · exfalso; omega
          · refine z_iload_n 49 dX10_set_48 rfl rfl ?_
            refine z_if_ne 64 52 dX10_set_49 (by decide) rfl (by first | omega | exact zr_b _ | exact zr_and _ _ | exact zr_or _ _ | exact zr_shl _ _) (fun c49 => ?_) (fun c49 => ?_)
            · try replace c49 := zb_1 c49
              refine z_bipush 66 dX10_set_64 rfl (by decide) ?_
              refine z_ret dX10_set_66 (by first | exact True.intro | exact Or.inl rfl | exact Or.inr rfl | exact zb_01 _ | assumption | (show _ ∨ _; omega)) ⟨Nat.le_refl _, Nat.le_refl _⟩ ?_
              exact hQ
            · try replace c49 := zb_0 c49
              exfalso; omega
    · try replace c11 := zb_0 c11
      refine z_bipush 16 dX10_set_14 rfl (by decide) ?_
      refine z_goto 29 dX10_set_16 (by decide) ?_
      refine z_istore 31 dX10_set_29 rfl (by decide) ?_
      refine z_iload_n 32 dX10_set_31 rfl rfl ?_
      refine z_i2l 33 dX10_set_32 rfl (by first | omega | exact zr_b _ | exact zr_and _ _ | exact zr_or _ _ | exact zr_shl _ _) ?_
      refine z_lconst 34 dX10_set_33 rfl ?_
      refine z_ldc2 (x := 2) 37 dX10_set_34 rfl zw_1013 ?_
      refine z_cS3 40 dX10_set_37 rfl kX10_in zw_846 (Nat.le_of_ble_eq_true rfl) ⟨Nat.le_refl _, Nat.le_refl _⟩ ?_
      refine c_X10_in (a := 0) (by omega) (by omega) (by omega) ?_
      refine z_if_eq 64 43 dX10_set_40 (by decide) rfl (by first | omega | exact zr_b _ | exact zr_and _ _ | exact zr_or _ _ | exact zr_shl _ _) (fun c40 => ?_) (fun c40 => ?_)
      · try replace c40 := zb_0 c40
        refine z_bipush 66 dX10_set_64 rfl (by decide) ?_
        refine z_ret dX10_set_66 (by first | exact True.intro | exact Or.inl rfl | exact Or.inr rfl | exact zb_01 _ | assumption | (show _ ∨ _; omega)) ⟨Nat.le_refl _, Nat.le_refl _⟩ ?_
        exact hQ
      · try replace c40 := zb_1 c40
        refine z_iload_n 44 dX10_set_43 rfl rfl ?_
        refine z_iconst 45 dX10_set_44 rfl ?_
        refine z_icmp_ne 52 48 dX10_set_45 (by decide) rfl (by first | omega | exact zr_b _ | exact zr_and _ _ | exact zr_or _ _ | exact zr_shl _ _) (by first | omega | exact zr_b _ | exact zr_and _ _ | exact zr_or _ _ | exact zr_shl _ _) (fun c45 => ?_) (fun c45 => ?_)
        · exfalso; omega
        · refine z_iload_n 49 dX10_set_48 rfl rfl ?_
          refine z_if_ne 64 52 dX10_set_49 (by decide) rfl (by first | omega | exact zr_b _ | exact zr_and _ _ | exact zr_or _ _ | exact zr_shl _ _) (fun c49 => ?_) (fun c49 => ?_)
          · try replace c49 := zb_1 c49
            refine z_bipush 66 dX10_set_64 rfl (by decide) ?_
            refine z_ret dX10_set_66 (by first | exact True.intro | exact Or.inl rfl | exact Or.inr rfl | exact zb_01 _ | assumption | (show _ ∨ _; omega)) ⟨Nat.le_refl _, Nat.le_refl _⟩ ?_
            exact hQ
          · try replace c49 := zb_0 c49
            exfalso; omega
  · exact absurd c5 (by decide)
theorem m_set_no3 {p w v : Int} (hW : zMC h C l ((N + 1 : Nat) : Int) R DI ac nx KP IK SW ST sn sd) (hN : N ≤ 7) (hp : 0 ≤ p ∧ p < N + 1) (hw : 0 ≤ w ∧ w ≤ 2 ∧ (w = 2 → p = 0)) (hv : (-2147483648 ≤ v ∧ v ≤ 2147483647)) (hbad : v < 1 ∨ w = 0 ∧ 9 < v ∨ w = 1 ∧ 5 < v ∨ w = 2 ∧ 3 < v) (hQ : Q (some (vI (-2))) h) : zC (d + 4) mX10_set 0 0 [vR 112, vI p, vI w, vI v] h Q := by
  obtain ⟨TR, TI, WH, BG, OD, WO, MA, RD, rp, rs, rm, rw', hW⟩ := hW
  have w112 := hW.c112
  dsimp only [zMO, zMS.C, zMS.l, zMS.n, zMS.R, zMS.TR, zMS.DI, zMS.ac, zMS.nx, zMS.KP, zMS.IK, zMS.SW, zMS.ST, zMS.sn, zMS.sd, zMS.TI, zMS.WH, zMS.BG, zMS.OD, zMS.WO, zMS.MA, zMS.rp, zMS.RD, zMS.rs, zMS.rm, zMS.rw, zMS.uC, zMS.ul, zMS.un, zMS.uR, zMS.uTR, zMS.uDI, zMS.uac, zMS.unx, zMS.uKP, zMS.uIK, zMS.uSW, zMS.uST, zMS.usn, zMS.usd, zMS.uTI, zMS.uWH, zMS.uBG, zMS.uOD, zMS.uWO, zMS.uMA, zMS.urp, zMS.uRD, zMS.urs, zMS.urm, zMS.urw] at w112
  refine zC.of zpl_X10 (Nat.le_of_ble_eq_true rfl) ?_
  refine z_aload_n 1 dX10_set_0 rfl rfl ?_
  refine z_iload_n 2 dX10_set_1 rfl rfl ?_
  refine z_cV1 5 dX10_set_2 rfl kX10_isPerson zw_939 (Nat.le_of_ble_eq_true rfl) ⟨Nat.le_refl _, Nat.le_refl _⟩ (by first | with_reducible assumption | with_reducible exact zup_same _ _ _) ?_
  refine c_X10_isPerson hW.c112 (by show 1 ≤ ((N + 1 : Nat) : Int) ∧ ((N + 1 : Nat) : Int) ≤ 8; omega) (by omega) ?_
  rw [zb_t (by show 0 ≤ (p : Int) ∧ p < ((N + 1 : Nat) : Int); omega)]
  refine z_if_ne 10 8 dX10_set_5 (by decide) rfl (by first | omega | exact zr_b _ | exact zr_and _ _ | exact zr_or _ _ | exact zr_shl _ _) (fun c5 => ?_) (fun c5 => ?_)
  · try replace c5 := zb_1 c5
    refine z_iload_n 11 dX10_set_10 rfl rfl ?_
    refine z_if_ne 19 14 dX10_set_11 (by decide) rfl (by first | omega | exact zr_b _ | exact zr_and _ _ | exact zr_or _ _ | exact zr_shl _ _) (fun c11 => ?_) (fun c11 => ?_)
    · try replace c11 := zb_1 c11
      refine z_iload_n 20 dX10_set_19 rfl rfl ?_
      refine z_iconst 21 dX10_set_20 rfl ?_
      refine z_icmp_ne 28 24 dX10_set_21 (by decide) rfl (by first | omega | exact zr_b _ | exact zr_and _ _ | exact zr_or _ _ | exact zr_shl _ _) (by first | omega | exact zr_b _ | exact zr_and _ _ | exact zr_or _ _ | exact zr_shl _ _) (fun c21 => ?_) (fun c21 => ?_)
      · refine z_iconst 29 dX10_set_28 rfl ?_
        refine z_istore 31 dX10_set_29 rfl (by decide) ?_
        refine z_iload_n 32 dX10_set_31 rfl rfl ?_
        refine z_i2l 33 dX10_set_32 rfl (by first | omega | exact zr_b _ | exact zr_and _ _ | exact zr_or _ _ | exact zr_shl _ _) ?_
        refine z_lconst 34 dX10_set_33 rfl ?_
        refine z_ldc2 (x := 2) 37 dX10_set_34 rfl zw_1013 ?_
        refine z_cS3 40 dX10_set_37 rfl kX10_in zw_846 (Nat.le_of_ble_eq_true rfl) ⟨Nat.le_refl _, Nat.le_refl _⟩ ?_
        refine c_X10_in (a := 0) (by omega) (by omega) (by omega) ?_
        refine z_if_eq 64 43 dX10_set_40 (by decide) rfl (by first | omega | exact zr_b _ | exact zr_and _ _ | exact zr_or _ _ | exact zr_shl _ _) (fun c40 => ?_) (fun c40 => ?_)
        · try replace c40 := zb_0 c40
          refine z_bipush 66 dX10_set_64 rfl (by decide) ?_
          refine z_ret dX10_set_66 (by first | exact True.intro | exact Or.inl rfl | exact Or.inr rfl | exact zb_01 _ | assumption | (show _ ∨ _; omega)) ⟨Nat.le_refl _, Nat.le_refl _⟩ ?_
          exact hQ
        · try replace c40 := zb_1 c40
          refine z_iload_n 44 dX10_set_43 rfl rfl ?_
          refine z_iconst 45 dX10_set_44 rfl ?_
          refine z_icmp_ne 52 48 dX10_set_45 (by decide) rfl (by first | omega | exact zr_b _ | exact zr_and _ _ | exact zr_or _ _ | exact zr_shl _ _) (by first | omega | exact zr_b _ | exact zr_and _ _ | exact zr_or _ _ | exact zr_shl _ _) (fun c45 => ?_) (fun c45 => ?_)
          · refine z_iload_n 53 dX10_set_52 rfl rfl ?_
            refine z_i2l 54 dX10_set_53 rfl (by first | omega | exact zr_b _ | exact zr_and _ _ | exact zr_or _ _ | exact zr_shl _ _) ?_
            refine z_lconst 55 dX10_set_54 rfl ?_
            refine z_iload 57 dX10_set_55 rfl rfl ?_
            refine z_i2l 58 dX10_set_57 rfl (by first | omega | exact zr_b _ | exact zr_and _ _ | exact zr_or _ _ | exact zr_shl _ _) ?_
            refine z_cS3 61 dX10_set_58 rfl kX10_in zw_846 (Nat.le_of_ble_eq_true rfl) ⟨Nat.le_refl _, Nat.le_refl _⟩ ?_
            refine c_X10_in (a := 1) (by omega) (by omega) (by omega) ?_
            refine z_if_ne 67 64 dX10_set_61 (by decide) rfl (by first | omega | exact zr_b _ | exact zr_and _ _ | exact zr_or _ _ | exact zr_shl _ _) (fun c61 => ?_) (fun c61 => ?_)
            · try replace c61 := zb_1 c61
              exfalso; omega
            · try replace c61 := zb_0 c61
              refine z_bipush 66 dX10_set_64 rfl (by decide) ?_
              refine z_ret dX10_set_66 (by first | exact True.intro | exact Or.inl rfl | exact Or.inr rfl | exact zb_01 _ | assumption | (show _ ∨ _; omega)) ⟨Nat.le_refl _, Nat.le_refl _⟩ ?_
              exact hQ
          · refine z_iload_n 49 dX10_set_48 rfl rfl ?_
            refine z_if_ne 64 52 dX10_set_49 (by decide) rfl (by first | omega | exact zr_b _ | exact zr_and _ _ | exact zr_or _ _ | exact zr_shl _ _) (fun c49 => ?_) (fun c49 => ?_)
            · try replace c49 := zb_1 c49
              refine z_bipush 66 dX10_set_64 rfl (by decide) ?_
              refine z_ret dX10_set_66 (by first | exact True.intro | exact Or.inl rfl | exact Or.inr rfl | exact zb_01 _ | assumption | (show _ ∨ _; omega)) ⟨Nat.le_refl _, Nat.le_refl _⟩ ?_
              exact hQ
            · try replace c49 := zb_0 c49
              refine z_iload_n 53 dX10_set_52 rfl rfl ?_
              refine z_i2l 54 dX10_set_53 rfl (by first | omega | exact zr_b _ | exact zr_and _ _ | exact zr_or _ _ | exact zr_shl _ _) ?_
              refine z_lconst 55 dX10_set_54 rfl ?_
              refine z_iload 57 dX10_set_55 rfl rfl ?_
              refine z_i2l 58 dX10_set_57 rfl (by first | omega | exact zr_b _ | exact zr_and _ _ | exact zr_or _ _ | exact zr_shl _ _) ?_
              refine z_cS3 61 dX10_set_58 rfl kX10_in zw_846 (Nat.le_of_ble_eq_true rfl) ⟨Nat.le_refl _, Nat.le_refl _⟩ ?_
              refine c_X10_in (a := 1) (by omega) (by omega) (by omega) ?_
              refine z_if_ne 67 64 dX10_set_61 (by decide) rfl (by first | omega | exact zr_b _ | exact zr_and _ _ | exact zr_or _ _ | exact zr_shl _ _) (fun c61 => ?_) (fun c61 => ?_)
              · try replace c61 := zb_1 c61
                exfalso; omega
              · try replace c61 := zb_0 c61
                refine z_bipush 66 dX10_set_64 rfl (by decide) ?_
                refine z_ret dX10_set_66 (by first | exact True.intro | exact Or.inl rfl | exact Or.inr rfl | exact zb_01 _ | assumption | (show _ ∨ _; omega)) ⟨Nat.le_refl _, Nat.le_refl _⟩ ?_
                exact hQ
      · refine z_iconst 25 dX10_set_24 rfl ?_
        refine z_goto 29 dX10_set_25 (by decide) ?_
        refine z_istore 31 dX10_set_29 rfl (by decide) ?_
        refine z_iload_n 32 dX10_set_31 rfl rfl ?_
        refine z_i2l 33 dX10_set_32 rfl (by first | omega | exact zr_b _ | exact zr_and _ _ | exact zr_or _ _ | exact zr_shl _ _) ?_
        refine z_lconst 34 dX10_set_33 rfl ?_
        refine z_ldc2 (x := 2) 37 dX10_set_34 rfl zw_1013 ?_
        refine z_cS3 40 dX10_set_37 rfl kX10_in zw_846 (Nat.le_of_ble_eq_true rfl) ⟨Nat.le_refl _, Nat.le_refl _⟩ ?_
        refine c_X10_in (a := 0) (by omega) (by omega) (by omega) ?_
        refine z_if_eq 64 43 dX10_set_40 (by decide) rfl (by first | omega | exact zr_b _ | exact zr_and _ _ | exact zr_or _ _ | exact zr_shl _ _) (fun c40 => ?_) (fun c40 => ?_)
        · try replace c40 := zb_0 c40
          refine z_bipush 66 dX10_set_64 rfl (by decide) ?_
          refine z_ret dX10_set_66 (by first | exact True.intro | exact Or.inl rfl | exact Or.inr rfl | exact zb_01 _ | assumption | (show _ ∨ _; omega)) ⟨Nat.le_refl _, Nat.le_refl _⟩ ?_
          exact hQ
        · try replace c40 := zb_1 c40
          refine z_iload_n 44 dX10_set_43 rfl rfl ?_
          refine z_iconst 45 dX10_set_44 rfl ?_
          refine z_icmp_ne 52 48 dX10_set_45 (by decide) rfl (by first | omega | exact zr_b _ | exact zr_and _ _ | exact zr_or _ _ | exact zr_shl _ _) (by first | omega | exact zr_b _ | exact zr_and _ _ | exact zr_or _ _ | exact zr_shl _ _) (fun c45 => ?_) (fun c45 => ?_)
          · refine z_iload_n 53 dX10_set_52 rfl rfl ?_
            refine z_i2l 54 dX10_set_53 rfl (by first | omega | exact zr_b _ | exact zr_and _ _ | exact zr_or _ _ | exact zr_shl _ _) ?_
            refine z_lconst 55 dX10_set_54 rfl ?_
            refine z_iload 57 dX10_set_55 rfl rfl ?_
            refine z_i2l 58 dX10_set_57 rfl (by first | omega | exact zr_b _ | exact zr_and _ _ | exact zr_or _ _ | exact zr_shl _ _) ?_
            refine z_cS3 61 dX10_set_58 rfl kX10_in zw_846 (Nat.le_of_ble_eq_true rfl) ⟨Nat.le_refl _, Nat.le_refl _⟩ ?_
            refine c_X10_in (a := 1) (by omega) (by omega) (by omega) ?_
            refine z_if_ne 67 64 dX10_set_61 (by decide) rfl (by first | omega | exact zr_b _ | exact zr_and _ _ | exact zr_or _ _ | exact zr_shl _ _) (fun c61 => ?_) (fun c61 => ?_)
            · try replace c61 := zb_1 c61
              exfalso; omega
            · try replace c61 := zb_0 c61
              refine z_bipush 66 dX10_set_64 rfl (by decide) ?_
              refine z_ret dX10_set_66 (by first | exact True.intro | exact Or.inl rfl | exact Or.inr rfl | exact zb_01 _ | assumption | (show _ ∨ _; omega)) ⟨Nat.le_refl _, Nat.le_refl _⟩ ?_
              exact hQ
          · refine z_iload_n 49 dX10_set_48 rfl rfl ?_
            refine z_if_ne 64 52 dX10_set_49 (by decide) rfl (by first | omega | exact zr_b _ | exact zr_and _ _ | exact zr_or _ _ | exact zr_shl _ _) (fun c49 => ?_) (fun c49 => ?_)
            · try replace c49 := zb_1 c49
              refine z_bipush 66 dX10_set_64 rfl (by decide) ?_
              refine z_ret dX10_set_66 (by first | exact True.intro | exact Or.inl rfl | exact Or.inr rfl | exact zb_01 _ | assumption | (show _ ∨ _; omega)) ⟨Nat.le_refl _, Nat.le_refl _⟩ ?_
              exact hQ
            · try replace c49 := zb_0 c49
              refine z_iload_n 53 dX10_set_52 rfl rfl ?_
              refine z_i2l 54 dX10_set_53 rfl (by first | omega | exact zr_b _ | exact zr_and _ _ | exact zr_or _ _ | exact zr_shl _ _) ?_
              refine z_lconst 55 dX10_set_54 rfl ?_
              refine z_iload 57 dX10_set_55 rfl rfl ?_
              refine z_i2l 58 dX10_set_57 rfl (by first | omega | exact zr_b _ | exact zr_and _ _ | exact zr_or _ _ | exact zr_shl _ _) ?_
              refine z_cS3 61 dX10_set_58 rfl kX10_in zw_846 (Nat.le_of_ble_eq_true rfl) ⟨Nat.le_refl _, Nat.le_refl _⟩ ?_
              refine c_X10_in (a := 1) (by omega) (by omega) (by omega) ?_
              refine z_if_ne 67 64 dX10_set_61 (by decide) rfl (by first | omega | exact zr_b _ | exact zr_and _ _ | exact zr_or _ _ | exact zr_shl _ _) (fun c61 => ?_) (fun c61 => ?_)
              · try replace c61 := zb_1 c61
                exfalso; omega
              · try replace c61 := zb_0 c61
                refine z_bipush 66 dX10_set_64 rfl (by decide) ?_
                refine z_ret dX10_set_66 (by first | exact True.intro | exact Or.inl rfl | exact Or.inr rfl | exact zb_01 _ | assumption | (show _ ∨ _; omega)) ⟨Nat.le_refl _, Nat.le_refl _⟩ ?_
                exact hQ
    · try replace c11 := zb_0 c11
      refine z_bipush 16 dX10_set_14 rfl (by decide) ?_
      refine z_goto 29 dX10_set_16 (by decide) ?_
      refine z_istore 31 dX10_set_29 rfl (by decide) ?_
      refine z_iload_n 32 dX10_set_31 rfl rfl ?_
      refine z_i2l 33 dX10_set_32 rfl (by first | omega | exact zr_b _ | exact zr_and _ _ | exact zr_or _ _ | exact zr_shl _ _) ?_
      refine z_lconst 34 dX10_set_33 rfl ?_
      refine z_ldc2 (x := 2) 37 dX10_set_34 rfl zw_1013 ?_
      refine z_cS3 40 dX10_set_37 rfl kX10_in zw_846 (Nat.le_of_ble_eq_true rfl) ⟨Nat.le_refl _, Nat.le_refl _⟩ ?_
      refine c_X10_in (a := 0) (by omega) (by omega) (by omega) ?_
      refine z_if_eq 64 43 dX10_set_40 (by decide) rfl (by first | omega | exact zr_b _ | exact zr_and _ _ | exact zr_or _ _ | exact zr_shl _ _) (fun c40 => ?_) (fun c40 => ?_)
      · try replace c40 := zb_0 c40
        refine z_bipush 66 dX10_set_64 rfl (by decide) ?_
        refine z_ret dX10_set_66 (by first | exact True.intro | exact Or.inl rfl | exact Or.inr rfl | exact zb_01 _ | assumption | (show _ ∨ _; omega)) ⟨Nat.le_refl _, Nat.le_refl _⟩ ?_
        exact hQ
      · try replace c40 := zb_1 c40
        refine z_iload_n 44 dX10_set_43 rfl rfl ?_
        refine z_iconst 45 dX10_set_44 rfl ?_
        refine z_icmp_ne 52 48 dX10_set_45 (by decide) rfl (by first | omega | exact zr_b _ | exact zr_and _ _ | exact zr_or _ _ | exact zr_shl _ _) (by first | omega | exact zr_b _ | exact zr_and _ _ | exact zr_or _ _ | exact zr_shl _ _) (fun c45 => ?_) (fun c45 => ?_)
        · refine z_iload_n 53 dX10_set_52 rfl rfl ?_
          refine z_i2l 54 dX10_set_53 rfl (by first | omega | exact zr_b _ | exact zr_and _ _ | exact zr_or _ _ | exact zr_shl _ _) ?_
          refine z_lconst 55 dX10_set_54 rfl ?_
          refine z_iload 57 dX10_set_55 rfl rfl ?_
          refine z_i2l 58 dX10_set_57 rfl (by first | omega | exact zr_b _ | exact zr_and _ _ | exact zr_or _ _ | exact zr_shl _ _) ?_
          refine z_cS3 61 dX10_set_58 rfl kX10_in zw_846 (Nat.le_of_ble_eq_true rfl) ⟨Nat.le_refl _, Nat.le_refl _⟩ ?_
          refine c_X10_in (a := 1) (by omega) (by omega) (by omega) ?_
          refine z_if_ne 67 64 dX10_set_61 (by decide) rfl (by first | omega | exact zr_b _ | exact zr_and _ _ | exact zr_or _ _ | exact zr_shl _ _) (fun c61 => ?_) (fun c61 => ?_)
          · try replace c61 := zb_1 c61
            exfalso; omega
          · try replace c61 := zb_0 c61
            refine z_bipush 66 dX10_set_64 rfl (by decide) ?_
            refine z_ret dX10_set_66 (by first | exact True.intro | exact Or.inl rfl | exact Or.inr rfl | exact zb_01 _ | assumption | (show _ ∨ _; omega)) ⟨Nat.le_refl _, Nat.le_refl _⟩ ?_
            exact hQ
        · refine z_iload_n 49 dX10_set_48 rfl rfl ?_
          refine z_if_ne 64 52 dX10_set_49 (by decide) rfl (by first | omega | exact zr_b _ | exact zr_and _ _ | exact zr_or _ _ | exact zr_shl _ _) (fun c49 => ?_) (fun c49 => ?_)
          · try replace c49 := zb_1 c49
            refine z_bipush 66 dX10_set_64 rfl (by decide) ?_
            refine z_ret dX10_set_66 (by first | exact True.intro | exact Or.inl rfl | exact Or.inr rfl | exact zb_01 _ | assumption | (show _ ∨ _; omega)) ⟨Nat.le_refl _, Nat.le_refl _⟩ ?_
            exact hQ
          · try replace c49 := zb_0 c49
            refine z_iload_n 53 dX10_set_52 rfl rfl ?_
            refine z_i2l 54 dX10_set_53 rfl (by first | omega | exact zr_b _ | exact zr_and _ _ | exact zr_or _ _ | exact zr_shl _ _) ?_
            refine z_lconst 55 dX10_set_54 rfl ?_
            refine z_iload 57 dX10_set_55 rfl rfl ?_
            refine z_i2l 58 dX10_set_57 rfl (by first | omega | exact zr_b _ | exact zr_and _ _ | exact zr_or _ _ | exact zr_shl _ _) ?_
            refine z_cS3 61 dX10_set_58 rfl kX10_in zw_846 (Nat.le_of_ble_eq_true rfl) ⟨Nat.le_refl _, Nat.le_refl _⟩ ?_
            refine c_X10_in (a := 1) (by omega) (by omega) (by omega) ?_
            refine z_if_ne 67 64 dX10_set_61 (by decide) rfl (by first | omega | exact zr_b _ | exact zr_and _ _ | exact zr_or _ _ | exact zr_shl _ _) (fun c61 => ?_) (fun c61 => ?_)
            · try replace c61 := zb_1 c61
              exfalso; omega
            · try replace c61 := zb_0 c61
              refine z_bipush 66 dX10_set_64 rfl (by decide) ?_
              refine z_ret dX10_set_66 (by first | exact True.intro | exact Or.inl rfl | exact Or.inr rfl | exact zb_01 _ | assumption | (show _ ∨ _; omega)) ⟨Nat.le_refl _, Nat.le_refl _⟩ ?_
              exact hQ
  · exact absurd c5 (by decide)
theorem m_set_no {p w v : Int} (hW : zMC h C l ((N + 1 : Nat) : Int) R DI ac nx KP IK SW ST sn sd) (hN : N ≤ 7) (hp : -2147483648 ≤ p ∧ p ≤ 2147483647) (hw : -2147483648 ≤ w ∧ w ≤ 2147483647) (hv : -2147483648 ≤ v ∧ v ≤ 2147483647) (hr : zrfS N p w v ≠ 0) (hQ : Q (some (vI (zrfS N p w v))) h) : zC (d + 4) mX10_set 0 0 [vR 112, vI p, vI w, vI v] h Q := by
  unfold zrfS at hr hQ
  by_cases e1 : ¬ (0 ≤ p ∧ p < (N : Int) + 1)
  · rw [if_pos e1] at hQ
    exact m_set_no1 hW hN ⟨hp, e1⟩ hQ
  · rw [if_neg e1] at hQ hr
    by_cases e2 : w < 0 ∨ 2 < w ∨ (w = 2 ∧ p ≠ 0)
    · rw [if_pos e2] at hQ
      exact m_set_no2 hW hN (by omega) hw e2 hQ
    · rw [if_neg e2] at hQ hr
      by_cases e3 : v < 1 ∨ (if w = 0 then (9 : Int) else if w = 1 then 5 else 3) < v
      · rw [if_pos e3] at hQ
        refine m_set_no3 hW hN (by omega) (by omega) hv ?_ hQ
        rcases e3 with e | e
        · exact Or.inl e
        · split at e
          · exact Or.inr (Or.inl ⟨by omega, e⟩)
          · split at e
            · exact Or.inr (Or.inr (Or.inl ⟨by omega, e⟩))
            · exact Or.inr (Or.inr (Or.inr ⟨by omega, e⟩))
      · rw [if_neg e3] at hr
        exact absurd rfl hr
end MSETNO
