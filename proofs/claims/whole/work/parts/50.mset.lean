/-! THE MODEL: set -/
section MSET
variable {d : Nat} {h : zH} {Q : Option zV → zH → Prop} {C : Int → Int} {l : Int} {N : Nat} {R DI : Int → Int} {ac nx : Int} {KP IK SW ST : Int → Int} {sn sd : Int}
theorem m_set0 {p v : Int} (hW : zMC h C l ((N + 1 : Nat) : Int) R DI ac nx KP IK SW ST sn sd) (hN : N ≤ 7) (hp : 0 ≤ p ∧ p ≤ N) (hv : 1 ≤ v ∧ v ≤ 9) (ha : 0 ≤ ac ∧ ac ≤ 14) (hx : 0 ≤ nx ∧ nx < 14)
    (hQ : ∀ (h' : zH) (DI' : Int → Int), (∀ k : Int, 0 ≤ k → k < 33 → DI' (33 * nx + k) = R k) → (∀ q : Int, (q < 33 * nx ∨ 33 * nx + 33 ≤ q) → DI' q = DI q) → zMC h' C l ((N + 1 : Nat) : Int) (zst R (1 + p) v) DI' (if ac < 14 then ac + 1 else 14) ((nx + 1) % 14) KP IK SW ST sn sd → zMod 112 127 h h' → Q (some (vI (R (1 + p)))) h') : zC (d + 4) mX10_set 0 0 [vR 112, vI p, vI 0, vI v] h Q := by
  have hW0 := hW
  obtain ⟨TR, TI, WH, BG, OD, WO, MA, RD, rp, rs, rm, rw', hW⟩ := hW
  have w112 := hW.c112
  dsimp only [zMO, zMS.C, zMS.l, zMS.n, zMS.R, zMS.TR, zMS.DI, zMS.ac, zMS.nx, zMS.KP, zMS.IK, zMS.SW, zMS.ST, zMS.sn, zMS.sd, zMS.TI, zMS.WH, zMS.BG, zMS.OD, zMS.WO, zMS.MA, zMS.rp, zMS.RD, zMS.rs, zMS.rm, zMS.rw, zMS.uC, zMS.ul, zMS.un, zMS.uR, zMS.uTR, zMS.uDI, zMS.uac, zMS.unx, zMS.uKP, zMS.uIK, zMS.uSW, zMS.uST, zMS.usn, zMS.usd, zMS.uTI, zMS.uWH, zMS.uBG, zMS.uOD, zMS.uWO, zMS.uMA, zMS.urp, zMS.uRD, zMS.urs, zMS.urm, zMS.urw] at w112
  refine zC.of zpl_X10 (Nat.le_of_ble_eq_true rfl) ?_
  refine z_aload_n 1 dX10_set_0 rfl rfl ?_
  refine z_iload_n 2 dX10_set_1 rfl rfl ?_
  refine z_cV1 5 dX10_set_2 rfl kX10_isPerson zw_939 (Nat.le_of_ble_eq_true rfl) ⟨Nat.le_refl _, Nat.le_refl _⟩ (by first | with_reducible assumption | with_reducible exact zup_same _ _ _) ?_
  refine c_X10_isPerson hW.c112 (by show 1 ≤ ((N + 1 : Nat) : Int) ∧ ((N + 1 : Nat) : Int) ≤ 8; omega) (by omega) ?_
  rw [zb_t (by show 0 ≤ (p : Int) ∧ p < ((N + 1 : Nat) : Int); omega)]
  refine z_if_ne 10 8 dX10_set_5 (by decide) rfl (by first | omega | exact zr_b _ | exact zr_and _ _ | exact zr_or _ _ | exact zr_shl _ _) (fun c5 => ?_) (fun c5 => ?_)
  · try replace c5 := zb_1 c5
    refine z_iload_n 11 dX10_set_10 rfl rfl ?_
    refine z_if_ne 19 14 dX10_set_11 (by decide) rfl (by first | omega | exact zr_b _ | exact zr_and _ _ | exact zr_or _ _ | exact zr_shl _ _) (fun c11 => ?_) (fun c11 => ?_)
    · exact absurd rfl c11
    · try replace c11 := zb_0 c11
      refine z_bipush 16 dX10_set_14 rfl (by decide) ?_
      refine z_goto 29 dX10_set_16 (by decide) ?_
      refine z_istore 31 dX10_set_29 rfl (by decide) ?_
      refine z_iload_n 32 dX10_set_31 rfl rfl ?_
      refine z_i2l 33 dX10_set_32 rfl (by first | omega | exact zr_b _ | exact zr_and _ _ | exact zr_or _ _ | exact zr_shl _ _) ?_
      refine z_lconst 34 dX10_set_33 rfl ?_
      refine z_ldc2 (x := 2) 37 dX10_set_34 rfl zw_1013 ?_
      refine z_cS3 40 dX10_set_37 rfl kX10_in zw_846 (Nat.le_of_ble_eq_true rfl) ⟨Nat.le_refl _, Nat.le_refl _⟩ ?_
      refine c_X10_in (a := 0) (by omega) (by omega) (by omega) ?_
      rw [zb_t (by omega)]
      refine z_if_eq 64 43 dX10_set_40 (by decide) rfl (by first | omega | exact zr_b _ | exact zr_and _ _ | exact zr_or _ _ | exact zr_shl _ _) (fun c40 => ?_) (fun c40 => ?_)
      · exact absurd c40 (by decide)
      · try replace c40 := zb_1 c40
        refine z_iload_n 44 dX10_set_43 rfl rfl ?_
        refine z_iconst 45 dX10_set_44 rfl ?_
        refine z_icmp_ne 52 48 dX10_set_45 (by decide) rfl (by first | omega | exact zr_b _ | exact zr_and _ _ | exact zr_or _ _ | exact zr_shl _ _) (by first | omega | exact zr_b _ | exact zr_and _ _ | exact zr_or _ _ | exact zr_shl _ _) (fun c45 => ?_) (fun c45 => ?_)
        · refine z_iload_n 53 dX10_set_52 rfl rfl ?_
          refine z_i2l 54 dX10_set_53 rfl (by first | omega | exact zr_b _ | exact zr_and _ _ | exact zr_or _ _ | exact zr_shl _ _) ?_
          refine z_lconst 55 dX10_set_54 rfl ?_
          refine z_iload 57 dX10_set_55 rfl rfl ?_
          refine z_i2l 58 dX10_set_57 rfl (by first | omega | exact zr_b _ | exact zr_and _ _ | exact zr_or _ _ | exact zr_shl _ _) ?_
          refine z_cS3 61 dX10_set_58 rfl kX10_in zw_846 (Nat.le_of_ble_eq_true rfl) ⟨Nat.le_refl _, Nat.le_refl _⟩ ?_
          refine c_X10_in (a := 1) (by omega) (by omega) (by omega) ?_
          rw [zb_t (by omega)]
          refine z_if_ne 67 64 dX10_set_61 (by decide) rfl (by first | omega | exact zr_b _ | exact zr_and _ _ | exact zr_or _ _ | exact zr_shl _ _) (fun c61 => ?_) (fun c61 => ?_)
          · try replace c61 := zb_1 c61
            refine z_aload_n 68 dX10_set_67 rfl rfl ?_
            refine z_cV0 71 dX10_set_68 rfl kX10_note zw_983 (Nat.le_of_ble_eq_true rfl) ⟨Nat.le_refl _, Nat.le_refl _⟩ (by first | with_reducible assumption | with_reducible exact zup_same _ _ _) ?_
            refine c_X10_note hW0 ha hx (fun h1 DI' k1 k2 hW1 hF1 => ?_)
            obtain ⟨TR, TI, WH, BG, OD, WO, MA, RD, rp, rs, rm, rw', hW1⟩ := hW1
            have w112 := hW1.c112
            dsimp only [zMO, zMS.C, zMS.l, zMS.n, zMS.R, zMS.TR, zMS.DI, zMS.ac, zMS.nx, zMS.KP, zMS.IK, zMS.SW, zMS.ST, zMS.sn, zMS.sd, zMS.TI, zMS.WH, zMS.BG, zMS.OD, zMS.WO, zMS.MA, zMS.rp, zMS.RD, zMS.rs, zMS.rm, zMS.rw, zMS.uC, zMS.ul, zMS.un, zMS.uR, zMS.uTR, zMS.uDI, zMS.uac, zMS.unx, zMS.uKP, zMS.uIK, zMS.uSW, zMS.uST, zMS.usn, zMS.usd, zMS.uTI, zMS.uWH, zMS.uBG, zMS.uOD, zMS.uWO, zMS.uMA, zMS.urp, zMS.uRD, zMS.urs, zMS.urm, zMS.urw] at w112
            have w114 := hW1.c114
            dsimp only [zMO, zMS.C, zMS.l, zMS.n, zMS.R, zMS.TR, zMS.DI, zMS.ac, zMS.nx, zMS.KP, zMS.IK, zMS.SW, zMS.ST, zMS.sn, zMS.sd, zMS.TI, zMS.WH, zMS.BG, zMS.OD, zMS.WO, zMS.MA, zMS.rp, zMS.RD, zMS.rs, zMS.rm, zMS.rw, zMS.uC, zMS.ul, zMS.un, zMS.uR, zMS.uTR, zMS.uDI, zMS.uac, zMS.unx, zMS.uKP, zMS.uIK, zMS.uSW, zMS.uST, zMS.usn, zMS.usd, zMS.uTI, zMS.uWH, zMS.uBG, zMS.uOD, zMS.uWO, zMS.uMA, zMS.urp, zMS.uRD, zMS.urs, zMS.urm, zMS.urw] at w114
            refine z_iload_n 72 dX10_set_71 rfl rfl ?_
            refine z_if_ne 81 75 dX10_set_72 (by decide) rfl (by first | omega | exact zr_b _ | exact zr_and _ _ | exact zr_or _ _ | exact zr_shl _ _) (fun c72 => ?_) (fun c72 => ?_)
            · exact absurd rfl c72
            · try replace c72 := zb_0 c72
              refine z_iconst 76 dX10_set_75 rfl ?_
              refine z_iload_n 77 dX10_set_76 rfl rfl ?_
              refine z_iadd 78 dX10_set_77 rfl ?_
              refine z_goto 94 dX10_set_78 (by decide) ?_
              refine z_istore 96 dX10_set_94 rfl (by decide) ?_
              refine z_aload_n 97 dX10_set_96 rfl rfl ?_
              refine z_getf (ci := 10) 100 dX10_set_97 rfl rfl zin_10 3 (by decide) zw_767 (by first | with_reducible assumption | with_reducible exact zup_same _ _ _) rfl ?_
              refine z_iload 102 dX10_set_100 rfl rfl ?_
              refine z_iald 103 dX10_set_102 rfl (by first | with_reducible assumption | with_reducible exact zup_same _ _ _) (by omega) (by first | omega | exact zr_b _ | exact zr_and _ _ | exact zr_or _ _ | exact zr_shl _ _) ?_
              refine z_istore 105 dX10_set_103 rfl (by decide) ?_
              refine z_aload_n 106 dX10_set_105 rfl rfl ?_
              refine z_getf (ci := 10) 109 dX10_set_106 rfl rfl zin_10 3 (by decide) zw_767 (by first | with_reducible assumption | with_reducible exact zup_same _ _ _) rfl ?_
              refine z_iload 111 dX10_set_109 rfl rfl ?_
              refine z_iload_n 112 dX10_set_111 rfl rfl ?_
              refine z_iast 113 dX10_set_112 rfl (by omega) (by first | with_reducible assumption | with_reducible exact zup_same _ _ _) (by omega) (by first | omega | exact zr_b _ | exact zr_and _ _ | exact zr_or _ _ | exact zr_shl _ _) ?_
              refine z_iload 115 dX10_set_113 rfl rfl ?_
              refine z_ret dX10_set_115 (by first | exact True.intro | exact Or.inl rfl | exact Or.inr rfl | exact zb_01 _ | assumption | (show _ ∨ _; omega)) ⟨Nat.le_refl _, Nat.le_refl _⟩ ?_
              exact hQ _ DI' k1 k2 (hW1.s114 _).mc (hF1.up _ (by omega))
          · exact absurd c61 (by decide)
        · exact absurd c45 (by decide)
  · exact absurd c5 (by decide)
theorem m_set1 {p v : Int} (hW : zMC h C l ((N + 1 : Nat) : Int) R DI ac nx KP IK SW ST sn sd) (hN : N ≤ 7) (hp : 0 ≤ p ∧ p ≤ N) (hv : 1 ≤ v ∧ v ≤ 5) (ha : 0 ≤ ac ∧ ac ≤ 14) (hx : 0 ≤ nx ∧ nx < 14)
    (hQ : ∀ (h' : zH) (DI' : Int → Int), (∀ k : Int, 0 ≤ k → k < 33 → DI' (33 * nx + k) = R k) → (∀ q : Int, (q < 33 * nx ∨ 33 * nx + 33 ≤ q) → DI' q = DI q) → zMC h' C l ((N + 1 : Nat) : Int) (zst R (9 + p) v) DI' (if ac < 14 then ac + 1 else 14) ((nx + 1) % 14) KP IK SW ST sn sd → zMod 112 127 h h' → Q (some (vI (R (9 + p)))) h') : zC (d + 4) mX10_set 0 0 [vR 112, vI p, vI 1, vI v] h Q := by
  have hW0 := hW
  obtain ⟨TR, TI, WH, BG, OD, WO, MA, RD, rp, rs, rm, rw', hW⟩ := hW
  have w112 := hW.c112
  dsimp only [zMO, zMS.C, zMS.l, zMS.n, zMS.R, zMS.TR, zMS.DI, zMS.ac, zMS.nx, zMS.KP, zMS.IK, zMS.SW, zMS.ST, zMS.sn, zMS.sd, zMS.TI, zMS.WH, zMS.BG, zMS.OD, zMS.WO, zMS.MA, zMS.rp, zMS.RD, zMS.rs, zMS.rm, zMS.rw, zMS.uC, zMS.ul, zMS.un, zMS.uR, zMS.uTR, zMS.uDI, zMS.uac, zMS.unx, zMS.uKP, zMS.uIK, zMS.uSW, zMS.uST, zMS.usn, zMS.usd, zMS.uTI, zMS.uWH, zMS.uBG, zMS.uOD, zMS.uWO, zMS.uMA, zMS.urp, zMS.uRD, zMS.urs, zMS.urm, zMS.urw] at w112
  refine zC.of zpl_X10 (Nat.le_of_ble_eq_true rfl) ?_
  refine z_aload_n 1 dX10_set_0 rfl rfl ?_
  refine z_iload_n 2 dX10_set_1 rfl rfl ?_
  refine z_cV1 5 dX10_set_2 rfl kX10_isPerson zw_939 (Nat.le_of_ble_eq_true rfl) ⟨Nat.le_refl _, Nat.le_refl _⟩ (by first | with_reducible assumption | with_reducible exact zup_same _ _ _) ?_
  refine c_X10_isPerson hW.c112 (by show 1 ≤ ((N + 1 : Nat) : Int) ∧ ((N + 1 : Nat) : Int) ≤ 8; omega) (by omega) ?_
  rw [zb_t (by show 0 ≤ (p : Int) ∧ p < ((N + 1 : Nat) : Int); omega)]
  refine z_if_ne 10 8 dX10_set_5 (by decide) rfl (by first | omega | exact zr_b _ | exact zr_and _ _ | exact zr_or _ _ | exact zr_shl _ _) (fun c5 => ?_) (fun c5 => ?_)
  · try replace c5 := zb_1 c5
    refine z_iload_n 11 dX10_set_10 rfl rfl ?_
    refine z_if_ne 19 14 dX10_set_11 (by decide) rfl (by first | omega | exact zr_b _ | exact zr_and _ _ | exact zr_or _ _ | exact zr_shl _ _) (fun c11 => ?_) (fun c11 => ?_)
    · try replace c11 := zb_1 c11
      refine z_iload_n 20 dX10_set_19 rfl rfl ?_
      refine z_iconst 21 dX10_set_20 rfl ?_
      refine z_icmp_ne 28 24 dX10_set_21 (by decide) rfl (by first | omega | exact zr_b _ | exact zr_and _ _ | exact zr_or _ _ | exact zr_shl _ _) (by first | omega | exact zr_b _ | exact zr_and _ _ | exact zr_or _ _ | exact zr_shl _ _) (fun c21 => ?_) (fun c21 => ?_)
      · exact absurd rfl c21
      · refine z_iconst 25 dX10_set_24 rfl ?_
        refine z_goto 29 dX10_set_25 (by decide) ?_
        refine z_istore 31 dX10_set_29 rfl (by decide) ?_
        refine z_iload_n 32 dX10_set_31 rfl rfl ?_
        refine z_i2l 33 dX10_set_32 rfl (by first | omega | exact zr_b _ | exact zr_and _ _ | exact zr_or _ _ | exact zr_shl _ _) ?_
        refine z_lconst 34 dX10_set_33 rfl ?_
        refine z_ldc2 (x := 2) 37 dX10_set_34 rfl zw_1013 ?_
        refine z_cS3 40 dX10_set_37 rfl kX10_in zw_846 (Nat.le_of_ble_eq_true rfl) ⟨Nat.le_refl _, Nat.le_refl _⟩ ?_
        refine c_X10_in (a := 0) (by omega) (by omega) (by omega) ?_
        rw [zb_t (by omega)]
        refine z_if_eq 64 43 dX10_set_40 (by decide) rfl (by first | omega | exact zr_b _ | exact zr_and _ _ | exact zr_or _ _ | exact zr_shl _ _) (fun c40 => ?_) (fun c40 => ?_)
        · exact absurd c40 (by decide)
        · try replace c40 := zb_1 c40
          refine z_iload_n 44 dX10_set_43 rfl rfl ?_
          refine z_iconst 45 dX10_set_44 rfl ?_
          refine z_icmp_ne 52 48 dX10_set_45 (by decide) rfl (by first | omega | exact zr_b _ | exact zr_and _ _ | exact zr_or _ _ | exact zr_shl _ _) (by first | omega | exact zr_b _ | exact zr_and _ _ | exact zr_or _ _ | exact zr_shl _ _) (fun c45 => ?_) (fun c45 => ?_)
          · refine z_iload_n 53 dX10_set_52 rfl rfl ?_
            refine z_i2l 54 dX10_set_53 rfl (by first | omega | exact zr_b _ | exact zr_and _ _ | exact zr_or _ _ | exact zr_shl _ _) ?_
            refine z_lconst 55 dX10_set_54 rfl ?_
            refine z_iload 57 dX10_set_55 rfl rfl ?_
            refine z_i2l 58 dX10_set_57 rfl (by first | omega | exact zr_b _ | exact zr_and _ _ | exact zr_or _ _ | exact zr_shl _ _) ?_
            refine z_cS3 61 dX10_set_58 rfl kX10_in zw_846 (Nat.le_of_ble_eq_true rfl) ⟨Nat.le_refl _, Nat.le_refl _⟩ ?_
            refine c_X10_in (a := 1) (by omega) (by omega) (by omega) ?_
            rw [zb_t (by omega)]
            refine z_if_ne 67 64 dX10_set_61 (by decide) rfl (by first | omega | exact zr_b _ | exact zr_and _ _ | exact zr_or _ _ | exact zr_shl _ _) (fun c61 => ?_) (fun c61 => ?_)
            · try replace c61 := zb_1 c61
              refine z_aload_n 68 dX10_set_67 rfl rfl ?_
              refine z_cV0 71 dX10_set_68 rfl kX10_note zw_983 (Nat.le_of_ble_eq_true rfl) ⟨Nat.le_refl _, Nat.le_refl _⟩ (by first | with_reducible assumption | with_reducible exact zup_same _ _ _) ?_
              refine c_X10_note hW0 ha hx (fun h1 DI' k1 k2 hW1 hF1 => ?_)
              obtain ⟨TR, TI, WH, BG, OD, WO, MA, RD, rp, rs, rm, rw', hW1⟩ := hW1
              have w112 := hW1.c112
              dsimp only [zMO, zMS.C, zMS.l, zMS.n, zMS.R, zMS.TR, zMS.DI, zMS.ac, zMS.nx, zMS.KP, zMS.IK, zMS.SW, zMS.ST, zMS.sn, zMS.sd, zMS.TI, zMS.WH, zMS.BG, zMS.OD, zMS.WO, zMS.MA, zMS.rp, zMS.RD, zMS.rs, zMS.rm, zMS.rw, zMS.uC, zMS.ul, zMS.un, zMS.uR, zMS.uTR, zMS.uDI, zMS.uac, zMS.unx, zMS.uKP, zMS.uIK, zMS.uSW, zMS.uST, zMS.usn, zMS.usd, zMS.uTI, zMS.uWH, zMS.uBG, zMS.uOD, zMS.uWO, zMS.uMA, zMS.urp, zMS.uRD, zMS.urs, zMS.urm, zMS.urw] at w112
              have w114 := hW1.c114
              dsimp only [zMO, zMS.C, zMS.l, zMS.n, zMS.R, zMS.TR, zMS.DI, zMS.ac, zMS.nx, zMS.KP, zMS.IK, zMS.SW, zMS.ST, zMS.sn, zMS.sd, zMS.TI, zMS.WH, zMS.BG, zMS.OD, zMS.WO, zMS.MA, zMS.rp, zMS.RD, zMS.rs, zMS.rm, zMS.rw, zMS.uC, zMS.ul, zMS.un, zMS.uR, zMS.uTR, zMS.uDI, zMS.uac, zMS.unx, zMS.uKP, zMS.uIK, zMS.uSW, zMS.uST, zMS.usn, zMS.usd, zMS.uTI, zMS.uWH, zMS.uBG, zMS.uOD, zMS.uWO, zMS.uMA, zMS.urp, zMS.uRD, zMS.urs, zMS.urm, zMS.urw] at w114
              refine z_iload_n 72 dX10_set_71 rfl rfl ?_
              refine z_if_ne 81 75 dX10_set_72 (by decide) rfl (by first | omega | exact zr_b _ | exact zr_and _ _ | exact zr_or _ _ | exact zr_shl _ _) (fun c72 => ?_) (fun c72 => ?_)
              · try replace c72 := zb_1 c72
                refine z_iload_n 82 dX10_set_81 rfl rfl ?_
                refine z_iconst 83 dX10_set_82 rfl ?_
                refine z_icmp_ne 93 86 dX10_set_83 (by decide) rfl (by first | omega | exact zr_b _ | exact zr_and _ _ | exact zr_or _ _ | exact zr_shl _ _) (by first | omega | exact zr_b _ | exact zr_and _ _ | exact zr_or _ _ | exact zr_shl _ _) (fun c83 => ?_) (fun c83 => ?_)
                · exact absurd rfl c83
                · refine z_bipush 88 dX10_set_86 rfl (by decide) ?_
                  refine z_iload_n 89 dX10_set_88 rfl rfl ?_
                  refine z_iadd 90 dX10_set_89 rfl ?_
                  refine z_goto 94 dX10_set_90 (by decide) ?_
                  refine z_istore 96 dX10_set_94 rfl (by decide) ?_
                  refine z_aload_n 97 dX10_set_96 rfl rfl ?_
                  refine z_getf (ci := 10) 100 dX10_set_97 rfl rfl zin_10 3 (by decide) zw_767 (by first | with_reducible assumption | with_reducible exact zup_same _ _ _) rfl ?_
                  refine z_iload 102 dX10_set_100 rfl rfl ?_
                  refine z_iald 103 dX10_set_102 rfl (by first | with_reducible assumption | with_reducible exact zup_same _ _ _) (by omega) (by first | omega | exact zr_b _ | exact zr_and _ _ | exact zr_or _ _ | exact zr_shl _ _) ?_
                  refine z_istore 105 dX10_set_103 rfl (by decide) ?_
                  refine z_aload_n 106 dX10_set_105 rfl rfl ?_
                  refine z_getf (ci := 10) 109 dX10_set_106 rfl rfl zin_10 3 (by decide) zw_767 (by first | with_reducible assumption | with_reducible exact zup_same _ _ _) rfl ?_
                  refine z_iload 111 dX10_set_109 rfl rfl ?_
                  refine z_iload_n 112 dX10_set_111 rfl rfl ?_
                  refine z_iast 113 dX10_set_112 rfl (by omega) (by first | with_reducible assumption | with_reducible exact zup_same _ _ _) (by omega) (by first | omega | exact zr_b _ | exact zr_and _ _ | exact zr_or _ _ | exact zr_shl _ _) ?_
                  refine z_iload 115 dX10_set_113 rfl rfl ?_
                  refine z_ret dX10_set_115 (by first | exact True.intro | exact Or.inl rfl | exact Or.inr rfl | exact zb_01 _ | assumption | (show _ ∨ _; omega)) ⟨Nat.le_refl _, Nat.le_refl _⟩ ?_
                  exact hQ _ DI' k1 k2 (hW1.s114 _).mc (hF1.up _ (by omega))
              · exact absurd c72 (by decide)
            · exact absurd c61 (by decide)
          · exact absurd c45 (by decide)
    · exact absurd c11 (by decide)
  · exact absurd c5 (by decide)
theorem m_set2 {v : Int} (hW : zMC h C l ((N + 1 : Nat) : Int) R DI ac nx KP IK SW ST sn sd) (hN : N ≤ 7) (hv : 1 ≤ v ∧ v ≤ 3) (ha : 0 ≤ ac ∧ ac ≤ 14) (hx : 0 ≤ nx ∧ nx < 14)
    (hQ : ∀ (h' : zH) (DI' : Int → Int), (∀ k : Int, 0 ≤ k → k < 33 → DI' (33 * nx + k) = R k) → (∀ q : Int, (q < 33 * nx ∨ 33 * nx + 33 ≤ q) → DI' q = DI q) → zMC h' C l ((N + 1 : Nat) : Int) (zst R 0 v) DI' (if ac < 14 then ac + 1 else 14) ((nx + 1) % 14) KP IK SW ST sn sd → zMod 112 127 h h' → Q (some (vI (R 0))) h') : zC (d + 4) mX10_set 0 0 [vR 112, vI 0, vI 2, vI v] h Q := by
  have hW0 := hW
  obtain ⟨TR, TI, WH, BG, OD, WO, MA, RD, rp, rs, rm, rw', hW⟩ := hW
  have w112 := hW.c112
  dsimp only [zMO, zMS.C, zMS.l, zMS.n, zMS.R, zMS.TR, zMS.DI, zMS.ac, zMS.nx, zMS.KP, zMS.IK, zMS.SW, zMS.ST, zMS.sn, zMS.sd, zMS.TI, zMS.WH, zMS.BG, zMS.OD, zMS.WO, zMS.MA, zMS.rp, zMS.RD, zMS.rs, zMS.rm, zMS.rw, zMS.uC, zMS.ul, zMS.un, zMS.uR, zMS.uTR, zMS.uDI, zMS.uac, zMS.unx, zMS.uKP, zMS.uIK, zMS.uSW, zMS.uST, zMS.usn, zMS.usd, zMS.uTI, zMS.uWH, zMS.uBG, zMS.uOD, zMS.uWO, zMS.uMA, zMS.urp, zMS.uRD, zMS.urs, zMS.urm, zMS.urw] at w112
  refine zC.of zpl_X10 (Nat.le_of_ble_eq_true rfl) ?_
  refine z_aload_n 1 dX10_set_0 rfl rfl ?_
  refine z_iload_n 2 dX10_set_1 rfl rfl ?_
  refine z_cV1 5 dX10_set_2 rfl kX10_isPerson zw_939 (Nat.le_of_ble_eq_true rfl) ⟨Nat.le_refl _, Nat.le_refl _⟩ (by first | with_reducible assumption | with_reducible exact zup_same _ _ _) ?_
  refine c_X10_isPerson hW.c112 (by show 1 ≤ ((N + 1 : Nat) : Int) ∧ ((N + 1 : Nat) : Int) ≤ 8; omega) (by omega) ?_
  rw [zb_t (by show 0 ≤ (0 : Int) ∧ 0 < ((N + 1 : Nat) : Int); omega)]
  refine z_if_ne 10 8 dX10_set_5 (by decide) rfl (by first | omega | exact zr_b _ | exact zr_and _ _ | exact zr_or _ _ | exact zr_shl _ _) (fun c5 => ?_) (fun c5 => ?_)
  · try replace c5 := zb_1 c5
    refine z_iload_n 11 dX10_set_10 rfl rfl ?_
    refine z_if_ne 19 14 dX10_set_11 (by decide) rfl (by first | omega | exact zr_b _ | exact zr_and _ _ | exact zr_or _ _ | exact zr_shl _ _) (fun c11 => ?_) (fun c11 => ?_)
    · try replace c11 := zb_1 c11
      refine z_iload_n 20 dX10_set_19 rfl rfl ?_
      refine z_iconst 21 dX10_set_20 rfl ?_
      refine z_icmp_ne 28 24 dX10_set_21 (by decide) rfl (by first | omega | exact zr_b _ | exact zr_and _ _ | exact zr_or _ _ | exact zr_shl _ _) (by first | omega | exact zr_b _ | exact zr_and _ _ | exact zr_or _ _ | exact zr_shl _ _) (fun c21 => ?_) (fun c21 => ?_)
      · refine z_iconst 29 dX10_set_28 rfl ?_
        refine z_istore 31 dX10_set_29 rfl (by decide) ?_
        refine z_iload_n 32 dX10_set_31 rfl rfl ?_
        refine z_i2l 33 dX10_set_32 rfl (by first | omega | exact zr_b _ | exact zr_and _ _ | exact zr_or _ _ | exact zr_shl _ _) ?_
        refine z_lconst 34 dX10_set_33 rfl ?_
        refine z_ldc2 (x := 2) 37 dX10_set_34 rfl zw_1013 ?_
        refine z_cS3 40 dX10_set_37 rfl kX10_in zw_846 (Nat.le_of_ble_eq_true rfl) ⟨Nat.le_refl _, Nat.le_refl _⟩ ?_
        refine c_X10_in (a := 0) (by omega) (by omega) (by omega) ?_
        rw [zb_t (by omega)]
        refine z_if_eq 64 43 dX10_set_40 (by decide) rfl (by first | omega | exact zr_b _ | exact zr_and _ _ | exact zr_or _ _ | exact zr_shl _ _) (fun c40 => ?_) (fun c40 => ?_)
        · exact absurd c40 (by decide)
        · try replace c40 := zb_1 c40
          refine z_iload_n 44 dX10_set_43 rfl rfl ?_
          refine z_iconst 45 dX10_set_44 rfl ?_
          refine z_icmp_ne 52 48 dX10_set_45 (by decide) rfl (by first | omega | exact zr_b _ | exact zr_and _ _ | exact zr_or _ _ | exact zr_shl _ _) (by first | omega | exact zr_b _ | exact zr_and _ _ | exact zr_or _ _ | exact zr_shl _ _) (fun c45 => ?_) (fun c45 => ?_)
          · exact absurd rfl c45
          · refine z_iload_n 49 dX10_set_48 rfl rfl ?_
            refine z_if_ne 64 52 dX10_set_49 (by decide) rfl (by first | omega | exact zr_b _ | exact zr_and _ _ | exact zr_or _ _ | exact zr_shl _ _) (fun c49 => ?_) (fun c49 => ?_)
            · exact absurd rfl c49
            · try replace c49 := zb_0 c49
              refine z_iload_n 53 dX10_set_52 rfl rfl ?_
              refine z_i2l 54 dX10_set_53 rfl (by first | omega | exact zr_b _ | exact zr_and _ _ | exact zr_or _ _ | exact zr_shl _ _) ?_
              refine z_lconst 55 dX10_set_54 rfl ?_
              refine z_iload 57 dX10_set_55 rfl rfl ?_
              refine z_i2l 58 dX10_set_57 rfl (by first | omega | exact zr_b _ | exact zr_and _ _ | exact zr_or _ _ | exact zr_shl _ _) ?_
              refine z_cS3 61 dX10_set_58 rfl kX10_in zw_846 (Nat.le_of_ble_eq_true rfl) ⟨Nat.le_refl _, Nat.le_refl _⟩ ?_
              refine c_X10_in (a := 1) (by omega) (by omega) (by omega) ?_
              rw [zb_t (by omega)]
              refine z_if_ne 67 64 dX10_set_61 (by decide) rfl (by first | omega | exact zr_b _ | exact zr_and _ _ | exact zr_or _ _ | exact zr_shl _ _) (fun c61 => ?_) (fun c61 => ?_)
              · try replace c61 := zb_1 c61
                refine z_aload_n 68 dX10_set_67 rfl rfl ?_
                refine z_cV0 71 dX10_set_68 rfl kX10_note zw_983 (Nat.le_of_ble_eq_true rfl) ⟨Nat.le_refl _, Nat.le_refl _⟩ (by first | with_reducible assumption | with_reducible exact zup_same _ _ _) ?_
                refine c_X10_note hW0 ha hx (fun h1 DI' k1 k2 hW1 hF1 => ?_)
                obtain ⟨TR, TI, WH, BG, OD, WO, MA, RD, rp, rs, rm, rw', hW1⟩ := hW1
                have w112 := hW1.c112
                dsimp only [zMO, zMS.C, zMS.l, zMS.n, zMS.R, zMS.TR, zMS.DI, zMS.ac, zMS.nx, zMS.KP, zMS.IK, zMS.SW, zMS.ST, zMS.sn, zMS.sd, zMS.TI, zMS.WH, zMS.BG, zMS.OD, zMS.WO, zMS.MA, zMS.rp, zMS.RD, zMS.rs, zMS.rm, zMS.rw, zMS.uC, zMS.ul, zMS.un, zMS.uR, zMS.uTR, zMS.uDI, zMS.uac, zMS.unx, zMS.uKP, zMS.uIK, zMS.uSW, zMS.uST, zMS.usn, zMS.usd, zMS.uTI, zMS.uWH, zMS.uBG, zMS.uOD, zMS.uWO, zMS.uMA, zMS.urp, zMS.uRD, zMS.urs, zMS.urm, zMS.urw] at w112
                have w114 := hW1.c114
                dsimp only [zMO, zMS.C, zMS.l, zMS.n, zMS.R, zMS.TR, zMS.DI, zMS.ac, zMS.nx, zMS.KP, zMS.IK, zMS.SW, zMS.ST, zMS.sn, zMS.sd, zMS.TI, zMS.WH, zMS.BG, zMS.OD, zMS.WO, zMS.MA, zMS.rp, zMS.RD, zMS.rs, zMS.rm, zMS.rw, zMS.uC, zMS.ul, zMS.un, zMS.uR, zMS.uTR, zMS.uDI, zMS.uac, zMS.unx, zMS.uKP, zMS.uIK, zMS.uSW, zMS.uST, zMS.usn, zMS.usd, zMS.uTI, zMS.uWH, zMS.uBG, zMS.uOD, zMS.uWO, zMS.uMA, zMS.urp, zMS.uRD, zMS.urs, zMS.urm, zMS.urw] at w114
                refine z_iload_n 72 dX10_set_71 rfl rfl ?_
                refine z_if_ne 81 75 dX10_set_72 (by decide) rfl (by first | omega | exact zr_b _ | exact zr_and _ _ | exact zr_or _ _ | exact zr_shl _ _) (fun c72 => ?_) (fun c72 => ?_)
                · try replace c72 := zb_1 c72
                  refine z_iload_n 82 dX10_set_81 rfl rfl ?_
                  refine z_iconst 83 dX10_set_82 rfl ?_
                  refine z_icmp_ne 93 86 dX10_set_83 (by decide) rfl (by first | omega | exact zr_b _ | exact zr_and _ _ | exact zr_or _ _ | exact zr_shl _ _) (by first | omega | exact zr_b _ | exact zr_and _ _ | exact zr_or _ _ | exact zr_shl _ _) (fun c83 => ?_) (fun c83 => ?_)
                  · refine z_iconst 94 dX10_set_93 rfl ?_
                    refine z_istore 96 dX10_set_94 rfl (by decide) ?_
                    refine z_aload_n 97 dX10_set_96 rfl rfl ?_
                    refine z_getf (ci := 10) 100 dX10_set_97 rfl rfl zin_10 3 (by decide) zw_767 (by first | with_reducible assumption | with_reducible exact zup_same _ _ _) rfl ?_
                    refine z_iload 102 dX10_set_100 rfl rfl ?_
                    refine z_iald 103 dX10_set_102 rfl (by first | with_reducible assumption | with_reducible exact zup_same _ _ _) (by omega) (by first | omega | exact zr_b _ | exact zr_and _ _ | exact zr_or _ _ | exact zr_shl _ _) ?_
                    refine z_istore 105 dX10_set_103 rfl (by decide) ?_
                    refine z_aload_n 106 dX10_set_105 rfl rfl ?_
                    refine z_getf (ci := 10) 109 dX10_set_106 rfl rfl zin_10 3 (by decide) zw_767 (by first | with_reducible assumption | with_reducible exact zup_same _ _ _) rfl ?_
                    refine z_iload 111 dX10_set_109 rfl rfl ?_
                    refine z_iload_n 112 dX10_set_111 rfl rfl ?_
                    refine z_iast 113 dX10_set_112 rfl (by omega) (by first | with_reducible assumption | with_reducible exact zup_same _ _ _) (by omega) (by first | omega | exact zr_b _ | exact zr_and _ _ | exact zr_or _ _ | exact zr_shl _ _) ?_
                    refine z_iload 115 dX10_set_113 rfl rfl ?_
                    refine z_ret dX10_set_115 (by first | exact True.intro | exact Or.inl rfl | exact Or.inr rfl | exact zb_01 _ | assumption | (show _ ∨ _; omega)) ⟨Nat.le_refl _, Nat.le_refl _⟩ ?_
                    exact hQ _ DI' k1 k2 (hW1.s114 _).mc (hF1.up _ (by omega))
                  · exact absurd c83 (by decide)
                · exact absurd c72 (by decide)
              · exact absurd c61 (by decide)
      · exact absurd c21 (by decide)
    · exact absurd c11 (by decide)
  · exact absurd c5 (by decide)
end MSET
