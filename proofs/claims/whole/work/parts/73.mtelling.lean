/-! THE MODEL: telling -/
theorem zte2_at {C E P : Int → Int} {st : Int} : ∀ {k : Nat} (j : Nat), j < k → (zte C st E P k).2 j = C (st + 3 * j + 1) - 48
  | k + 1, j, hj => by
    unfold zte
    dsimp only
    by_cases e : j = k
    · subst e; exact zst_same _ _ _
    · rw [zst_ne _ _ (by omega)]; exact zte2_at j (by omega)
theorem zte1_cg {C E P E' P' : Int → Int} {st x : Int} : ∀ {k : Nat}, (∃ j : Nat, j < k ∧ C (st + 3 * j + 1) - 48 = x) → (zte C st E P k).1 x = (zte C st E' P' k).1 x
  | 0, ⟨j, hj, _⟩ => absurd hj (by omega)
  | k + 1, ⟨j, hj, hx⟩ => by
    unfold zte
    dsimp only
    by_cases e : x = C (st + 3 * k + 1) - 48
    · rw [← e, zst_same, zst_same]
    · rw [zst_ne _ _ e, zst_ne _ _ e]
      have : j ≠ k := fun q => e (by rw [← hx, q])
      exact zte1_cg ⟨j, by omega, hx⟩
theorem zRS.ro {C : Int → Int} {l N : Nat} {rp : Int} {RD : Int → Int} {rs rm rw : Int} {D0 G0 E0 P0 : Int → Int} (h : zRS C (N + 1) l rp RD rs rm rw) (hN : N ≤ 7) (hq : C 2 - 48 = ((N + 1 : Nat) : Int)) (hl : (l : Int) = 3 + 2 * ((N + 1 : Nat) : Int) + 3 * N) (hf : ∀ j : Nat, j < l → zfits C j = true) (hm : 0 ≤ C 1 - 48) : zRo N (C 1 - 48).toNat (ztd C D0 (N + 1)) (ztg C G0 (N + 1)) (zte C (3 + 2 * ((N + 1 : Nat) : Int)) E0 P0 N).1 (zte C (3 + 2 * ((N + 1 : Nat) : Int)) E0 P0 N).2 RD := by
  obtain ⟨a, b, c, e, f, g, h1, h2, h3, h4⟩ := h
  have hj : (l - (3 + 2 * (N + 1))) / 3 = N := by omega
  rw [hj] at h1 h2
  have hok := zparse_ok (C := C) (D := D0) (G := G0) (E := E0) (P := P0) hN hq (fun j hj => hf j (by omega))
  refine ⟨by rw [b]; omega, fun p p0 p1 => ?_, fun p p0 p1 => ?_, fun k hk => ?_⟩
  · obtain ⟨p, rfl⟩ : ∃ q : Nat, p = (q : Int) := ⟨p.toNat, by omega⟩
    rw [ztd_at p (by omega), ztg_at p (by omega)]
    exact ⟨c p (by omega) (by omega), e p (by omega) (by omega)⟩
  · obtain ⟨i, hi, ei⟩ := hok.surj p p0 p1
    rw [zte2_at i hi] at ei
    have := h1 p p0 (by omega)
    rw [this]
    exact zte1_cg ⟨i, hi, ei⟩
  · have := h2 k (by omega) (by omega)
    rw [this, zte2_at k hk]
    exact (zte2_at k hk).symm
section MTELL
variable {d : Nat} {h : zH} {Q : Option zV → zH → Prop} {C : Int → Int} {l N : Nat} {n : Int} {R DI : Int → Int} {ac nx : Int} {KP IK SW ST : Int → Int} {sn sd : Int} {D0 G0 E0 P0 : Int → Int}
theorem m_telling (hW : zMC h C l n R DI ac nx KP IK SW ST sn sd) (hl : l ≤ 60) (hC : ∀ i : Int, 0 ≤ i → i < 60 → 0 ≤ C i ∧ C i ≤ 255) (h1 : ∀ j : Nat, j < l → zfits C j = true) (h2 : 2 < l ∧ (l : Int) = 3 + 2 * (C 2 - 48) + 3 * (C 2 - 48 - 1)) (hq : C 2 - 48 = ((N + 1 : Nat) : Int)) (T : zTD)
    (hQ : ∀ (h' : zH) (R' IK' : Int → Int), IK' 0 = 0 → IK' 1 = 0 → zRo N (C 1 - 48).toNat (zptd C T N).2.2.1 (zptd C T N).2.2.2.1 (zptd C T N).2.2.2.2.1 (zptd C T N).2.2.2.2.2 R' → zMC h' C l ((N + 1 : Nat) : Int) R' DI 0 nx KP IK' SW ST sn sd → zMod 112 127 h h' → Q (some (vI (zLAST (zptd C T N).2.2.1 (zptd C T N).2.2.2.1 (zptd C T N).2.2.2.2.1 (zptd C T N).2.2.2.2.2 N (C 1 - 48).toNat))) h') : zC (d + 6) mX10_telling 0 0 [vR 112] h Q := by
  obtain ⟨TR, TI, WH, BG, OD, WO, MA, RD, rp, rs, rm, rw', hW⟩ := hW
  have hq8 := zfits_q (h1 2 (by omega))
  have hm3 : 1 ≤ C 1 - 48 ∧ C 1 - 48 ≤ 3 := of_decide_eq_true ((zfit1 C).symm.trans (h1 1 (by omega)))
  have hN : N ≤ 7 := by omega
  have hok := zparse_ok (C := C) (D := T.2.2.1) (G := T.2.2.2.1) (E := T.2.2.2.2.1) (P := T.2.2.2.2.2) hN hq (fun j hj => h1 j (by omega))
  have w112 := hW.c112
  dsimp only [zMO, zMS.C, zMS.l, zMS.n, zMS.R, zMS.TR, zMS.DI, zMS.ac, zMS.nx, zMS.KP, zMS.IK, zMS.SW, zMS.ST, zMS.sn, zMS.sd, zMS.TI, zMS.WH, zMS.BG, zMS.OD, zMS.WO, zMS.MA, zMS.rp, zMS.RD, zMS.rs, zMS.rm, zMS.rw, zMS.uC, zMS.ul, zMS.un, zMS.uR, zMS.uTR, zMS.uDI, zMS.uac, zMS.unx, zMS.uKP, zMS.uIK, zMS.uSW, zMS.uST, zMS.usn, zMS.usd, zMS.uTI, zMS.uWH, zMS.uBG, zMS.uOD, zMS.uWO, zMS.uMA, zMS.urp, zMS.uRD, zMS.urs, zMS.urm, zMS.urw] at w112
  refine zC.of zpl_X10 (Nat.le_of_ble_eq_true rfl) ?_
  refine z_aload_n 1 dX10_telling_0 rfl rfl ?_
  refine z_cV0 4 dX10_telling_1 rfl kX10_readText zw_857 (Nat.le_of_ble_eq_true rfl) ⟨Nat.le_refl _, Nat.le_refl _⟩ (by first | with_reducible assumption | with_reducible exact zup_same _ _ _) ?_
  refine c_X10_readText hW hl hC (Nat.le_refl _) h1 (fun q => absurd q (by omega)) (fun h1' rp RD rs rm rw hW1 hS hF1 => ?_)
  rw [show zfl C l l = -9 from by unfold zfl; rw [if_neg (by omega), if_pos h2]]
  obtain ⟨q, hq', q1, q8, hS⟩ := hS rfl (by omega)
  have hqN : q = N + 1 := by omega
  subst hqN
  have hrp := hS.1
  subst hrp
  have hRo := hS.ro (D0 := T.2.2.1) (G0 := T.2.2.2.1) (E0 := T.2.2.2.2.1) (P0 := T.2.2.2.2.2) hN hq (by omega) h1 (by omega)
  have w112 := hW1.c112
  dsimp only [zMO, zMS.C, zMS.l, zMS.n, zMS.R, zMS.TR, zMS.DI, zMS.ac, zMS.nx, zMS.KP, zMS.IK, zMS.SW, zMS.ST, zMS.sn, zMS.sd, zMS.TI, zMS.WH, zMS.BG, zMS.OD, zMS.WO, zMS.MA, zMS.rp, zMS.RD, zMS.rs, zMS.rm, zMS.rw, zMS.uC, zMS.ul, zMS.un, zMS.uR, zMS.uTR, zMS.uDI, zMS.uac, zMS.unx, zMS.uKP, zMS.uIK, zMS.uSW, zMS.uST, zMS.usn, zMS.usd, zMS.uTI, zMS.uWH, zMS.uBG, zMS.uOD, zMS.uWO, zMS.uMA, zMS.urp, zMS.uRD, zMS.urs, zMS.urm, zMS.urw] at w112
  have hW2 := hW1.f_n ((N + 1 : Nat) : Int)
  have w112 := hW2.c112
  dsimp only [zMO, zMS.C, zMS.l, zMS.n, zMS.R, zMS.TR, zMS.DI, zMS.ac, zMS.nx, zMS.KP, zMS.IK, zMS.SW, zMS.ST, zMS.sn, zMS.sd, zMS.TI, zMS.WH, zMS.BG, zMS.OD, zMS.WO, zMS.MA, zMS.rp, zMS.RD, zMS.rs, zMS.rm, zMS.rw, zMS.uC, zMS.ul, zMS.un, zMS.uR, zMS.uTR, zMS.uDI, zMS.uac, zMS.unx, zMS.uKP, zMS.uIK, zMS.uSW, zMS.uST, zMS.usn, zMS.usd, zMS.uTI, zMS.uWH, zMS.uBG, zMS.uOD, zMS.uWO, zMS.uMA, zMS.urp, zMS.uRD, zMS.urs, zMS.urm, zMS.urw] at w112
  have w127 := hW2.c127
  dsimp only [zMO, zMS.C, zMS.l, zMS.n, zMS.R, zMS.TR, zMS.DI, zMS.ac, zMS.nx, zMS.KP, zMS.IK, zMS.SW, zMS.ST, zMS.sn, zMS.sd, zMS.TI, zMS.WH, zMS.BG, zMS.OD, zMS.WO, zMS.MA, zMS.rp, zMS.RD, zMS.rs, zMS.rm, zMS.rw, zMS.uC, zMS.ul, zMS.un, zMS.uR, zMS.uTR, zMS.uDI, zMS.uac, zMS.unx, zMS.uKP, zMS.uIK, zMS.uSW, zMS.uST, zMS.usn, zMS.usd, zMS.uTI, zMS.uWH, zMS.uBG, zMS.uOD, zMS.uWO, zMS.uMA, zMS.urp, zMS.uRD, zMS.urs, zMS.urm, zMS.urw] at w127
  have w114 := hW2.c114
  dsimp only [zMO, zMS.C, zMS.l, zMS.n, zMS.R, zMS.TR, zMS.DI, zMS.ac, zMS.nx, zMS.KP, zMS.IK, zMS.SW, zMS.ST, zMS.sn, zMS.sd, zMS.TI, zMS.WH, zMS.BG, zMS.OD, zMS.WO, zMS.MA, zMS.rp, zMS.RD, zMS.rs, zMS.rm, zMS.rw, zMS.uC, zMS.ul, zMS.un, zMS.uR, zMS.uTR, zMS.uDI, zMS.uac, zMS.unx, zMS.uKP, zMS.uIK, zMS.uSW, zMS.uST, zMS.usn, zMS.usd, zMS.uTI, zMS.uWH, zMS.uBG, zMS.uOD, zMS.uWO, zMS.uMA, zMS.urp, zMS.uRD, zMS.urs, zMS.urm, zMS.urw] at w114
  refine z_bipush 6 dX10_telling_4 rfl (by decide) ?_
  refine z_icmp_eq 12 9 dX10_telling_6 (by decide) rfl (by first | omega | exact zr_b _ | exact zr_and _ _ | exact zr_or _ _ | exact zr_shl _ _) (by first | omega | exact zr_b _ | exact zr_and _ _ | exact zr_or _ _ | exact zr_shl _ _) (fun c6 => ?_) (fun c6 => ?_)
  · refine z_aload_n 13 dX10_telling_12 rfl rfl ?_
    refine z_aload_n 14 dX10_telling_13 rfl rfl ?_
    refine z_getf (ci := 10) 17 dX10_telling_14 rfl rfl zin_10 20 (by decide) zw_784 (by first | with_reducible assumption | with_reducible exact zup_same _ _ _) rfl ?_
    refine z_putf (ci := 10) 20 dX10_telling_17 rfl rfl zin_10 tyX10_ok nmX10 2 (by decide) zw_766 rfl (fun _ => ⟨rfl, rfl⟩) (by omega) (by first | with_reducible assumption | with_reducible exact zup_same _ _ _) (Nat.le_of_ble_eq_true rfl) ?_
    change Z _ _ _ _ _ _ (zup h1' 112 (zMO (zMS.un (C, (l : Int), n, R, TR, DI, ac, nx, KP, IK, SW, ST, sn, sd, TI, WH, BG, OD, WO, MA, ((N + 1 : Nat) : Int), RD, rs, rm, rw) ((N + 1 : Nat) : Int)))) _
    refine z_aload_n 21 dX10_telling_20 rfl rfl ?_
    refine z_getf (ci := 10) 24 dX10_telling_21 rfl rfl zin_10 21 (by decide) zw_785 (by first | with_reducible assumption | with_reducible exact zup_same _ _ _) rfl ?_
    refine z_aload_n 25 dX10_telling_24 rfl rfl ?_
    refine z_getf (ci := 10) 28 dX10_telling_25 rfl rfl zin_10 3 (by decide) zw_767 (by first | with_reducible assumption | with_reducible exact zup_same _ _ _) rfl ?_
    refine z_cS2 31 dX10_telling_28 rfl kX10_copy zw_880 (Nat.le_of_ble_eq_true rfl) ⟨Nat.le_refl _, Nat.le_refl _⟩ ?_
    refine c_X10_copy (by decide) w127 w114 (fun F' hF' => ?_)
    have hW3 := hW2.s114 F'
    have w112 := hW3.c112
    dsimp only [zMO, zMS.C, zMS.l, zMS.n, zMS.R, zMS.TR, zMS.DI, zMS.ac, zMS.nx, zMS.KP, zMS.IK, zMS.SW, zMS.ST, zMS.sn, zMS.sd, zMS.TI, zMS.WH, zMS.BG, zMS.OD, zMS.WO, zMS.MA, zMS.rp, zMS.RD, zMS.rs, zMS.rm, zMS.rw, zMS.uC, zMS.ul, zMS.un, zMS.uR, zMS.uTR, zMS.uDI, zMS.uac, zMS.unx, zMS.uKP, zMS.uIK, zMS.uSW, zMS.uST, zMS.usn, zMS.usd, zMS.uTI, zMS.uWH, zMS.uBG, zMS.uOD, zMS.uWO, zMS.uMA, zMS.urp, zMS.uRD, zMS.urs, zMS.urm, zMS.urw] at w112
    have w114 := hW3.c114
    dsimp only [zMO, zMS.C, zMS.l, zMS.n, zMS.R, zMS.TR, zMS.DI, zMS.ac, zMS.nx, zMS.KP, zMS.IK, zMS.SW, zMS.ST, zMS.sn, zMS.sd, zMS.TI, zMS.WH, zMS.BG, zMS.OD, zMS.WO, zMS.MA, zMS.rp, zMS.RD, zMS.rs, zMS.rm, zMS.rw, zMS.uC, zMS.ul, zMS.un, zMS.uR, zMS.uTR, zMS.uDI, zMS.uac, zMS.unx, zMS.uKP, zMS.uIK, zMS.uSW, zMS.uST, zMS.usn, zMS.usd, zMS.uTI, zMS.uWH, zMS.uBG, zMS.uOD, zMS.uWO, zMS.uMA, zMS.urp, zMS.uRD, zMS.urs, zMS.urm, zMS.urw] at w114
    refine z_aload_n 32 dX10_telling_31 rfl rfl ?_
    refine z_iconst 33 dX10_telling_32 rfl ?_
    refine z_putf (ci := 10) 36 dX10_telling_33 rfl rfl zin_10 tyX10_ok nmX10 6 (by decide) zw_770 rfl (fun _ => ⟨rfl, rfl⟩) (by omega) (by first | with_reducible assumption | with_reducible exact zup_same _ _ _) (Nat.le_of_ble_eq_true rfl) ?_
    have hW4 := hW3.f_ac 0
    have hW5 := hW4.s118 (zst IK 0 0)
    have hW6 := hW4.s118 (zst (zst IK 0 0) 1 0)
    change Z _ _ _ _ _ _ (zup (zup (zup h1' 112 (zMO (zMS.un (C, (l : Int), n, R, TR, DI, ac, nx, KP, IK, SW, ST, sn, sd, TI, WH, BG, OD, WO, MA, ((N + 1 : Nat) : Int), RD, rs, rm, rw) ((N + 1 : Nat) : Int)))) 114 (zI 33 F')) 112 (zMO (zMS.uac (zMS.uR (zMS.un (C, (l : Int), n, R, TR, DI, ac, nx, KP, IK, SW, ST, sn, sd, TI, WH, BG, OD, WO, MA, ((N + 1 : Nat) : Int), RD, rs, rm, rw) ((N + 1 : Nat) : Int)) F') 0))) _
    have w112 := hW4.c112
    dsimp only [zMO, zMS.C, zMS.l, zMS.n, zMS.R, zMS.TR, zMS.DI, zMS.ac, zMS.nx, zMS.KP, zMS.IK, zMS.SW, zMS.ST, zMS.sn, zMS.sd, zMS.TI, zMS.WH, zMS.BG, zMS.OD, zMS.WO, zMS.MA, zMS.rp, zMS.RD, zMS.rs, zMS.rm, zMS.rw, zMS.uC, zMS.ul, zMS.un, zMS.uR, zMS.uTR, zMS.uDI, zMS.uac, zMS.unx, zMS.uKP, zMS.uIK, zMS.uSW, zMS.uST, zMS.usn, zMS.usd, zMS.uTI, zMS.uWH, zMS.uBG, zMS.uOD, zMS.uWO, zMS.uMA, zMS.urp, zMS.uRD, zMS.urs, zMS.urm, zMS.urw] at w112
    have w118 := hW4.c118
    dsimp only [zMO, zMS.C, zMS.l, zMS.n, zMS.R, zMS.TR, zMS.DI, zMS.ac, zMS.nx, zMS.KP, zMS.IK, zMS.SW, zMS.ST, zMS.sn, zMS.sd, zMS.TI, zMS.WH, zMS.BG, zMS.OD, zMS.WO, zMS.MA, zMS.rp, zMS.RD, zMS.rs, zMS.rm, zMS.rw, zMS.uC, zMS.ul, zMS.un, zMS.uR, zMS.uTR, zMS.uDI, zMS.uac, zMS.unx, zMS.uKP, zMS.uIK, zMS.uSW, zMS.uST, zMS.usn, zMS.usd, zMS.uTI, zMS.uWH, zMS.uBG, zMS.uOD, zMS.uWO, zMS.uMA, zMS.urp, zMS.uRD, zMS.urs, zMS.urm, zMS.urw] at w118
    have w112 := hW5.c112
    dsimp only [zMO, zMS.C, zMS.l, zMS.n, zMS.R, zMS.TR, zMS.DI, zMS.ac, zMS.nx, zMS.KP, zMS.IK, zMS.SW, zMS.ST, zMS.sn, zMS.sd, zMS.TI, zMS.WH, zMS.BG, zMS.OD, zMS.WO, zMS.MA, zMS.rp, zMS.RD, zMS.rs, zMS.rm, zMS.rw, zMS.uC, zMS.ul, zMS.un, zMS.uR, zMS.uTR, zMS.uDI, zMS.uac, zMS.unx, zMS.uKP, zMS.uIK, zMS.uSW, zMS.uST, zMS.usn, zMS.usd, zMS.uTI, zMS.uWH, zMS.uBG, zMS.uOD, zMS.uWO, zMS.uMA, zMS.urp, zMS.uRD, zMS.urs, zMS.urm, zMS.urw] at w112
    have w118 := hW5.c118
    dsimp only [zMO, zMS.C, zMS.l, zMS.n, zMS.R, zMS.TR, zMS.DI, zMS.ac, zMS.nx, zMS.KP, zMS.IK, zMS.SW, zMS.ST, zMS.sn, zMS.sd, zMS.TI, zMS.WH, zMS.BG, zMS.OD, zMS.WO, zMS.MA, zMS.rp, zMS.RD, zMS.rs, zMS.rm, zMS.rw, zMS.uC, zMS.ul, zMS.un, zMS.uR, zMS.uTR, zMS.uDI, zMS.uac, zMS.unx, zMS.uKP, zMS.uIK, zMS.uSW, zMS.uST, zMS.usn, zMS.usd, zMS.uTI, zMS.uWH, zMS.uBG, zMS.uOD, zMS.uWO, zMS.uMA, zMS.urp, zMS.uRD, zMS.urs, zMS.urm, zMS.urw] at w118
    refine z_aload_n 37 dX10_telling_36 rfl rfl ?_
    refine z_getf (ci := 10) 40 dX10_telling_37 rfl rfl zin_10 9 (by decide) zw_773 (by first | with_reducible assumption | with_reducible exact zup_same _ _ _) rfl ?_
    refine z_iconst 41 dX10_telling_40 rfl ?_
    refine z_iconst 42 dX10_telling_41 rfl ?_
    refine z_bast 43 dX10_telling_42 rfl (by omega) (by first | with_reducible assumption | with_reducible exact zup_same _ _ _) (by omega) (by first | omega | exact zr_b _ | exact zr_and _ _ | exact zr_or _ _ | exact zr_shl _ _) (by first | exact Or.inl rfl | exact Or.inr rfl) ?_
    refine z_aload_n 44 dX10_telling_43 rfl rfl ?_
    refine z_getf (ci := 10) 47 dX10_telling_44 rfl rfl zin_10 9 (by decide) zw_773 (by first | with_reducible assumption | with_reducible exact zup_same _ _ _) rfl ?_
    refine z_iconst 48 dX10_telling_47 rfl ?_
    refine z_iconst 49 dX10_telling_48 rfl ?_
    refine z_bast 50 dX10_telling_49 rfl (by omega) (by first | with_reducible assumption | with_reducible exact zup_same _ _ _) (by omega) (by first | omega | exact zr_b _ | exact zr_and _ _ | exact zr_or _ _ | exact zr_shl _ _) (by first | exact Or.inl rfl | exact Or.inr rfl) ?_
    rw [zup_zup]
    have w112 := hW6.c112
    dsimp only [zMO, zMS.C, zMS.l, zMS.n, zMS.R, zMS.TR, zMS.DI, zMS.ac, zMS.nx, zMS.KP, zMS.IK, zMS.SW, zMS.ST, zMS.sn, zMS.sd, zMS.TI, zMS.WH, zMS.BG, zMS.OD, zMS.WO, zMS.MA, zMS.rp, zMS.RD, zMS.rs, zMS.rm, zMS.rw, zMS.uC, zMS.ul, zMS.un, zMS.uR, zMS.uTR, zMS.uDI, zMS.uac, zMS.unx, zMS.uKP, zMS.uIK, zMS.uSW, zMS.uST, zMS.usn, zMS.usd, zMS.uTI, zMS.uWH, zMS.uBG, zMS.uOD, zMS.uWO, zMS.uMA, zMS.urp, zMS.uRD, zMS.urs, zMS.urm, zMS.urw] at w112
    have w114 := hW6.c114
    dsimp only [zMO, zMS.C, zMS.l, zMS.n, zMS.R, zMS.TR, zMS.DI, zMS.ac, zMS.nx, zMS.KP, zMS.IK, zMS.SW, zMS.ST, zMS.sn, zMS.sd, zMS.TI, zMS.WH, zMS.BG, zMS.OD, zMS.WO, zMS.MA, zMS.rp, zMS.RD, zMS.rs, zMS.rm, zMS.rw, zMS.uC, zMS.ul, zMS.un, zMS.uR, zMS.uTR, zMS.uDI, zMS.uac, zMS.unx, zMS.uKP, zMS.uIK, zMS.uSW, zMS.uST, zMS.usn, zMS.usd, zMS.uTI, zMS.uWH, zMS.uBG, zMS.uOD, zMS.uWO, zMS.uMA, zMS.urp, zMS.uRD, zMS.urs, zMS.urm, zMS.urw] at w114
    refine z_aload_n 51 dX10_telling_50 rfl rfl ?_
    refine z_aload_n 52 dX10_telling_51 rfl rfl ?_
    refine z_getf (ci := 10) 55 dX10_telling_52 rfl rfl zin_10 3 (by decide) zw_767 (by first | with_reducible assumption | with_reducible exact zup_same _ _ _) rfl ?_
    refine z_cV1 58 dX10_telling_55 rfl kX10_lastOf zw_883 (Nat.le_of_ble_eq_true rfl) ⟨Nat.le_refl _, Nat.le_refl _⟩ (by first | with_reducible assumption | with_reducible exact zup_same _ _ _) ?_
    refine c_X10_lastOf hW6.c112 rfl hW6.c114 (by decide) hW6.c121 (hRo.cp hF' hN) hok (by decide) (by omega) (fun T1 => ?_)
    refine z_ret dX10_telling_58 (by first | exact True.intro | exact Or.inl rfl | exact Or.inr rfl | exact zb_01 _ | assumption | (show _ ∨ _; omega)) ⟨Nat.le_refl _, Nat.le_refl _⟩ ?_
    exact hQ _ F' _ (by rw [zst_ne _ _ (by decide), zst_same]) (zst_same _ _ _) (hRo.cp hF' hN) (hW6.s121 T1).mc (((((hF1.up _ (by omega)).up _ (by omega)).up _ (by omega)).up _ (by omega)).up _ (by omega))
  · exact absurd rfl c6
end MTELL
