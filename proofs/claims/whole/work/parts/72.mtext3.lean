/-! THE MODEL: fault, telling -/
section MTEXT3
variable {d : Nat} {h h1 : zH} {Q : Option zV → zH → Prop} {C : Int → Int} {l : Nat} {n : Int} {R TR DI : Int → Int} {ac nx : Int} {KP IK SW ST : Int → Int} {sn sd : Int} {TI WH BG OD WO MA : Int → Int} {rp : Int} {RD : Int → Int} {rs rm rw : Int}
def zfl (C : Int → Int) (l k : Nat) : Int := if k < l then (k : Int) else if 2 < l ∧ (l : Int) = 3 + 2 * (C 2 - 48) + 3 * (C 2 - 48 - 1) then -9 else l
set_option maxHeartbeats 1000000 in
theorem c_X10_readText {kf : Nat} (hW : zMW h (C, (l : Int), n, R, TR, DI, ac, nx, KP, IK, SW, ST, sn, sd, TI, WH, BG, OD, WO, MA, rp, RD, rs, rm, rw)) (hl : l ≤ 60) (hC : ∀ j : Int, 0 ≤ j → j < 60 → 0 ≤ C j ∧ C j ≤ 255) (hk : kf ≤ l) (hk1 : ∀ j : Nat, j < kf → zfits C j = true) (hk2 : kf < l → zfits C kf = false)
    (hQ : ∀ (h' : zH) (rp : Int) (RD : Int → Int) (rs rm rw : Int), zMW h' (C, (l : Int), n, R, TR, DI, ac, nx, KP, IK, SW, ST, sn, sd, TI, WH, BG, OD, WO, MA, rp, RD, rs, rm, rw) → (kf = l → 3 ≤ l → ∃ q : Nat, C 2 - 48 = q ∧ 1 ≤ q ∧ q ≤ 8 ∧ zRS C q l rp RD rs rm rw) → zMod 112 127 h h' → Q (some (vI (zfl C l kf))) h') : zC (d + 3) mX10_readText 0 0 [vR 112] h Q := by
  have f0 : zfits C 0 = decide (C 0 = 84) := rfl
  have hC0 := hC 0 (by omega) (by omega)
  have loop : ∀ i : Nat, i ≤ kf → 1 ≤ i → ∀ (h2 : zH) (rp : Int) (RD : Int → Int) (rs rm rw : Int) (o2 o3 : Option zV), zMW h2 (C, (l : Int), n, R, TR, DI, ac, nx, KP, IK, SW, ST, sn, sd, TI, WH, BG, OD, WO, MA, rp, RD, rs, rm, rw) → zRI3 C i rp RD rs rm rw → zMod 112 127 h h2 → Z (d + 3) mX10_readText zo 58 [some (vR 112), some (vI i), o2, o3] [] h2 Q := by
    refine z_loop kf ?_ ?_
    · intro h1k h2 rp RD rs rm rw o2 o3 hW2 hI hF2
      by_cases e : kf < l
      · refine z_rt hW2 hF2 ⟨h1k, e⟩ hl hC hk1 hI (fun q => ?_) (fun _ h3 rp RD rs rm rw hW3 hF3 => ?_)
        · rw [hk2 e] at q; exact absurd q (by decide)
        · have := hQ h3 rp RD rs rm rw hW3 (fun q => by omega) hF3
          rw [show zfl C l kf = kf from if_pos e] at this
          exact this
      · have el : kf = l := by omega
        subst el
        have w112 := hW2.c112
        dsimp only [zMO, zMS.C, zMS.l, zMS.n, zMS.R, zMS.TR, zMS.DI, zMS.ac, zMS.nx, zMS.KP, zMS.IK, zMS.SW, zMS.ST, zMS.sn, zMS.sd, zMS.TI, zMS.WH, zMS.BG, zMS.OD, zMS.WO, zMS.MA, zMS.rp, zMS.RD, zMS.rs, zMS.rm, zMS.rw, zMS.uC, zMS.ul, zMS.un, zMS.uR, zMS.uTR, zMS.uDI, zMS.uac, zMS.unx, zMS.uKP, zMS.uIK, zMS.uSW, zMS.uST, zMS.usn, zMS.usd, zMS.uTI, zMS.uWH, zMS.uBG, zMS.uOD, zMS.uWO, zMS.uMA, zMS.urp, zMS.uRD, zMS.urs, zMS.urm, zMS.urw] at w112
        have fin := hQ h2 rp RD rs rm rw hW2 (fun _ h3 => by
          rcases hI with hI | hI | hI
          · omega
          · omega
          · exact hI.2) hF2
        rw [show zfl C kf kf = if 2 < kf ∧ (kf : Int) = 3 + 2 * (C 2 - 48) + 3 * (C 2 - 48 - 1) then -9 else (kf : Int) from if_neg (by omega)] at fin
        by_cases e3 : 3 ≤ kf
        · obtain ⟨q, hq, q1, q8, hS⟩ : ∃ q : Nat, C 2 - 48 = q ∧ 1 ≤ q ∧ q ≤ 8 ∧ zRS C q kf rp RD rs rm rw := by
            rcases hI with hI | hI | hI
            · omega
            · omega
            · exact hI.2
          have hrp := hS.1
          rw [hq] at fin
          refine z_iload_n 59 dX10_readText_58 rfl rfl ?_
          refine z_aload_n 60 dX10_readText_59 rfl rfl ?_
          refine z_getf (ci := 10) 63 dX10_readText_60 rfl rfl zin_10 1 (by decide) zw_765 (by first | with_reducible assumption | with_reducible exact zup_same _ _ _) rfl ?_
          refine z_icmp_ge 141 66 dX10_readText_63 (by decide) rfl (by first | omega | exact zr_b _ | exact zr_and _ _ | exact zr_or _ _ | exact zr_shl _ _) (by first | omega | exact zr_b _ | exact zr_and _ _ | exact zr_or _ _ | exact zr_shl _ _) (fun c63 => ?_) (fun c63 => ?_)
          · refine z_aload_n 142 dX10_readText_141 rfl rfl ?_
            refine z_getf (ci := 10) 145 dX10_readText_142 rfl rfl zin_10 1 (by decide) zw_765 (by first | with_reducible assumption | with_reducible exact zup_same _ _ _) rfl ?_
            refine z_iconst 146 dX10_readText_145 rfl ?_
            refine z_icmp_le 178 149 dX10_readText_146 (by decide) rfl (by first | omega | exact zr_b _ | exact zr_and _ _ | exact zr_or _ _ | exact zr_shl _ _) (by first | omega | exact zr_b _ | exact zr_and _ _ | exact zr_or _ _ | exact zr_shl _ _) (fun c146 => ?_) (fun c146 => ?_)
            · exfalso; omega
            · refine z_aload_n 150 dX10_readText_149 rfl rfl ?_
              refine z_getf (ci := 10) 153 dX10_readText_150 rfl rfl zin_10 1 (by decide) zw_765 (by first | with_reducible assumption | with_reducible exact zup_same _ _ _) rfl ?_
              refine z_iconst 154 dX10_readText_153 rfl ?_
              refine z_iconst 155 dX10_readText_154 rfl ?_
              refine z_aload_n 156 dX10_readText_155 rfl rfl ?_
              refine z_getf (ci := 10) 159 dX10_readText_156 rfl rfl zin_10 20 (by decide) zw_784 (by first | with_reducible assumption | with_reducible exact zup_same _ _ _) rfl ?_
              refine z_imul 160 dX10_readText_159 rfl ?_
              refine z_iadd 161 dX10_readText_160 rfl ?_
              refine z_iconst 162 dX10_readText_161 rfl ?_
              refine z_aload_n 163 dX10_readText_162 rfl rfl ?_
              refine z_getf (ci := 10) 166 dX10_readText_163 rfl rfl zin_10 20 (by decide) zw_784 (by first | with_reducible assumption | with_reducible exact zup_same _ _ _) rfl ?_
              refine z_iconst 167 dX10_readText_166 rfl ?_
              refine z_isub 168 dX10_readText_167 rfl ?_
              refine z_imul 169 dX10_readText_168 rfl ?_
              refine z_iadd 170 dX10_readText_169 rfl ?_
              rw [hrp]
              refine z_icmp_ne 178 173 dX10_readText_170 (by decide) rfl (by first | omega | exact zr_b _ | exact zr_and _ _ | exact zr_or _ _ | exact zr_shl _ _) (by first | omega | exact zr_b _ | exact zr_and _ _ | exact zr_or _ _ | exact zr_shl _ _) (fun c170 => ?_) (fun c170 => ?_)
              · rw [if_neg (by omega)] at fin
                refine z_aload_n 179 dX10_readText_178 rfl rfl ?_
                refine z_getf (ci := 10) 182 dX10_readText_179 rfl rfl zin_10 1 (by decide) zw_765 (by first | with_reducible assumption | with_reducible exact zup_same _ _ _) rfl ?_
                refine z_ret dX10_readText_182 (by first | exact True.intro | exact Or.inl rfl | exact Or.inr rfl | exact zb_01 _ | assumption | (show _ ∨ _; omega)) ⟨Nat.le_refl _, Nat.le_refl _⟩ ?_
                exact fin
              · rw [if_pos (by omega)] at fin
                refine z_bipush 175 dX10_readText_173 rfl (by decide) ?_
                refine z_goto 182 dX10_readText_175 (by decide) ?_
                refine z_ret dX10_readText_182 (by first | exact True.intro | exact Or.inl rfl | exact Or.inr rfl | exact zb_01 _ | assumption | (show _ ∨ _; omega)) ⟨Nat.le_refl _, Nat.le_refl _⟩ ?_
                exact fin
          · exfalso; omega
        · rw [if_neg (by omega)] at fin
          refine z_iload_n 59 dX10_readText_58 rfl rfl ?_
          refine z_aload_n 60 dX10_readText_59 rfl rfl ?_
          refine z_getf (ci := 10) 63 dX10_readText_60 rfl rfl zin_10 1 (by decide) zw_765 (by first | with_reducible assumption | with_reducible exact zup_same _ _ _) rfl ?_
          refine z_icmp_ge 141 66 dX10_readText_63 (by decide) rfl (by first | omega | exact zr_b _ | exact zr_and _ _ | exact zr_or _ _ | exact zr_shl _ _) (by first | omega | exact zr_b _ | exact zr_and _ _ | exact zr_or _ _ | exact zr_shl _ _) (fun c63 => ?_) (fun c63 => ?_)
          · refine z_aload_n 142 dX10_readText_141 rfl rfl ?_
            refine z_getf (ci := 10) 145 dX10_readText_142 rfl rfl zin_10 1 (by decide) zw_765 (by first | with_reducible assumption | with_reducible exact zup_same _ _ _) rfl ?_
            refine z_iconst 146 dX10_readText_145 rfl ?_
            refine z_icmp_le 178 149 dX10_readText_146 (by decide) rfl (by first | omega | exact zr_b _ | exact zr_and _ _ | exact zr_or _ _ | exact zr_shl _ _) (by first | omega | exact zr_b _ | exact zr_and _ _ | exact zr_or _ _ | exact zr_shl _ _) (fun c146 => ?_) (fun c146 => ?_)
            · refine z_aload_n 179 dX10_readText_178 rfl rfl ?_
              refine z_getf (ci := 10) 182 dX10_readText_179 rfl rfl zin_10 1 (by decide) zw_765 (by first | with_reducible assumption | with_reducible exact zup_same _ _ _) rfl ?_
              refine z_ret dX10_readText_182 (by first | exact True.intro | exact Or.inl rfl | exact Or.inr rfl | exact zb_01 _ | assumption | (show _ ∨ _; omega)) ⟨Nat.le_refl _, Nat.le_refl _⟩ ?_
              exact fin
            · exfalso; omega
          · exfalso; omega
    · intro i hi ih h1i h2 rp RD rs rm rw o2 o3 hW2 hI hF2
      refine z_rt hW2 hF2 ⟨h1i, by omega⟩ hl hC (fun j hj => hk1 j (by omega)) hI (fun _ h3 rp RD rs rm rw o2 o3 hW3 hI3 hF3 => ?_) (fun q => ?_)
      · exact ih (by omega) h3 rp RD rs rm rw o2 o3 hW3 hI3 hF3
      · rw [hk1 i hi] at q; exact absurd q (by decide)
  have key : ∀ i : Nat, i ≤ 33 → ∀ RD' : Int → Int, (∀ j : Int, 0 ≤ j → j < i → RD' j = 0) → Z (d + 3) mX10_readText zo 2 [some (vR 112), some (vI i), none, none] [] (zup h 127 (zI 33 RD')) Q := by
    refine z_loop 33 ?_ ?_
    · intro RD' k1
      have hWa := hW.s127 RD'
      have hWb := hWa.f_rp 1
      have hWc := hWb.f_rs 1
      have hWd := hWc.f_rm 0
      have hFd : zMod 112 127 h _ := (((((zMod.rf _ _ h).up (zI 33 RD') (a := 127) (by omega)).up (zMO (zMS.urp (zMS.uRD (C, (l : Int), n, R, TR, DI, ac, nx, KP, IK, SW, ST, sn, sd, TI, WH, BG, OD, WO, MA, rp, RD, rs, rm, rw) RD') 1)) (a := 112) (by omega)).up (zMO (zMS.urs (zMS.urp (zMS.uRD (C, (l : Int), n, R, TR, DI, ac, nx, KP, IK, SW, ST, sn, sd, TI, WH, BG, OD, WO, MA, rp, RD, rs, rm, rw) RD') 1) 1)) (a := 112) (by omega)).up (zMO (zMS.urm (zMS.urs (zMS.urp (zMS.uRD (C, (l : Int), n, R, TR, DI, ac, nx, KP, IK, SW, ST, sn, sd, TI, WH, BG, OD, WO, MA, rp, RD, rs, rm, rw) RD') 1) 1) 0)) (a := 112) (by omega))
      have w112 := hWa.c112
      dsimp only [zMO, zMS.C, zMS.l, zMS.n, zMS.R, zMS.TR, zMS.DI, zMS.ac, zMS.nx, zMS.KP, zMS.IK, zMS.SW, zMS.ST, zMS.sn, zMS.sd, zMS.TI, zMS.WH, zMS.BG, zMS.OD, zMS.WO, zMS.MA, zMS.rp, zMS.RD, zMS.rs, zMS.rm, zMS.rw, zMS.uC, zMS.ul, zMS.un, zMS.uR, zMS.uTR, zMS.uDI, zMS.uac, zMS.unx, zMS.uKP, zMS.uIK, zMS.uSW, zMS.uST, zMS.usn, zMS.usd, zMS.uTI, zMS.uWH, zMS.uBG, zMS.uOD, zMS.uWO, zMS.uMA, zMS.urp, zMS.uRD, zMS.urs, zMS.urm, zMS.urw] at w112
      have w112 := hWb.c112
      dsimp only [zMO, zMS.C, zMS.l, zMS.n, zMS.R, zMS.TR, zMS.DI, zMS.ac, zMS.nx, zMS.KP, zMS.IK, zMS.SW, zMS.ST, zMS.sn, zMS.sd, zMS.TI, zMS.WH, zMS.BG, zMS.OD, zMS.WO, zMS.MA, zMS.rp, zMS.RD, zMS.rs, zMS.rm, zMS.rw, zMS.uC, zMS.ul, zMS.un, zMS.uR, zMS.uTR, zMS.uDI, zMS.uac, zMS.unx, zMS.uKP, zMS.uIK, zMS.uSW, zMS.uST, zMS.usn, zMS.usd, zMS.uTI, zMS.uWH, zMS.uBG, zMS.uOD, zMS.uWO, zMS.uMA, zMS.urp, zMS.uRD, zMS.urs, zMS.urm, zMS.urw] at w112
      have w112 := hWc.c112
      dsimp only [zMO, zMS.C, zMS.l, zMS.n, zMS.R, zMS.TR, zMS.DI, zMS.ac, zMS.nx, zMS.KP, zMS.IK, zMS.SW, zMS.ST, zMS.sn, zMS.sd, zMS.TI, zMS.WH, zMS.BG, zMS.OD, zMS.WO, zMS.MA, zMS.rp, zMS.RD, zMS.rs, zMS.rm, zMS.rw, zMS.uC, zMS.ul, zMS.un, zMS.uR, zMS.uTR, zMS.uDI, zMS.uac, zMS.unx, zMS.uKP, zMS.uIK, zMS.uSW, zMS.uST, zMS.usn, zMS.usd, zMS.uTI, zMS.uWH, zMS.uBG, zMS.uOD, zMS.uWO, zMS.uMA, zMS.urp, zMS.uRD, zMS.urs, zMS.urm, zMS.urw] at w112
      have w112 := hWd.c112
      dsimp only [zMO, zMS.C, zMS.l, zMS.n, zMS.R, zMS.TR, zMS.DI, zMS.ac, zMS.nx, zMS.KP, zMS.IK, zMS.SW, zMS.ST, zMS.sn, zMS.sd, zMS.TI, zMS.WH, zMS.BG, zMS.OD, zMS.WO, zMS.MA, zMS.rp, zMS.RD, zMS.rs, zMS.rm, zMS.rw, zMS.uC, zMS.ul, zMS.un, zMS.uR, zMS.uTR, zMS.uDI, zMS.uac, zMS.unx, zMS.uKP, zMS.uIK, zMS.uSW, zMS.uST, zMS.usn, zMS.usd, zMS.uTI, zMS.uWH, zMS.uBG, zMS.uOD, zMS.uWO, zMS.uMA, zMS.urp, zMS.uRD, zMS.urs, zMS.urm, zMS.urw] at w112
      have w113 := hWd.c113
      dsimp only [zMO, zMS.C, zMS.l, zMS.n, zMS.R, zMS.TR, zMS.DI, zMS.ac, zMS.nx, zMS.KP, zMS.IK, zMS.SW, zMS.ST, zMS.sn, zMS.sd, zMS.TI, zMS.WH, zMS.BG, zMS.OD, zMS.WO, zMS.MA, zMS.rp, zMS.RD, zMS.rs, zMS.rm, zMS.rw, zMS.uC, zMS.ul, zMS.un, zMS.uR, zMS.uTR, zMS.uDI, zMS.uac, zMS.unx, zMS.uKP, zMS.uIK, zMS.uSW, zMS.uST, zMS.usn, zMS.usd, zMS.uTI, zMS.uWH, zMS.uBG, zMS.uOD, zMS.uWO, zMS.uMA, zMS.urp, zMS.uRD, zMS.urs, zMS.urm, zMS.urw] at w113
      by_cases e : kf = 0
      · subst e
        have fin := hQ _ _ _ _ _ _ hWd (fun q => by omega) hFd
        by_cases e0 : l = 0
        · subst e0
          refine z_iload_n 3 dX10_readText_2 rfl rfl ?_
          refine z_bipush 5 dX10_readText_3 rfl (by decide) ?_
          refine z_icmp_ge 21 8 dX10_readText_5 (by decide) rfl (by first | omega | exact zr_b _ | exact zr_and _ _ | exact zr_or _ _ | exact zr_shl _ _) (by first | omega | exact zr_b _ | exact zr_and _ _ | exact zr_or _ _ | exact zr_shl _ _) (fun c5 => ?_) (fun c5 => ?_)
          · refine z_aload_n 22 dX10_readText_21 rfl rfl ?_
            refine z_iconst 23 dX10_readText_22 rfl ?_
            refine z_putf (ci := 10) 26 dX10_readText_23 rfl rfl zin_10 tyX10_ok nmX10 20 (by decide) zw_784 rfl (fun _ => ⟨rfl, rfl⟩) (by omega) (by first | with_reducible assumption | with_reducible exact zup_same _ _ _) (Nat.le_of_ble_eq_true rfl) ?_
            refine z_aload_n 27 dX10_readText_26 rfl rfl ?_
            refine z_iconst 28 dX10_readText_27 rfl ?_
            refine z_putf (ci := 10) 31 dX10_readText_28 rfl rfl zin_10 tyX10_ok nmX10 22 (by decide) zw_786 rfl (fun _ => ⟨rfl, rfl⟩) (by omega) (by first | with_reducible assumption | with_reducible exact zup_same _ _ _) (Nat.le_of_ble_eq_true rfl) ?_
            refine z_aload_n 32 dX10_readText_31 rfl rfl ?_
            refine z_iconst 33 dX10_readText_32 rfl ?_
            refine z_putf (ci := 10) 36 dX10_readText_33 rfl rfl zin_10 tyX10_ok nmX10 23 (by decide) zw_787 rfl (fun _ => ⟨rfl, rfl⟩) (by omega) (by first | with_reducible assumption | with_reducible exact zup_same _ _ _) (Nat.le_of_ble_eq_true rfl) ?_
            refine z_aload_n 37 dX10_readText_36 rfl rfl ?_
            refine z_getf (ci := 10) 40 dX10_readText_37 rfl rfl zin_10 1 (by decide) zw_765 (by first | with_reducible assumption | with_reducible exact zup_same _ _ _) rfl ?_
            refine z_if_eq 54 43 dX10_readText_40 (by decide) rfl (by first | omega | exact zr_b _ | exact zr_and _ _ | exact zr_or _ _ | exact zr_shl _ _) (fun c40 => ?_) (fun c40 => ?_)
            · try replace c40 := zb_0 c40
              refine z_iconst 55 dX10_readText_54 rfl ?_
              refine z_ret dX10_readText_55 (by first | exact True.intro | exact Or.inl rfl | exact Or.inr rfl | exact zb_01 _ | assumption | (show _ ∨ _; omega)) ⟨Nat.le_refl _, Nat.le_refl _⟩ ?_
              exact fin
            · exfalso; omega
          · exfalso; omega
        · rw [show zfl C l 0 = ((0 : Nat) : Int) from if_pos (by omega)] at fin
          have h84 : C 0 ≠ 84 := of_decide_eq_false (f0.symm.trans (hk2 (by omega)))
          refine z_iload_n 3 dX10_readText_2 rfl rfl ?_
          refine z_bipush 5 dX10_readText_3 rfl (by decide) ?_
          refine z_icmp_ge 21 8 dX10_readText_5 (by decide) rfl (by first | omega | exact zr_b _ | exact zr_and _ _ | exact zr_or _ _ | exact zr_shl _ _) (by first | omega | exact zr_b _ | exact zr_and _ _ | exact zr_or _ _ | exact zr_shl _ _) (fun c5 => ?_) (fun c5 => ?_)
          · refine z_aload_n 22 dX10_readText_21 rfl rfl ?_
            refine z_iconst 23 dX10_readText_22 rfl ?_
            refine z_putf (ci := 10) 26 dX10_readText_23 rfl rfl zin_10 tyX10_ok nmX10 20 (by decide) zw_784 rfl (fun _ => ⟨rfl, rfl⟩) (by omega) (by first | with_reducible assumption | with_reducible exact zup_same _ _ _) (Nat.le_of_ble_eq_true rfl) ?_
            refine z_aload_n 27 dX10_readText_26 rfl rfl ?_
            refine z_iconst 28 dX10_readText_27 rfl ?_
            refine z_putf (ci := 10) 31 dX10_readText_28 rfl rfl zin_10 tyX10_ok nmX10 22 (by decide) zw_786 rfl (fun _ => ⟨rfl, rfl⟩) (by omega) (by first | with_reducible assumption | with_reducible exact zup_same _ _ _) (Nat.le_of_ble_eq_true rfl) ?_
            refine z_aload_n 32 dX10_readText_31 rfl rfl ?_
            refine z_iconst 33 dX10_readText_32 rfl ?_
            refine z_putf (ci := 10) 36 dX10_readText_33 rfl rfl zin_10 tyX10_ok nmX10 23 (by decide) zw_787 rfl (fun _ => ⟨rfl, rfl⟩) (by omega) (by first | with_reducible assumption | with_reducible exact zup_same _ _ _) (Nat.le_of_ble_eq_true rfl) ?_
            change Z _ _ _ _ _ _ (zup (zup (zup (zup h 127 (zI 33 RD')) 112 (zMO (zMS.urp (zMS.uRD (C, (l : Int), n, R, TR, DI, ac, nx, KP, IK, SW, ST, sn, sd, TI, WH, BG, OD, WO, MA, rp, RD, rs, rm, rw) RD') 1))) 112 (zMO (zMS.urs (zMS.urp (zMS.uRD (C, (l : Int), n, R, TR, DI, ac, nx, KP, IK, SW, ST, sn, sd, TI, WH, BG, OD, WO, MA, rp, RD, rs, rm, rw) RD') 1) 1))) 112 (zMO (zMS.urm (zMS.urs (zMS.urp (zMS.uRD (C, (l : Int), n, R, TR, DI, ac, nx, KP, IK, SW, ST, sn, sd, TI, WH, BG, OD, WO, MA, rp, RD, rs, rm, rw) RD') 1) 1) 0))) _
            refine z_aload_n 37 dX10_readText_36 rfl rfl ?_
            refine z_getf (ci := 10) 40 dX10_readText_37 rfl rfl zin_10 1 (by decide) zw_765 (by first | with_reducible assumption | with_reducible exact zup_same _ _ _) rfl ?_
            refine z_if_eq 54 43 dX10_readText_40 (by decide) rfl (by first | omega | exact zr_b _ | exact zr_and _ _ | exact zr_or _ _ | exact zr_shl _ _) (fun c40 => ?_) (fun c40 => ?_)
            · exfalso; omega
            · try replace c40 := zb_1 c40
              refine z_aload_n 44 dX10_readText_43 rfl rfl ?_
              refine z_getf (ci := 10) 47 dX10_readText_44 rfl rfl zin_10 0 (by decide) zw_764 (by first | with_reducible assumption | with_reducible exact zup_same _ _ _) rfl ?_
              refine z_iconst 48 dX10_readText_47 rfl ?_
              refine z_iald 49 dX10_readText_48 rfl (by first | with_reducible assumption | with_reducible exact zup_same _ _ _) (by omega) (by first | omega | exact zr_b _ | exact zr_and _ _ | exact zr_or _ _ | exact zr_shl _ _) ?_
              refine z_bipush 51 dX10_readText_49 rfl (by decide) ?_
              refine z_icmp_eq 56 54 dX10_readText_51 (by decide) rfl (by first | omega | exact zr_b _ | exact zr_and _ _ | exact zr_or _ _ | exact zr_shl _ _) (by first | omega | exact zr_b _ | exact zr_and _ _ | exact zr_or _ _ | exact zr_shl _ _) (fun c51 => ?_) (fun c51 => ?_)
              · exfalso; omega
              · refine z_iconst 55 dX10_readText_54 rfl ?_
                refine z_ret dX10_readText_55 (by first | exact True.intro | exact Or.inl rfl | exact Or.inr rfl | exact zb_01 _ | assumption | (show _ ∨ _; omega)) ⟨Nat.le_refl _, Nat.le_refl _⟩ ?_
                exact fin
          · exfalso; omega
      · have h84 : C 0 = 84 := of_decide_eq_true (f0.symm.trans (hk1 0 (by omega)))
        refine z_iload_n 3 dX10_readText_2 rfl rfl ?_
        refine z_bipush 5 dX10_readText_3 rfl (by decide) ?_
        refine z_icmp_ge 21 8 dX10_readText_5 (by decide) rfl (by first | omega | exact zr_b _ | exact zr_and _ _ | exact zr_or _ _ | exact zr_shl _ _) (by first | omega | exact zr_b _ | exact zr_and _ _ | exact zr_or _ _ | exact zr_shl _ _) (fun c5 => ?_) (fun c5 => ?_)
        · refine z_aload_n 22 dX10_readText_21 rfl rfl ?_
          refine z_iconst 23 dX10_readText_22 rfl ?_
          refine z_putf (ci := 10) 26 dX10_readText_23 rfl rfl zin_10 tyX10_ok nmX10 20 (by decide) zw_784 rfl (fun _ => ⟨rfl, rfl⟩) (by omega) (by first | with_reducible assumption | with_reducible exact zup_same _ _ _) (Nat.le_of_ble_eq_true rfl) ?_
          refine z_aload_n 27 dX10_readText_26 rfl rfl ?_
          refine z_iconst 28 dX10_readText_27 rfl ?_
          refine z_putf (ci := 10) 31 dX10_readText_28 rfl rfl zin_10 tyX10_ok nmX10 22 (by decide) zw_786 rfl (fun _ => ⟨rfl, rfl⟩) (by omega) (by first | with_reducible assumption | with_reducible exact zup_same _ _ _) (Nat.le_of_ble_eq_true rfl) ?_
          refine z_aload_n 32 dX10_readText_31 rfl rfl ?_
          refine z_iconst 33 dX10_readText_32 rfl ?_
          refine z_putf (ci := 10) 36 dX10_readText_33 rfl rfl zin_10 tyX10_ok nmX10 23 (by decide) zw_787 rfl (fun _ => ⟨rfl, rfl⟩) (by omega) (by first | with_reducible assumption | with_reducible exact zup_same _ _ _) (Nat.le_of_ble_eq_true rfl) ?_
          change Z _ _ _ _ _ _ (zup (zup (zup (zup h 127 (zI 33 RD')) 112 (zMO (zMS.urp (zMS.uRD (C, (l : Int), n, R, TR, DI, ac, nx, KP, IK, SW, ST, sn, sd, TI, WH, BG, OD, WO, MA, rp, RD, rs, rm, rw) RD') 1))) 112 (zMO (zMS.urs (zMS.urp (zMS.uRD (C, (l : Int), n, R, TR, DI, ac, nx, KP, IK, SW, ST, sn, sd, TI, WH, BG, OD, WO, MA, rp, RD, rs, rm, rw) RD') 1) 1))) 112 (zMO (zMS.urm (zMS.urs (zMS.urp (zMS.uRD (C, (l : Int), n, R, TR, DI, ac, nx, KP, IK, SW, ST, sn, sd, TI, WH, BG, OD, WO, MA, rp, RD, rs, rm, rw) RD') 1) 1) 0))) _
          refine z_aload_n 37 dX10_readText_36 rfl rfl ?_
          refine z_getf (ci := 10) 40 dX10_readText_37 rfl rfl zin_10 1 (by decide) zw_765 (by first | with_reducible assumption | with_reducible exact zup_same _ _ _) rfl ?_
          refine z_if_eq 54 43 dX10_readText_40 (by decide) rfl (by first | omega | exact zr_b _ | exact zr_and _ _ | exact zr_or _ _ | exact zr_shl _ _) (fun c40 => ?_) (fun c40 => ?_)
          · exfalso; omega
          · try replace c40 := zb_1 c40
            refine z_aload_n 44 dX10_readText_43 rfl rfl ?_
            refine z_getf (ci := 10) 47 dX10_readText_44 rfl rfl zin_10 0 (by decide) zw_764 (by first | with_reducible assumption | with_reducible exact zup_same _ _ _) rfl ?_
            refine z_iconst 48 dX10_readText_47 rfl ?_
            refine z_iald 49 dX10_readText_48 rfl (by first | with_reducible assumption | with_reducible exact zup_same _ _ _) (by omega) (by first | omega | exact zr_b _ | exact zr_and _ _ | exact zr_or _ _ | exact zr_shl _ _) ?_
            refine z_bipush 51 dX10_readText_49 rfl (by decide) ?_
            refine z_icmp_eq 56 54 dX10_readText_51 (by decide) rfl (by first | omega | exact zr_b _ | exact zr_and _ _ | exact zr_or _ _ | exact zr_shl _ _) (by first | omega | exact zr_b _ | exact zr_and _ _ | exact zr_or _ _ | exact zr_shl _ _) (fun c51 => ?_) (fun c51 => ?_)
            · refine z_iconst 57 dX10_readText_56 rfl ?_
              refine z_istore_n 58 dX10_readText_57 rfl (by decide) ?_
              exact loop 1 (by omega) (by omega) _ _ _ _ _ _ _ _ hWd (Or.inl ⟨rfl, rfl, fun j h1 h2 => k1 j h1 h2, rfl, rfl⟩) hFd
            · exfalso; omega
        · exfalso; omega
    · intro i hi ih RD' k1
      have hWa := hW.s127 RD'
      have w112 := hWa.c112
      dsimp only [zMO, zMS.C, zMS.l, zMS.n, zMS.R, zMS.TR, zMS.DI, zMS.ac, zMS.nx, zMS.KP, zMS.IK, zMS.SW, zMS.ST, zMS.sn, zMS.sd, zMS.TI, zMS.WH, zMS.BG, zMS.OD, zMS.WO, zMS.MA, zMS.rp, zMS.RD, zMS.rs, zMS.rm, zMS.rw, zMS.uC, zMS.ul, zMS.un, zMS.uR, zMS.uTR, zMS.uDI, zMS.uac, zMS.unx, zMS.uKP, zMS.uIK, zMS.uSW, zMS.uST, zMS.usn, zMS.usd, zMS.uTI, zMS.uWH, zMS.uBG, zMS.uOD, zMS.uWO, zMS.uMA, zMS.urp, zMS.uRD, zMS.urs, zMS.urm, zMS.urw] at w112
      have w127 := hWa.c127
      dsimp only [zMO, zMS.C, zMS.l, zMS.n, zMS.R, zMS.TR, zMS.DI, zMS.ac, zMS.nx, zMS.KP, zMS.IK, zMS.SW, zMS.ST, zMS.sn, zMS.sd, zMS.TI, zMS.WH, zMS.BG, zMS.OD, zMS.WO, zMS.MA, zMS.rp, zMS.RD, zMS.rs, zMS.rm, zMS.rw, zMS.uC, zMS.ul, zMS.un, zMS.uR, zMS.uTR, zMS.uDI, zMS.uac, zMS.unx, zMS.uKP, zMS.uIK, zMS.uSW, zMS.uST, zMS.usn, zMS.usd, zMS.uTI, zMS.uWH, zMS.uBG, zMS.uOD, zMS.uWO, zMS.uMA, zMS.urp, zMS.uRD, zMS.urs, zMS.urm, zMS.urw] at w127
      refine z_iload_n 3 dX10_readText_2 rfl rfl ?_
      refine z_bipush 5 dX10_readText_3 rfl (by decide) ?_
      refine z_icmp_ge 21 8 dX10_readText_5 (by decide) rfl (by first | omega | exact zr_b _ | exact zr_and _ _ | exact zr_or _ _ | exact zr_shl _ _) (by first | omega | exact zr_b _ | exact zr_and _ _ | exact zr_or _ _ | exact zr_shl _ _) (fun c5 => ?_) (fun c5 => ?_)
      · exfalso; omega
      · refine z_aload_n 9 dX10_readText_8 rfl rfl ?_
        refine z_getf (ci := 10) 12 dX10_readText_9 rfl rfl zin_10 21 (by decide) zw_785 (by first | with_reducible assumption | with_reducible exact zup_same _ _ _) rfl ?_
        refine z_iload_n 13 dX10_readText_12 rfl rfl ?_
        refine z_iconst 14 dX10_readText_13 rfl ?_
        refine z_iast 15 dX10_readText_14 rfl (by omega) (by first | with_reducible assumption | with_reducible exact zup_same _ _ _) (by omega) (by first | omega | exact zr_b _ | exact zr_and _ _ | exact zr_or _ _ | exact zr_shl _ _) ?_
        refine z_iinc 18 dX10_readText_15 rfl (by decide) rfl ?_
        refine z_goto 2 dX10_readText_18 (by decide) ?_
        rw [zup_zup]
        refine ih _ (fun j h1 h2 => ?_)
        by_cases e : j = i
        · subst e; exact zst_same _ _ _
        · rw [zst_ne _ _ e]; exact k1 j h1 (by omega)
  refine zC.of zpl_X10 (Nat.le_of_ble_eq_true rfl) ?_
  refine z_iconst 1 dX10_readText_0 rfl ?_
  refine z_istore_n 2 dX10_readText_1 rfl (by decide) ?_
  have k := key 0 (by omega) RD (fun j h1 h2 => by exfalso; omega)
  rw [zup_self h hW.c127] at k
  exact k
theorem m_fault {kf : Nat} (hW : zMC h C l n R DI ac nx KP IK SW ST sn sd) (hl : l ≤ 60) (hC : ∀ j : Int, 0 ≤ j → j < 60 → 0 ≤ C j ∧ C j ≤ 255) (hk : kf ≤ l) (hk1 : ∀ j : Nat, j < kf → zfits C j = true) (hk2 : kf < l → zfits C kf = false) (hQ : ∀ h' : zH, zMC h' C l n R DI ac nx KP IK SW ST sn sd → zMod 112 127 h h' → Q (some (vI (zfl C l kf))) h') : zC (d + 6) mX10_fault 0 0 [vR 112] h Q := by
  obtain ⟨TR, TI, WH, BG, OD, WO, MA, RD, rp, rs, rm, rw', hW⟩ := hW
  have w112 := hW.c112
  dsimp only [zMO, zMS.C, zMS.l, zMS.n, zMS.R, zMS.TR, zMS.DI, zMS.ac, zMS.nx, zMS.KP, zMS.IK, zMS.SW, zMS.ST, zMS.sn, zMS.sd, zMS.TI, zMS.WH, zMS.BG, zMS.OD, zMS.WO, zMS.MA, zMS.rp, zMS.RD, zMS.rs, zMS.rm, zMS.rw, zMS.uC, zMS.ul, zMS.un, zMS.uR, zMS.uTR, zMS.uDI, zMS.uac, zMS.unx, zMS.uKP, zMS.uIK, zMS.uSW, zMS.uST, zMS.usn, zMS.usd, zMS.uTI, zMS.uWH, zMS.uBG, zMS.uOD, zMS.uWO, zMS.uMA, zMS.urp, zMS.uRD, zMS.urs, zMS.urm, zMS.urw] at w112
  refine zC.of zpl_X10 (Nat.le_of_ble_eq_true rfl) ?_
  refine z_aload_n 1 dX10_fault_0 rfl rfl ?_
  refine z_cV0 4 dX10_fault_1 rfl kX10_readText zw_857 (Nat.le_of_ble_eq_true rfl) ⟨Nat.le_refl _, Nat.le_refl _⟩ (by first | with_reducible assumption | with_reducible exact zup_same _ _ _) ?_
  refine c_X10_readText hW hl hC hk hk1 hk2 (fun h' rp RD rs rm rw hW' _ hF => ?_)
  refine z_ret dX10_fault_4 (by first | exact True.intro | exact Or.inl rfl | exact Or.inr rfl | exact zb_01 _ | assumption | (show _ ∨ _; omega)) ⟨Nat.le_refl _, Nat.le_refl _⟩ ?_
  exact hQ _ hW'.mc hF
theorem zfl_r (C : Int → Int) {l k : Nat} (hl : l ≤ 60) (hk : k ≤ l) : -9 ≤ zfl C l k ∧ zfl C l k ≤ 60 := by
  unfold zfl; split; omega; split <;> omega
theorem m_telling_late {kf : Nat} (hW : zMC h C l n R DI ac nx KP IK SW ST sn sd) (hl : l ≤ 60) (hC : ∀ j : Int, 0 ≤ j → j < 60 → 0 ≤ C j ∧ C j ≤ 255) (hk : kf ≤ l) (hk1 : ∀ j : Nat, j < kf → zfits C j = true) (hk2 : kf < l → zfits C kf = false) (hz : zfl C l kf ≠ -9) (hQ : ∀ h' : zH, zMC h' C l n R DI ac nx KP IK SW ST sn sd → zMod 112 127 h h' → Q (some (vI (-3))) h') : zC (d + 6) mX10_telling 0 0 [vR 112] h Q := by
  obtain ⟨TR, TI, WH, BG, OD, WO, MA, RD, rp, rs, rm, rw', hW⟩ := hW
  have hr := zfl_r C hl hk
  have w112 := hW.c112
  dsimp only [zMO, zMS.C, zMS.l, zMS.n, zMS.R, zMS.TR, zMS.DI, zMS.ac, zMS.nx, zMS.KP, zMS.IK, zMS.SW, zMS.ST, zMS.sn, zMS.sd, zMS.TI, zMS.WH, zMS.BG, zMS.OD, zMS.WO, zMS.MA, zMS.rp, zMS.RD, zMS.rs, zMS.rm, zMS.rw, zMS.uC, zMS.ul, zMS.un, zMS.uR, zMS.uTR, zMS.uDI, zMS.uac, zMS.unx, zMS.uKP, zMS.uIK, zMS.uSW, zMS.uST, zMS.usn, zMS.usd, zMS.uTI, zMS.uWH, zMS.uBG, zMS.uOD, zMS.uWO, zMS.uMA, zMS.urp, zMS.uRD, zMS.urs, zMS.urm, zMS.urw] at w112
  refine zC.of zpl_X10 (Nat.le_of_ble_eq_true rfl) ?_
  refine z_aload_n 1 dX10_telling_0 rfl rfl ?_
  refine z_cV0 4 dX10_telling_1 rfl kX10_readText zw_857 (Nat.le_of_ble_eq_true rfl) ⟨Nat.le_refl _, Nat.le_refl _⟩ (by first | with_reducible assumption | with_reducible exact zup_same _ _ _) ?_
  refine c_X10_readText hW hl hC hk hk1 hk2 (fun h' rp RD rs rm rw hW' _ hF => ?_)
  refine z_bipush 6 dX10_telling_4 rfl (by decide) ?_
  refine z_icmp_eq 12 9 dX10_telling_6 (by decide) rfl (by first | omega | exact zr_b _ | exact zr_and _ _ | exact zr_or _ _ | exact zr_shl _ _) (by first | omega | exact zr_b _ | exact zr_and _ _ | exact zr_or _ _ | exact zr_shl _ _) (fun c6 => ?_) (fun c6 => ?_)
  · exfalso; omega
  · refine z_bipush 11 dX10_telling_9 rfl (by decide) ?_
    refine z_ret dX10_telling_11 (by first | exact True.intro | exact Or.inl rfl | exact Or.inr rfl | exact zb_01 _ | assumption | (show _ ∨ _; omega)) ⟨Nat.le_refl _, Nat.le_refl _⟩ ?_
    exact hQ _ hW'.mc hF
end MTEXT3
