/-! THE MODEL: the text, read whole -/
section MTEXT2
variable {d : Nat} {h h1 : zH} {Q : Option zV → zH → Prop} {C : Int → Int} {l : Nat} {n : Int} {R TR DI : Int → Int} {ac nx : Int} {KP IK SW ST : Int → Int} {sn sd : Int} {TI WH BG OD WO MA : Int → Int} {rp : Int} {RD : Int → Int} {rs rm rw : Int}
theorem zstb_rng {q : Nat} (hq : C 2 - 48 = q) {j : Nat} (hj : j ≤ q - 1) (hf : ∀ i : Nat, i < 3 + 2 * q + 3 * j → zfits C i = true) {f : Int} (hs : zstb C f (3 + 2 * q) j = true) : 1 ≤ f ∧ f ≤ (q : Int) - 1 := by
  obtain ⟨j', hj', e, -⟩ := zstb_t hs
  have h1 := hf (3 + 2 * q + 1 + 3 * j') (by omega)
  rw [show ((3 + 2 * q + 1 + 3 * j' : Nat) : Int) = 3 + 2 * (q : Int) + 1 + 3 * j' by omega, zfit4 hq (by omega), if_neg (by omega), if_pos (by omega), Bool.and_eq_true] at h1
  have := of_decide_eq_true h1.1
  omega
set_option maxHeartbeats 1000000 in
theorem z_rt {i : Nat} {o2 o3 : Option zV} (hW : zMW h1 (C, (l : Int), n, R, TR, DI, ac, nx, KP, IK, SW, ST, sn, sd, TI, WH, BG, OD, WO, MA, rp, RD, rs, rm, rw)) (hF : zMod 112 127 h h1) (hi : 1 ≤ i ∧ i < l) (hl : l ≤ 60) (hC : ∀ j : Int, 0 ≤ j → j < 60 → 0 ≤ C j ∧ C j ≤ 255) (hfit : ∀ j : Nat, j < i → zfits C j = true) (hI : zRI3 C i rp RD rs rm rw)
    (k1 : zfits C i = true → ∀ (h2 : zH) (rp : Int) (RD : Int → Int) (rs rm rw : Int) (o2 o3 : Option zV), zMW h2 (C, (l : Int), n, R, TR, DI, ac, nx, KP, IK, SW, ST, sn, sd, TI, WH, BG, OD, WO, MA, rp, RD, rs, rm, rw) → zRI3 C (i + 1) rp RD rs rm rw → zMod 112 127 h h2 → Z (d + 3) mX10_readText zo 58 [some (vR 112), some (vI ((i + 1 : Nat) : Int)), o2, o3] [] h2 Q)
    (k0 : zfits C i = false → ∀ (h2 : zH) (rp : Int) (RD : Int → Int) (rs rm rw : Int), zMW h2 (C, (l : Int), n, R, TR, DI, ac, nx, KP, IK, SW, ST, sn, sd, TI, WH, BG, OD, WO, MA, rp, RD, rs, rm, rw) → zMod 112 127 h h2 → Q (some (vI i)) h2) : Z (d + 3) mX10_readText zo 58 [some (vR 112), some (vI i), o2, o3] [] h1 Q := by
  have hCi := hC i (by omega) (by omega)
  have w112 := hW.c112
  dsimp only [zMO, zMS.C, zMS.l, zMS.n, zMS.R, zMS.TR, zMS.DI, zMS.ac, zMS.nx, zMS.KP, zMS.IK, zMS.SW, zMS.ST, zMS.sn, zMS.sd, zMS.TI, zMS.WH, zMS.BG, zMS.OD, zMS.WO, zMS.MA, zMS.rp, zMS.RD, zMS.rs, zMS.rm, zMS.rw, zMS.uC, zMS.ul, zMS.un, zMS.uR, zMS.uTR, zMS.uDI, zMS.uac, zMS.unx, zMS.uKP, zMS.uIK, zMS.uSW, zMS.uST, zMS.usn, zMS.usd, zMS.uTI, zMS.uWH, zMS.uBG, zMS.uOD, zMS.uWO, zMS.uMA, zMS.urp, zMS.uRD, zMS.urs, zMS.urm, zMS.urw] at w112
  have w113 := hW.c113
  dsimp only [zMO, zMS.C, zMS.l, zMS.n, zMS.R, zMS.TR, zMS.DI, zMS.ac, zMS.nx, zMS.KP, zMS.IK, zMS.SW, zMS.ST, zMS.sn, zMS.sd, zMS.TI, zMS.WH, zMS.BG, zMS.OD, zMS.WO, zMS.MA, zMS.rp, zMS.RD, zMS.rs, zMS.rm, zMS.rw, zMS.uC, zMS.ul, zMS.un, zMS.uR, zMS.uTR, zMS.uDI, zMS.uac, zMS.unx, zMS.uKP, zMS.uIK, zMS.uSW, zMS.uST, zMS.usn, zMS.usd, zMS.uTI, zMS.uWH, zMS.uBG, zMS.uOD, zMS.uWO, zMS.uMA, zMS.urp, zMS.uRD, zMS.urs, zMS.urm, zMS.urw] at w113
  rcases hI with ⟨rfl, hI⟩ | ⟨rfl, hI⟩ | ⟨h3, q, hq, q1, q8, hI⟩
  · rw [show ((1 : Nat) : Int) = 1 from rfl] at k0 k1 hCi ⊢
    refine z_iload_n 59 dX10_readText_58 rfl rfl ?_
    refine z_aload_n 60 dX10_readText_59 rfl rfl ?_
    refine z_getf (ci := 10) 63 dX10_readText_60 rfl rfl zin_10 1 (by decide) zw_765 (by first | with_reducible assumption | with_reducible exact zup_same _ _ _) rfl ?_
    refine z_icmp_ge 141 66 dX10_readText_63 (by decide) rfl (by first | omega | exact zr_b _ | exact zr_and _ _ | exact zr_or _ _ | exact zr_shl _ _) (by first | omega | exact zr_b _ | exact zr_and _ _ | exact zr_or _ _ | exact zr_shl _ _) (fun c63 => ?_) (fun c63 => ?_)
    · exfalso; omega
    · refine z_iconst 67 dX10_readText_66 rfl ?_
      refine z_iconst 68 dX10_readText_67 rfl ?_
      refine z_aload_n 69 dX10_readText_68 rfl rfl ?_
      refine z_getf (ci := 10) 72 dX10_readText_69 rfl rfl zin_10 20 (by decide) zw_784 (by first | with_reducible assumption | with_reducible exact zup_same _ _ _) rfl ?_
      refine z_imul 73 dX10_readText_72 rfl ?_
      refine z_iadd 74 dX10_readText_73 rfl ?_
      refine z_istore_n 75 dX10_readText_74 rfl (by decide) ?_
      refine z_iload_n 76 dX10_readText_75 rfl rfl ?_
      refine z_iconst 77 dX10_readText_76 rfl ?_
      rw [hI.1]
      refine z_icmp_lt 85 80 dX10_readText_77 (by decide) rfl (by first | omega | exact zr_b _ | exact zr_and _ _ | exact zr_or _ _ | exact zr_shl _ _) (by first | omega | exact zr_b _ | exact zr_and _ _ | exact zr_or _ _ | exact zr_shl _ _) (fun c77 => ?_) (fun c77 => ?_)
      · refine z_iconst 86 dX10_readText_85 rfl ?_
        refine z_goto 90 dX10_readText_86 (by decide) ?_
        refine z_istore_n 91 dX10_readText_90 rfl (by decide) ?_
        refine z_iload_n 92 dX10_readText_91 rfl rfl ?_
        refine z_if_eq 115 95 dX10_readText_92 (by decide) rfl (by first | omega | exact zr_b _ | exact zr_and _ _ | exact zr_or _ _ | exact zr_shl _ _) (fun c92 => ?_) (fun c92 => ?_)
        · exact absurd c92 (by decide)
        · try replace c92 := zb_1 c92
          refine z_aload_n 96 dX10_readText_95 rfl rfl ?_
          refine z_iload_n 97 dX10_readText_96 rfl rfl ?_
          refine z_aload_n 98 dX10_readText_97 rfl rfl ?_
          refine z_getf (ci := 10) 101 dX10_readText_98 rfl rfl zin_10 0 (by decide) zw_764 (by first | with_reducible assumption | with_reducible exact zup_same _ _ _) rfl ?_
          refine z_iload_n 102 dX10_readText_101 rfl rfl ?_
          refine z_iald 103 dX10_readText_102 rfl (by first | with_reducible assumption | with_reducible exact zup_same _ _ _) (by omega) (by first | omega | exact zr_b _ | exact zr_and _ _ | exact zr_or _ _ | exact zr_shl _ _) ?_
          refine z_bipush 105 dX10_readText_103 rfl (by decide) ?_
          refine z_isub 106 dX10_readText_105 rfl ?_
          refine z_cV2 109 dX10_readText_106 rfl kX10_takeHead zw_861 (Nat.le_of_ble_eq_true rfl) ⟨Nat.le_refl _, Nat.le_refl _⟩ (by first | with_reducible assumption | with_reducible exact zup_same _ _ _) ?_
          refine c_X10_takeHead1 hW (by omega) (fun h2 hW2 hF2 => ?_)
          refine z_if_eq 133 112 dX10_readText_109 (by decide) rfl (by first | omega | exact zr_b _ | exact zr_and _ _ | exact zr_or _ _ | exact zr_shl _ _) (fun c109 => ?_) (fun c109 => ?_)
          · try replace c109 := zb_0 c109
            refine z_iload_n 134 dX10_readText_133 rfl rfl ?_
            refine z_ret dX10_readText_134 (by first | exact True.intro | exact Or.inl rfl | exact Or.inr rfl | exact zb_01 _ | assumption | (show _ ∨ _; omega)) ⟨Nat.le_refl _, Nat.le_refl _⟩ ?_
            exact k0 (by rw [zfit1, decide_eq_false c109]) _ _ _ _ _ _ hW2 (hF.tr hF2)
          · try replace c109 := zb_1 c109
            refine z_goto 135 dX10_readText_112 (by decide) ?_
            refine z_iinc 138 dX10_readText_135 rfl (by decide) rfl ?_
            refine z_goto 58 dX10_readText_138 (by decide) ?_
            exact k1 (by rw [zfit1, decide_eq_true c109]) _ _ _ _ _ _ _ _ hW2 (Or.inr (Or.inl ⟨rfl, hI.nx⟩)) (hF.tr hF2)
      · exfalso; omega
  · rw [show ((2 : Nat) : Int) = 2 from rfl] at k0 k1 hCi ⊢
    refine z_iload_n 59 dX10_readText_58 rfl rfl ?_
    refine z_aload_n 60 dX10_readText_59 rfl rfl ?_
    refine z_getf (ci := 10) 63 dX10_readText_60 rfl rfl zin_10 1 (by decide) zw_765 (by first | with_reducible assumption | with_reducible exact zup_same _ _ _) rfl ?_
    refine z_icmp_ge 141 66 dX10_readText_63 (by decide) rfl (by first | omega | exact zr_b _ | exact zr_and _ _ | exact zr_or _ _ | exact zr_shl _ _) (by first | omega | exact zr_b _ | exact zr_and _ _ | exact zr_or _ _ | exact zr_shl _ _) (fun c63 => ?_) (fun c63 => ?_)
    · exfalso; omega
    · refine z_iconst 67 dX10_readText_66 rfl ?_
      refine z_iconst 68 dX10_readText_67 rfl ?_
      refine z_aload_n 69 dX10_readText_68 rfl rfl ?_
      refine z_getf (ci := 10) 72 dX10_readText_69 rfl rfl zin_10 20 (by decide) zw_784 (by first | with_reducible assumption | with_reducible exact zup_same _ _ _) rfl ?_
      refine z_imul 73 dX10_readText_72 rfl ?_
      refine z_iadd 74 dX10_readText_73 rfl ?_
      refine z_istore_n 75 dX10_readText_74 rfl (by decide) ?_
      refine z_iload_n 76 dX10_readText_75 rfl rfl ?_
      refine z_iconst 77 dX10_readText_76 rfl ?_
      rw [hI.1]
      refine z_icmp_lt 85 80 dX10_readText_77 (by decide) rfl (by first | omega | exact zr_b _ | exact zr_and _ _ | exact zr_or _ _ | exact zr_shl _ _) (by first | omega | exact zr_b _ | exact zr_and _ _ | exact zr_or _ _ | exact zr_shl _ _) (fun c77 => ?_) (fun c77 => ?_)
      · refine z_iconst 86 dX10_readText_85 rfl ?_
        refine z_goto 90 dX10_readText_86 (by decide) ?_
        refine z_istore_n 91 dX10_readText_90 rfl (by decide) ?_
        refine z_iload_n 92 dX10_readText_91 rfl rfl ?_
        refine z_if_eq 115 95 dX10_readText_92 (by decide) rfl (by first | omega | exact zr_b _ | exact zr_and _ _ | exact zr_or _ _ | exact zr_shl _ _) (fun c92 => ?_) (fun c92 => ?_)
        · exact absurd c92 (by decide)
        · try replace c92 := zb_1 c92
          refine z_aload_n 96 dX10_readText_95 rfl rfl ?_
          refine z_iload_n 97 dX10_readText_96 rfl rfl ?_
          refine z_aload_n 98 dX10_readText_97 rfl rfl ?_
          refine z_getf (ci := 10) 101 dX10_readText_98 rfl rfl zin_10 0 (by decide) zw_764 (by first | with_reducible assumption | with_reducible exact zup_same _ _ _) rfl ?_
          refine z_iload_n 102 dX10_readText_101 rfl rfl ?_
          refine z_iald 103 dX10_readText_102 rfl (by first | with_reducible assumption | with_reducible exact zup_same _ _ _) (by omega) (by first | omega | exact zr_b _ | exact zr_and _ _ | exact zr_or _ _ | exact zr_shl _ _) ?_
          refine z_bipush 105 dX10_readText_103 rfl (by decide) ?_
          refine z_isub 106 dX10_readText_105 rfl ?_
          refine z_cV2 109 dX10_readText_106 rfl kX10_takeHead zw_861 (Nat.le_of_ble_eq_true rfl) ⟨Nat.le_refl _, Nat.le_refl _⟩ (by first | with_reducible assumption | with_reducible exact zup_same _ _ _) ?_
          refine c_X10_takeHead2 hW (by omega) (fun h2 hW2 hF2 => ?_)
          refine z_if_eq 133 112 dX10_readText_109 (by decide) rfl (by first | omega | exact zr_b _ | exact zr_and _ _ | exact zr_or _ _ | exact zr_shl _ _) (fun c109 => ?_) (fun c109 => ?_)
          · try replace c109 := zb_0 c109
            refine z_iload_n 134 dX10_readText_133 rfl rfl ?_
            refine z_ret dX10_readText_134 (by first | exact True.intro | exact Or.inl rfl | exact Or.inr rfl | exact zb_01 _ | assumption | (show _ ∨ _; omega)) ⟨Nat.le_refl _, Nat.le_refl _⟩ ?_
            exact k0 (by rw [zfit2, decide_eq_false c109]) _ _ _ _ _ _ hW2 (hF.tr hF2)
          · try replace c109 := zb_1 c109
            refine z_goto 135 dX10_readText_112 (by decide) ?_
            refine z_iinc 138 dX10_readText_135 rfl (by decide) rfl ?_
            refine z_goto 58 dX10_readText_138 (by decide) ?_
            obtain ⟨q, hq⟩ : ∃ q : Nat, C 2 - 48 = (q : Int) := ⟨(C 2 - 48).toNat, by omega⟩
            rw [hq] at hW2
            exact k1 (by rw [zfit2, decide_eq_true c109]) _ _ _ _ _ _ _ _ hW2 (Or.inr (Or.inr ⟨by omega, q, hq, by omega, by omega, hI.nx (by omega)⟩)) (hF.tr hF2)
      · exfalso; omega
  · have hrp := hI.1
    subst hrp
    by_cases hst : i < 3 + 2 * q
    · have hf := zfit3 (C := C) (i := (i : Int)) hq (by omega)
      refine z_iload_n 59 dX10_readText_58 rfl rfl ?_
      refine z_aload_n 60 dX10_readText_59 rfl rfl ?_
      refine z_getf (ci := 10) 63 dX10_readText_60 rfl rfl zin_10 1 (by decide) zw_765 (by first | with_reducible assumption | with_reducible exact zup_same _ _ _) rfl ?_
      refine z_icmp_ge 141 66 dX10_readText_63 (by decide) rfl (by first | omega | exact zr_b _ | exact zr_and _ _ | exact zr_or _ _ | exact zr_shl _ _) (by first | omega | exact zr_b _ | exact zr_and _ _ | exact zr_or _ _ | exact zr_shl _ _) (fun c63 => ?_) (fun c63 => ?_)
      · exfalso; omega
      · refine z_iconst 67 dX10_readText_66 rfl ?_
        refine z_iconst 68 dX10_readText_67 rfl ?_
        refine z_aload_n 69 dX10_readText_68 rfl rfl ?_
        refine z_getf (ci := 10) 72 dX10_readText_69 rfl rfl zin_10 20 (by decide) zw_784 (by first | with_reducible assumption | with_reducible exact zup_same _ _ _) rfl ?_
        refine z_imul 73 dX10_readText_72 rfl ?_
        refine z_iadd 74 dX10_readText_73 rfl ?_
        refine z_istore_n 75 dX10_readText_74 rfl (by decide) ?_
        refine z_iload_n 76 dX10_readText_75 rfl rfl ?_
        refine z_iconst 77 dX10_readText_76 rfl ?_
        refine z_icmp_lt 85 80 dX10_readText_77 (by decide) rfl (by first | omega | exact zr_b _ | exact zr_and _ _ | exact zr_or _ _ | exact zr_shl _ _) (by first | omega | exact zr_b _ | exact zr_and _ _ | exact zr_or _ _ | exact zr_shl _ _) (fun c77 => ?_) (fun c77 => ?_)
        · exfalso; omega
        · refine z_iload_n 81 dX10_readText_80 rfl rfl ?_
          refine z_iload_n 82 dX10_readText_81 rfl rfl ?_
          refine z_icmp_ge 89 85 dX10_readText_82 (by decide) rfl (by first | omega | exact zr_b _ | exact zr_and _ _ | exact zr_or _ _ | exact zr_shl _ _) (by first | omega | exact zr_b _ | exact zr_and _ _ | exact zr_or _ _ | exact zr_shl _ _) (fun c82 => ?_) (fun c82 => ?_)
          · exfalso; omega
          · refine z_iconst 86 dX10_readText_85 rfl ?_
            refine z_goto 90 dX10_readText_86 (by decide) ?_
            refine z_istore_n 91 dX10_readText_90 rfl (by decide) ?_
            refine z_iload_n 92 dX10_readText_91 rfl rfl ?_
            refine z_if_eq 115 95 dX10_readText_92 (by decide) rfl (by first | omega | exact zr_b _ | exact zr_and _ _ | exact zr_or _ _ | exact zr_shl _ _) (fun c92 => ?_) (fun c92 => ?_)
            · exact absurd c92 (by decide)
            · try replace c92 := zb_1 c92
              refine z_aload_n 96 dX10_readText_95 rfl rfl ?_
              refine z_iload_n 97 dX10_readText_96 rfl rfl ?_
              refine z_aload_n 98 dX10_readText_97 rfl rfl ?_
              refine z_getf (ci := 10) 101 dX10_readText_98 rfl rfl zin_10 0 (by decide) zw_764 (by first | with_reducible assumption | with_reducible exact zup_same _ _ _) rfl ?_
              refine z_iload_n 102 dX10_readText_101 rfl rfl ?_
              refine z_iald 103 dX10_readText_102 rfl (by first | with_reducible assumption | with_reducible exact zup_same _ _ _) (by omega) (by first | omega | exact zr_b _ | exact zr_and _ _ | exact zr_or _ _ | exact zr_shl _ _) ?_
              refine z_bipush 105 dX10_readText_103 rfl (by decide) ?_
              refine z_isub 106 dX10_readText_105 rfl ?_
              refine z_cV2 109 dX10_readText_106 rfl kX10_takeHead zw_861 (Nat.le_of_ble_eq_true rfl) ⟨Nat.le_refl _, Nat.le_refl _⟩ (by first | with_reducible assumption | with_reducible exact zup_same _ _ _) ?_
              refine c_X10_takeHead3 hW (by omega) (by omega) (fun h2 ix hix hW2 hF2 => ?_)
              refine z_if_eq 133 112 dX10_readText_109 (by decide) rfl (by first | omega | exact zr_b _ | exact zr_and _ _ | exact zr_or _ _ | exact zr_shl _ _) (fun c109 => ?_) (fun c109 => ?_)
              · try replace c109 := zb_0 c109
                refine z_iload_n 134 dX10_readText_133 rfl rfl ?_
                refine z_ret dX10_readText_134 (by first | exact True.intro | exact Or.inl rfl | exact Or.inr rfl | exact zb_01 _ | assumption | (show _ ∨ _; omega)) ⟨Nat.le_refl _, Nat.le_refl _⟩ ?_
                exact k0 (by rw [hf, decide_eq_false c109]) _ _ _ _ _ _ hW2 (hF.tr hF2)
              · try replace c109 := zb_1 c109
                refine z_goto 135 dX10_readText_112 (by decide) ?_
                refine z_iinc 138 dX10_readText_135 rfl (by decide) rfl ?_
                refine z_goto 58 dX10_readText_138 (by decide) ?_
                exact k1 (by rw [hf, decide_eq_true c109]) _ _ _ _ _ _ _ _ hW2 (Or.inr (Or.inr ⟨by omega, q, hq, q1, q8, hI.hd (by omega) q8 hix⟩)) (hF.tr hF2)
    · have hm := hI.2.2.2.2.1
      have hrs := hI.2.2.2.2.2.2.2.2.2
      have hsb := hI.2.2.2.2.2.1
      have ejj : (((i : Int) - (3 + 2 * (q : Int))) / 3).toNat = (i - (3 + 2 * q)) / 3 := by omega
      have hle : 3 + 2 * q < i → i - 1 < 3 + 2 * q + 3 * (q - 1) := fun hlt => by
        refine Classical.byContradiction fun hno => ?_
        have h1 := hfit (i - 1) (by omega)
        rw [zfit5 hq (by omega)] at h1
        exact absurd h1 (by decide)
      rcases (show (i - (3 + 2 * q)) % 3 = 0 ∨ (i - (3 + 2 * q)) % 3 = 1 ∨ (i - (3 + 2 * q)) % 3 = 2 by omega) with hr | hr | hr
      · have hf : zfits C i = decide (C i = 116 ∧ rm < (q : Int) - 1) := by
          by_cases hb : i < 3 + 2 * q + 3 * (q - 1)
          · rw [zfit4 hq (by omega), if_pos (by omega)]
            exact decide_eq_decide.mpr ⟨fun e => ⟨e, by omega⟩, fun e => e.1⟩
          · rw [zfit5 hq (by omega)]
            exact (decide_eq_false (fun e => by omega)).symm
        refine z_iload_n 59 dX10_readText_58 rfl rfl ?_
        refine z_aload_n 60 dX10_readText_59 rfl rfl ?_
        refine z_getf (ci := 10) 63 dX10_readText_60 rfl rfl zin_10 1 (by decide) zw_765 (by first | with_reducible assumption | with_reducible exact zup_same _ _ _) rfl ?_
        refine z_icmp_ge 141 66 dX10_readText_63 (by decide) rfl (by first | omega | exact zr_b _ | exact zr_and _ _ | exact zr_or _ _ | exact zr_shl _ _) (by first | omega | exact zr_b _ | exact zr_and _ _ | exact zr_or _ _ | exact zr_shl _ _) (fun c63 => ?_) (fun c63 => ?_)
        · exfalso; omega
        · refine z_iconst 67 dX10_readText_66 rfl ?_
          refine z_iconst 68 dX10_readText_67 rfl ?_
          refine z_aload_n 69 dX10_readText_68 rfl rfl ?_
          refine z_getf (ci := 10) 72 dX10_readText_69 rfl rfl zin_10 20 (by decide) zw_784 (by first | with_reducible assumption | with_reducible exact zup_same _ _ _) rfl ?_
          refine z_imul 73 dX10_readText_72 rfl ?_
          refine z_iadd 74 dX10_readText_73 rfl ?_
          refine z_istore_n 75 dX10_readText_74 rfl (by decide) ?_
          refine z_iload_n 76 dX10_readText_75 rfl rfl ?_
          refine z_iconst 77 dX10_readText_76 rfl ?_
          refine z_icmp_lt 85 80 dX10_readText_77 (by decide) rfl (by first | omega | exact zr_b _ | exact zr_and _ _ | exact zr_or _ _ | exact zr_shl _ _) (by first | omega | exact zr_b _ | exact zr_and _ _ | exact zr_or _ _ | exact zr_shl _ _) (fun c77 => ?_) (fun c77 => ?_)
          · exfalso; omega
          · refine z_iload_n 81 dX10_readText_80 rfl rfl ?_
            refine z_iload_n 82 dX10_readText_81 rfl rfl ?_
            refine z_icmp_ge 89 85 dX10_readText_82 (by decide) rfl (by first | omega | exact zr_b _ | exact zr_and _ _ | exact zr_or _ _ | exact zr_shl _ _) (by first | omega | exact zr_b _ | exact zr_and _ _ | exact zr_or _ _ | exact zr_shl _ _) (fun c82 => ?_) (fun c82 => ?_)
            · refine z_iconst 90 dX10_readText_89 rfl ?_
              refine z_istore_n 91 dX10_readText_90 rfl (by decide) ?_
              refine z_iload_n 92 dX10_readText_91 rfl rfl ?_
              refine z_if_eq 115 95 dX10_readText_92 (by decide) rfl (by first | omega | exact zr_b _ | exact zr_and _ _ | exact zr_or _ _ | exact zr_shl _ _) (fun c92 => ?_) (fun c92 => ?_)
              · try replace c92 := zb_0 c92
                refine z_aload_n 116 dX10_readText_115 rfl rfl ?_
                refine z_iload_n 117 dX10_readText_116 rfl rfl ?_
                refine z_iload_n 118 dX10_readText_117 rfl rfl ?_
                refine z_isub 119 dX10_readText_118 rfl ?_
                refine z_iconst 120 dX10_readText_119 rfl ?_
                refine z_irem 121 dX10_readText_120 rfl (by first | omega | exact zr_b _ | exact zr_and _ _ | exact zr_or _ _ | exact zr_shl _ _) (by first | omega | exact zr_b _ | exact zr_and _ _ | exact zr_or _ _ | exact zr_shl _ _) ?_
                rw [show ((i : Int) - (3 + 2 * (q : Int))) % 3 = 0 by omega]
                refine z_aload_n 122 dX10_readText_121 rfl rfl ?_
                refine z_getf (ci := 10) 125 dX10_readText_122 rfl rfl zin_10 0 (by decide) zw_764 (by first | with_reducible assumption | with_reducible exact zup_same _ _ _) rfl ?_
                refine z_iload_n 126 dX10_readText_125 rfl rfl ?_
                refine z_iald 127 dX10_readText_126 rfl (by first | with_reducible assumption | with_reducible exact zup_same _ _ _) (by omega) (by first | omega | exact zr_b _ | exact zr_and _ _ | exact zr_or _ _ | exact zr_shl _ _) ?_
                refine z_cV2 130 dX10_readText_127 rfl kX10_takePart zw_869 (Nat.le_of_ble_eq_true rfl) ⟨Nat.le_refl _, Nat.le_refl _⟩ (by first | with_reducible assumption | with_reducible exact zup_same _ _ _) ?_
                refine c_X10_takePart0 hW hCi (by omega) (by omega) ?_
                refine z_if_ne 135 133 dX10_readText_130 (by decide) rfl (by first | omega | exact zr_b _ | exact zr_and _ _ | exact zr_or _ _ | exact zr_shl _ _) (fun c130 => ?_) (fun c130 => ?_)
                · try replace c130 := zb_1 c130
                  refine z_iinc 138 dX10_readText_135 rfl (by decide) rfl ?_
                  refine z_goto 58 dX10_readText_138 (by decide) ?_
                  exact k1 (by rw [hf, decide_eq_true c130]) _ _ _ _ _ _ _ _ hW (Or.inr (Or.inr ⟨by omega, q, hq, q1, q8, hI.p0 (by omega) hr⟩)) hF
                · try replace c130 := zb_0 c130
                  refine z_iload_n 134 dX10_readText_133 rfl rfl ?_
                  refine z_ret dX10_readText_134 (by first | exact True.intro | exact Or.inl rfl | exact Or.inr rfl | exact zb_01 _ | assumption | (show _ ∨ _; omega)) ⟨Nat.le_refl _, Nat.le_refl _⟩ ?_
                  exact k0 (by rw [hf, decide_eq_false c130]) _ _ _ _ _ _ hW hF
              · exact absurd rfl c92
            · exfalso; omega
      · have hle := hle (by omega)
        have hf : zfits C i = decide ((1 ≤ C i - 48 ∧ C i - 48 ≤ (q : Int) - 1) ∧ zkb rs (C i - 48) = false) := by
          rw [zfit4 hq (by omega), if_neg (by omega), if_pos (by omega), ejj]
          by_cases hb : 1 ≤ C i - 48 ∧ C i - 48 ≤ (q : Int) - 1
          · rw [decide_eq_true hb, hsb _ (by omega) (by omega), decide_eq_false (show ¬ C i - 48 = 0 by omega), Bool.false_or, Bool.true_and]
            cases zstb C (C i - 48) (3 + 2 * (q : Int)) ((i - (3 + 2 * q)) / 3) with
            | true => exact (decide_eq_false (fun e => absurd e.2 (by decide))).symm
            | false => exact (decide_eq_true ⟨hb, rfl⟩).symm
          · rw [decide_eq_false hb, Bool.false_and]
            exact (decide_eq_false (fun e => hb e.1)).symm
        refine z_iload_n 59 dX10_readText_58 rfl rfl ?_
        refine z_aload_n 60 dX10_readText_59 rfl rfl ?_
        refine z_getf (ci := 10) 63 dX10_readText_60 rfl rfl zin_10 1 (by decide) zw_765 (by first | with_reducible assumption | with_reducible exact zup_same _ _ _) rfl ?_
        refine z_icmp_ge 141 66 dX10_readText_63 (by decide) rfl (by first | omega | exact zr_b _ | exact zr_and _ _ | exact zr_or _ _ | exact zr_shl _ _) (by first | omega | exact zr_b _ | exact zr_and _ _ | exact zr_or _ _ | exact zr_shl _ _) (fun c63 => ?_) (fun c63 => ?_)
        · exfalso; omega
        · refine z_iconst 67 dX10_readText_66 rfl ?_
          refine z_iconst 68 dX10_readText_67 rfl ?_
          refine z_aload_n 69 dX10_readText_68 rfl rfl ?_
          refine z_getf (ci := 10) 72 dX10_readText_69 rfl rfl zin_10 20 (by decide) zw_784 (by first | with_reducible assumption | with_reducible exact zup_same _ _ _) rfl ?_
          refine z_imul 73 dX10_readText_72 rfl ?_
          refine z_iadd 74 dX10_readText_73 rfl ?_
          refine z_istore_n 75 dX10_readText_74 rfl (by decide) ?_
          refine z_iload_n 76 dX10_readText_75 rfl rfl ?_
          refine z_iconst 77 dX10_readText_76 rfl ?_
          refine z_icmp_lt 85 80 dX10_readText_77 (by decide) rfl (by first | omega | exact zr_b _ | exact zr_and _ _ | exact zr_or _ _ | exact zr_shl _ _) (by first | omega | exact zr_b _ | exact zr_and _ _ | exact zr_or _ _ | exact zr_shl _ _) (fun c77 => ?_) (fun c77 => ?_)
          · exfalso; omega
          · refine z_iload_n 81 dX10_readText_80 rfl rfl ?_
            refine z_iload_n 82 dX10_readText_81 rfl rfl ?_
            refine z_icmp_ge 89 85 dX10_readText_82 (by decide) rfl (by first | omega | exact zr_b _ | exact zr_and _ _ | exact zr_or _ _ | exact zr_shl _ _) (by first | omega | exact zr_b _ | exact zr_and _ _ | exact zr_or _ _ | exact zr_shl _ _) (fun c82 => ?_) (fun c82 => ?_)
            · refine z_iconst 90 dX10_readText_89 rfl ?_
              refine z_istore_n 91 dX10_readText_90 rfl (by decide) ?_
              refine z_iload_n 92 dX10_readText_91 rfl rfl ?_
              refine z_if_eq 115 95 dX10_readText_92 (by decide) rfl (by first | omega | exact zr_b _ | exact zr_and _ _ | exact zr_or _ _ | exact zr_shl _ _) (fun c92 => ?_) (fun c92 => ?_)
              · try replace c92 := zb_0 c92
                refine z_aload_n 116 dX10_readText_115 rfl rfl ?_
                refine z_iload_n 117 dX10_readText_116 rfl rfl ?_
                refine z_iload_n 118 dX10_readText_117 rfl rfl ?_
                refine z_isub 119 dX10_readText_118 rfl ?_
                refine z_iconst 120 dX10_readText_119 rfl ?_
                refine z_irem 121 dX10_readText_120 rfl (by first | omega | exact zr_b _ | exact zr_and _ _ | exact zr_or _ _ | exact zr_shl _ _) (by first | omega | exact zr_b _ | exact zr_and _ _ | exact zr_or _ _ | exact zr_shl _ _) ?_
                rw [show ((i : Int) - (3 + 2 * (q : Int))) % 3 = 1 by omega]
                refine z_aload_n 122 dX10_readText_121 rfl rfl ?_
                refine z_getf (ci := 10) 125 dX10_readText_122 rfl rfl zin_10 0 (by decide) zw_764 (by first | with_reducible assumption | with_reducible exact zup_same _ _ _) rfl ?_
                refine z_iload_n 126 dX10_readText_125 rfl rfl ?_
                refine z_iald 127 dX10_readText_126 rfl (by first | with_reducible assumption | with_reducible exact zup_same _ _ _) (by omega) (by first | omega | exact zr_b _ | exact zr_and _ _ | exact zr_or _ _ | exact zr_shl _ _) ?_
                refine z_cV2 130 dX10_readText_127 rfl kX10_takePart zw_869 (Nat.le_of_ble_eq_true rfl) ⟨Nat.le_refl _, Nat.le_refl _⟩ (by first | with_reducible assumption | with_reducible exact zup_same _ _ _) ?_
                refine c_X10_takePart1 hW hCi (by omega) hrs (fun h2 hW2 hF2 => ?_)
                refine z_if_ne 135 133 dX10_readText_130 (by decide) rfl (by first | omega | exact zr_b _ | exact zr_and _ _ | exact zr_or _ _ | exact zr_shl _ _) (fun c130 => ?_) (fun c130 => ?_)
                · try replace c130 := zb_1 c130
                  refine z_iinc 138 dX10_readText_135 rfl (by decide) rfl ?_
                  refine z_goto 58 dX10_readText_138 (by decide) ?_
                  exact k1 (by rw [hf, decide_eq_true c130]) _ _ _ _ _ _ _ _ hW2 (Or.inr (Or.inr ⟨by omega, q, hq, q1, q8, hI.p1 (by omega) hr⟩)) (hF.tr hF2)
                · try replace c130 := zb_0 c130
                  refine z_iload_n 134 dX10_readText_133 rfl rfl ?_
                  refine z_ret dX10_readText_134 (by first | exact True.intro | exact Or.inl rfl | exact Or.inr rfl | exact zb_01 _ | assumption | (show _ ∨ _; omega)) ⟨Nat.le_refl _, Nat.le_refl _⟩ ?_
                  exact k0 (by rw [hf, decide_eq_false c130]) _ _ _ _ _ _ hW2 (hF.tr hF2)
              · exact absurd rfl c92
            · exfalso; omega
      · have hle := hle (by omega)
        have hrw := hI.2.2.2.2.2.2.2.2.1 (by omega) hr
        have hwb : 1 ≤ rw ∧ rw ≤ (q : Int) - 1 := by
          have h1 := hfit (i - 1) (by omega)
          rw [zfit4 hq (by omega), if_neg (by omega), if_pos (by omega), Bool.and_eq_true] at h1
          have h2 := of_decide_eq_true h1.1
          rw [show ((i - 1 : Nat) : Int) = (i : Int) - 1 by omega, ← hrw] at h2
          exact h2
        have hf : zfits C i = decide ((0 ≤ C i - 48 ∧ C i - 48 ≤ (q : Int) - 1) ∧ zkb rs (C i - 48) = true) := by
          rw [zfit4 hq (by omega), if_neg (by omega), if_neg (by omega), ejj]
          by_cases hb : 0 ≤ C i - 48 ∧ C i - 48 ≤ (q : Int) - 1
          · rw [hsb _ (by omega) (by omega)]
            cases (decide (C i - 48 = 0) || zstb C (C i - 48) (3 + 2 * (q : Int)) ((i - (3 + 2 * q)) / 3)) with
            | true => exact (decide_eq_true ⟨hb, rfl⟩).symm
            | false => exact (decide_eq_false (fun e => absurd e.2 (by decide))).symm
          · rw [decide_eq_false (show ¬ ((0 ≤ C i - 48 ∧ C i - 48 ≤ (q : Int) - 1) ∧ zkb rs (C i - 48) = true) from fun e => hb e.1)]
            cases hz : (decide (C i - 48 = 0) || zstb C (C i - 48) (3 + 2 * (q : Int)) ((i - (3 + 2 * q)) / 3)) with
            | false => rfl
            | true =>
              exfalso
              rcases Bool.or_eq_true_iff.mp hz with h0 | h0
              · have := of_decide_eq_true h0; omega
              · have := zstb_rng hq (by omega) (fun j hj => hfit j (by omega)) h0; omega
        by_cases hy : (0 ≤ C i - 48 ∧ C i - 48 ≤ (q : Int) - 1) ∧ zkb rs (C i - 48) = true
        · have hf := hf.trans (decide_eq_true hy)
          refine z_iload_n 59 dX10_readText_58 rfl rfl ?_
          refine z_aload_n 60 dX10_readText_59 rfl rfl ?_
          refine z_getf (ci := 10) 63 dX10_readText_60 rfl rfl zin_10 1 (by decide) zw_765 (by first | with_reducible assumption | with_reducible exact zup_same _ _ _) rfl ?_
          refine z_icmp_ge 141 66 dX10_readText_63 (by decide) rfl (by first | omega | exact zr_b _ | exact zr_and _ _ | exact zr_or _ _ | exact zr_shl _ _) (by first | omega | exact zr_b _ | exact zr_and _ _ | exact zr_or _ _ | exact zr_shl _ _) (fun c63 => ?_) (fun c63 => ?_)
          · exfalso; omega
          · refine z_iconst 67 dX10_readText_66 rfl ?_
            refine z_iconst 68 dX10_readText_67 rfl ?_
            refine z_aload_n 69 dX10_readText_68 rfl rfl ?_
            refine z_getf (ci := 10) 72 dX10_readText_69 rfl rfl zin_10 20 (by decide) zw_784 (by first | with_reducible assumption | with_reducible exact zup_same _ _ _) rfl ?_
            refine z_imul 73 dX10_readText_72 rfl ?_
            refine z_iadd 74 dX10_readText_73 rfl ?_
            refine z_istore_n 75 dX10_readText_74 rfl (by decide) ?_
            refine z_iload_n 76 dX10_readText_75 rfl rfl ?_
            refine z_iconst 77 dX10_readText_76 rfl ?_
            refine z_icmp_lt 85 80 dX10_readText_77 (by decide) rfl (by first | omega | exact zr_b _ | exact zr_and _ _ | exact zr_or _ _ | exact zr_shl _ _) (by first | omega | exact zr_b _ | exact zr_and _ _ | exact zr_or _ _ | exact zr_shl _ _) (fun c77 => ?_) (fun c77 => ?_)
            · exfalso; omega
            · refine z_iload_n 81 dX10_readText_80 rfl rfl ?_
              refine z_iload_n 82 dX10_readText_81 rfl rfl ?_
              refine z_icmp_ge 89 85 dX10_readText_82 (by decide) rfl (by first | omega | exact zr_b _ | exact zr_and _ _ | exact zr_or _ _ | exact zr_shl _ _) (by first | omega | exact zr_b _ | exact zr_and _ _ | exact zr_or _ _ | exact zr_shl _ _) (fun c82 => ?_) (fun c82 => ?_)
              · refine z_iconst 90 dX10_readText_89 rfl ?_
                refine z_istore_n 91 dX10_readText_90 rfl (by decide) ?_
                refine z_iload_n 92 dX10_readText_91 rfl rfl ?_
                refine z_if_eq 115 95 dX10_readText_92 (by decide) rfl (by first | omega | exact zr_b _ | exact zr_and _ _ | exact zr_or _ _ | exact zr_shl _ _) (fun c92 => ?_) (fun c92 => ?_)
                · try replace c92 := zb_0 c92
                  refine z_aload_n 116 dX10_readText_115 rfl rfl ?_
                  refine z_iload_n 117 dX10_readText_116 rfl rfl ?_
                  refine z_iload_n 118 dX10_readText_117 rfl rfl ?_
                  refine z_isub 119 dX10_readText_118 rfl ?_
                  refine z_iconst 120 dX10_readText_119 rfl ?_
                  refine z_irem 121 dX10_readText_120 rfl (by first | omega | exact zr_b _ | exact zr_and _ _ | exact zr_or _ _ | exact zr_shl _ _) (by first | omega | exact zr_b _ | exact zr_and _ _ | exact zr_or _ _ | exact zr_shl _ _) ?_
                  rw [show ((i : Int) - (3 + 2 * (q : Int))) % 3 = 2 by omega]
                  refine z_aload_n 122 dX10_readText_121 rfl rfl ?_
                  refine z_getf (ci := 10) 125 dX10_readText_122 rfl rfl zin_10 0 (by decide) zw_764 (by first | with_reducible assumption | with_reducible exact zup_same _ _ _) rfl ?_
                  refine z_iload_n 126 dX10_readText_125 rfl rfl ?_
                  refine z_iald 127 dX10_readText_126 rfl (by first | with_reducible assumption | with_reducible exact zup_same _ _ _) (by omega) (by first | omega | exact zr_b _ | exact zr_and _ _ | exact zr_or _ _ | exact zr_shl _ _) ?_
                  refine z_cV2 130 dX10_readText_127 rfl kX10_takePart zw_869 (Nat.le_of_ble_eq_true rfl) ⟨Nat.le_refl _, Nat.le_refl _⟩ (by first | with_reducible assumption | with_reducible exact zup_same _ _ _) ?_
                  refine c_X10_takePart2 hW hCi (by omega) hrs hy (by omega) (by omega) (fun h2 hW2 hF2 => ?_)
                  refine z_if_ne 135 133 dX10_readText_130 (by decide) rfl (by first | omega | exact zr_b _ | exact zr_and _ _ | exact zr_or _ _ | exact zr_shl _ _) (fun c130 => ?_) (fun c130 => ?_)
                  · try replace c130 := zb_1 c130
                    refine z_iinc 138 dX10_readText_135 rfl (by decide) rfl ?_
                    refine z_goto 58 dX10_readText_138 (by decide) ?_
                    exact k1 hf _ _ _ _ _ _ _ _ hW2 (Or.inr (Or.inr ⟨by omega, q, hq, q1, q8, hI.p2 q8 (by omega) hr (by omega) (by omega)⟩)) (hF.tr hF2)
                  · exact absurd c130 (by decide)
                · exact absurd rfl c92
              · exfalso; omega
        · have hf := hf.trans (decide_eq_false hy)
          refine z_iload_n 59 dX10_readText_58 rfl rfl ?_
          refine z_aload_n 60 dX10_readText_59 rfl rfl ?_
          refine z_getf (ci := 10) 63 dX10_readText_60 rfl rfl zin_10 1 (by decide) zw_765 (by first | with_reducible assumption | with_reducible exact zup_same _ _ _) rfl ?_
          refine z_icmp_ge 141 66 dX10_readText_63 (by decide) rfl (by first | omega | exact zr_b _ | exact zr_and _ _ | exact zr_or _ _ | exact zr_shl _ _) (by first | omega | exact zr_b _ | exact zr_and _ _ | exact zr_or _ _ | exact zr_shl _ _) (fun c63 => ?_) (fun c63 => ?_)
          · exfalso; omega
          · refine z_iconst 67 dX10_readText_66 rfl ?_
            refine z_iconst 68 dX10_readText_67 rfl ?_
            refine z_aload_n 69 dX10_readText_68 rfl rfl ?_
            refine z_getf (ci := 10) 72 dX10_readText_69 rfl rfl zin_10 20 (by decide) zw_784 (by first | with_reducible assumption | with_reducible exact zup_same _ _ _) rfl ?_
            refine z_imul 73 dX10_readText_72 rfl ?_
            refine z_iadd 74 dX10_readText_73 rfl ?_
            refine z_istore_n 75 dX10_readText_74 rfl (by decide) ?_
            refine z_iload_n 76 dX10_readText_75 rfl rfl ?_
            refine z_iconst 77 dX10_readText_76 rfl ?_
            refine z_icmp_lt 85 80 dX10_readText_77 (by decide) rfl (by first | omega | exact zr_b _ | exact zr_and _ _ | exact zr_or _ _ | exact zr_shl _ _) (by first | omega | exact zr_b _ | exact zr_and _ _ | exact zr_or _ _ | exact zr_shl _ _) (fun c77 => ?_) (fun c77 => ?_)
            · exfalso; omega
            · refine z_iload_n 81 dX10_readText_80 rfl rfl ?_
              refine z_iload_n 82 dX10_readText_81 rfl rfl ?_
              refine z_icmp_ge 89 85 dX10_readText_82 (by decide) rfl (by first | omega | exact zr_b _ | exact zr_and _ _ | exact zr_or _ _ | exact zr_shl _ _) (by first | omega | exact zr_b _ | exact zr_and _ _ | exact zr_or _ _ | exact zr_shl _ _) (fun c82 => ?_) (fun c82 => ?_)
              · refine z_iconst 90 dX10_readText_89 rfl ?_
                refine z_istore_n 91 dX10_readText_90 rfl (by decide) ?_
                refine z_iload_n 92 dX10_readText_91 rfl rfl ?_
                refine z_if_eq 115 95 dX10_readText_92 (by decide) rfl (by first | omega | exact zr_b _ | exact zr_and _ _ | exact zr_or _ _ | exact zr_shl _ _) (fun c92 => ?_) (fun c92 => ?_)
                · try replace c92 := zb_0 c92
                  refine z_aload_n 116 dX10_readText_115 rfl rfl ?_
                  refine z_iload_n 117 dX10_readText_116 rfl rfl ?_
                  refine z_iload_n 118 dX10_readText_117 rfl rfl ?_
                  refine z_isub 119 dX10_readText_118 rfl ?_
                  refine z_iconst 120 dX10_readText_119 rfl ?_
                  refine z_irem 121 dX10_readText_120 rfl (by first | omega | exact zr_b _ | exact zr_and _ _ | exact zr_or _ _ | exact zr_shl _ _) (by first | omega | exact zr_b _ | exact zr_and _ _ | exact zr_or _ _ | exact zr_shl _ _) ?_
                  rw [show ((i : Int) - (3 + 2 * (q : Int))) % 3 = 2 by omega]
                  refine z_aload_n 122 dX10_readText_121 rfl rfl ?_
                  refine z_getf (ci := 10) 125 dX10_readText_122 rfl rfl zin_10 0 (by decide) zw_764 (by first | with_reducible assumption | with_reducible exact zup_same _ _ _) rfl ?_
                  refine z_iload_n 126 dX10_readText_125 rfl rfl ?_
                  refine z_iald 127 dX10_readText_126 rfl (by first | with_reducible assumption | with_reducible exact zup_same _ _ _) (by omega) (by first | omega | exact zr_b _ | exact zr_and _ _ | exact zr_or _ _ | exact zr_shl _ _) ?_
                  refine z_cV2 130 dX10_readText_127 rfl kX10_takePart zw_869 (Nat.le_of_ble_eq_true rfl) ⟨Nat.le_refl _, Nat.le_refl _⟩ (by first | with_reducible assumption | with_reducible exact zup_same _ _ _) ?_
                  refine c_X10_takePart2_no hW hCi (by omega) hrs hy ?_
                  refine z_if_ne 135 133 dX10_readText_130 (by decide) rfl (by first | omega | exact zr_b _ | exact zr_and _ _ | exact zr_or _ _ | exact zr_shl _ _) (fun c130 => ?_) (fun c130 => ?_)
                  · exact absurd rfl c130
                  · try replace c130 := zb_0 c130
                    refine z_iload_n 134 dX10_readText_133 rfl rfl ?_
                    refine z_ret dX10_readText_134 (by first | exact True.intro | exact Or.inl rfl | exact Or.inr rfl | exact zb_01 _ | assumption | (show _ ∨ _; omega)) ⟨Nat.le_refl _, Nat.le_refl _⟩ ?_
                    exact k0 hf _ _ _ _ _ _ hW hF
                · exact absurd rfl c92
              · exfalso; omega
end MTEXT2
