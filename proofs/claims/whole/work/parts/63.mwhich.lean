/-! THE MODEL: which, drawn -/
section MWHICH
variable {d : Nat} {h : zH} {Q : Option zV → zH → Prop} {C : Int → Int} {l : Int} {N M : Nat} {D G E P R DI : Int → Int} {ac nx : Int} {KP IK SW ST : Int → Int} {sd : Int} {s : zMS}
theorem zwhi_r (f : Nat → Bool) : ∀ n : Nat, -2147483648 ≤ zwhi f n ∧ zwhi f n ≤ 2147483647
  | 0 => by unfold zwhi; omega
  | n + 1 => by
    unfold zwhi
    split
    · exact zr_or _ _
    · exact zwhi_r f n
theorem m_which_no {p sn : Int} (hW : zMC h C l ((N + 1 : Nat) : Int) R DI ac nx KP IK SW ST sn sd) (hN : N ≤ 7) (hp : (-2147483648 ≤ p ∧ p ≤ 2147483647) ∧ ¬ (0 ≤ p ∧ p < N + 1)) (hQ : Q (some (vI (-1))) h) : zC (d + 4) mX10_which 0 0 [vR 112, vI p] h Q := by
  obtain ⟨TR, TI, WH, BG, OD, WO, MA, RD, rp, rs, rm, rw', hW⟩ := hW
  have w112 := hW.c112
  dsimp only [zMO, zMS.C, zMS.l, zMS.n, zMS.R, zMS.TR, zMS.DI, zMS.ac, zMS.nx, zMS.KP, zMS.IK, zMS.SW, zMS.ST, zMS.sn, zMS.sd, zMS.TI, zMS.WH, zMS.BG, zMS.OD, zMS.WO, zMS.MA, zMS.rp, zMS.RD, zMS.rs, zMS.rm, zMS.rw, zMS.uC, zMS.ul, zMS.un, zMS.uR, zMS.uTR, zMS.uDI, zMS.uac, zMS.unx, zMS.uKP, zMS.uIK, zMS.uSW, zMS.uST, zMS.usn, zMS.usd, zMS.uTI, zMS.uWH, zMS.uBG, zMS.uOD, zMS.uWO, zMS.uMA, zMS.urp, zMS.uRD, zMS.urs, zMS.urm, zMS.urw] at w112
  refine zC.of zpl_X10 (Nat.le_of_ble_eq_true rfl) ?_
  refine z_aload_n 1 dX10_which_0 rfl rfl ?_
  refine z_iload_n 2 dX10_which_1 rfl rfl ?_
  refine z_cV1 5 dX10_which_2 rfl kX10_isPerson zw_939 (Nat.le_of_ble_eq_true rfl) ⟨Nat.le_refl _, Nat.le_refl _⟩ (by first | with_reducible assumption | with_reducible exact zup_same _ _ _) ?_
  refine c_X10_isPerson hW.c112 (by show 1 ≤ ((N + 1 : Nat) : Int) ∧ ((N + 1 : Nat) : Int) ≤ 8; omega) (by omega) ?_
  rw [zb_f (by show ¬ (0 ≤ (p : Int) ∧ p < ((N + 1 : Nat) : Int)); omega)]
  refine z_if_ne 10 8 dX10_which_5 (by decide) rfl (by first | omega | exact zr_b _ | exact zr_and _ _ | exact zr_or _ _ | exact zr_shl _ _) (fun c5 => ?_) (fun c5 => ?_)
  · try replace c5 := zb_1 c5
    exact absurd rfl c5
  · try replace c5 := zb_0 c5
    refine z_iconst 9 dX10_which_8 rfl ?_
    refine z_ret dX10_which_9 (by first | exact True.intro | exact Or.inl rfl | exact Or.inr rfl | exact zb_01 _ | assumption | (show _ ∨ _; omega)) ⟨Nat.le_refl _, Nat.le_refl _⟩ ?_
    exact hQ
theorem m_which {p : Int} {sn : Nat} (hW : zMC h C l ((N + 1 : Nat) : Int) R DI ac nx KP IK SW ST sn sd) (hR : zRo N M D G E P R) (hO : zOK 9 N D G E P) (hM : 1 ≤ M ∧ M ≤ 3) (hp : 0 ≤ p ∧ p < N + 1) (hsn : sn ≤ 6) (hse : ∀ i : Nat, i < sn → -2147483648 ≤ SW i ∧ SW i ≤ 2147483647 ∧ -2147483648 ≤ ST i ∧ ST i ≤ 2147483647)
    (hQ : ∀ h' : zH, zMC h' C l ((N + 1 : Nat) : Int) R DI ac nx KP IK SW ST sn sd → zMod 112 127 h h' → Q (some (vI (zwhi (fun d => zissb SW ST (fun q => zTK (zst D p d) G E P N M q 0) ((N + 1 : Nat) : Int) sn) 9))) h') : zC (d + 4) mX10_which 0 0 [vR 112, vI p] h Q := by
  have hN := hO.1
  obtain ⟨TR, TI, WH, BG, OD, WO, MA, RD, rp, rs, rm, rw', hW⟩ := hW
  have hOj : ∀ j : Nat, 1 ≤ j → j ≤ 9 → zOK 9 N (zst D p j) G E P := fun j h1 h2 => hO.setD (by omega) (by omega)
  obtain ⟨f, hf⟩ : ∃ f : Nat → Bool, f = fun d : Nat => zissb SW ST (fun q => zTK (zst D p d) G E P N M q 0) ((N + 1 : Nat) : Int) sn := ⟨_, rfl⟩
  have inn : ∀ (i : Nat), i < 9 → ∀ (h1 : zH) (TRx TIx : Int → Int), zMW h1 (C, l, ((N + 1 : Nat) : Int), R, TRx, DI, ac, nx, KP, IK, SW, ST, (sn : Int), sd, TIx, WH, BG, OD, WO, MA, rp, RD, rs, rm, rw') → (∀ q : Int, 0 ≤ q → q ≤ N → TIx (3 * q) = zTK (zst D p ((i + 1 : Nat) : Int)) G E P N M q 0) → (∀ o4 o5 : Option zV, Z (d + 4) mX10_which zo 14 [some (vR 112), some (vI p), some (vI (zwhi f (i + 1))), some (vI ((i + 1 + 1 : Nat) : Int)), o4, o5] [] h1 Q) →
      ∀ k : Nat, k ≤ sn → Z (d + 4) mX10_which zo 54 [some (vR 112), some (vI p), some (vI (zwhi f i)), some (vI ((i + 1 : Nat) : Int)), some (vI (zb (zissb SW ST (fun q => zTK (zst D p ((i + 1 : Nat) : Int)) G E P N M q 0) ((N + 1 : Nat) : Int) k = true))), some (vI k)] [] h1 Q := by
    intro i hi h1 TRx TIx hW1 hT ih
    have w112 := hW1.c112
    dsimp only [zMO, zMS.C, zMS.l, zMS.n, zMS.R, zMS.TR, zMS.DI, zMS.ac, zMS.nx, zMS.KP, zMS.IK, zMS.SW, zMS.ST, zMS.sn, zMS.sd, zMS.TI, zMS.WH, zMS.BG, zMS.OD, zMS.WO, zMS.MA, zMS.rp, zMS.RD, zMS.rs, zMS.rm, zMS.rw, zMS.uC, zMS.ul, zMS.un, zMS.uR, zMS.uTR, zMS.uDI, zMS.uac, zMS.unx, zMS.uKP, zMS.uIK, zMS.uSW, zMS.uST, zMS.usn, zMS.usd, zMS.uTI, zMS.uWH, zMS.uBG, zMS.uOD, zMS.uWO, zMS.uMA, zMS.urp, zMS.uRD, zMS.urs, zMS.urm, zMS.urw] at w112
    have w119 := hW1.c119
    dsimp only [zMO, zMS.C, zMS.l, zMS.n, zMS.R, zMS.TR, zMS.DI, zMS.ac, zMS.nx, zMS.KP, zMS.IK, zMS.SW, zMS.ST, zMS.sn, zMS.sd, zMS.TI, zMS.WH, zMS.BG, zMS.OD, zMS.WO, zMS.MA, zMS.rp, zMS.RD, zMS.rs, zMS.rm, zMS.rw, zMS.uC, zMS.ul, zMS.un, zMS.uR, zMS.uTR, zMS.uDI, zMS.uac, zMS.unx, zMS.uKP, zMS.uIK, zMS.uSW, zMS.uST, zMS.usn, zMS.usd, zMS.uTI, zMS.uWH, zMS.uBG, zMS.uOD, zMS.uWO, zMS.uMA, zMS.urp, zMS.uRD, zMS.urs, zMS.urm, zMS.urw] at w119
    have w120 := hW1.c120
    dsimp only [zMO, zMS.C, zMS.l, zMS.n, zMS.R, zMS.TR, zMS.DI, zMS.ac, zMS.nx, zMS.KP, zMS.IK, zMS.SW, zMS.ST, zMS.sn, zMS.sd, zMS.TI, zMS.WH, zMS.BG, zMS.OD, zMS.WO, zMS.MA, zMS.rp, zMS.RD, zMS.rs, zMS.rm, zMS.rw, zMS.uC, zMS.ul, zMS.un, zMS.uR, zMS.uTR, zMS.uDI, zMS.uac, zMS.unx, zMS.uKP, zMS.uIK, zMS.uSW, zMS.uST, zMS.usn, zMS.usd, zMS.uTI, zMS.uWH, zMS.uBG, zMS.uOD, zMS.uWO, zMS.uMA, zMS.urp, zMS.uRD, zMS.urs, zMS.urm, zMS.urw] at w120
    have w121 := hW1.c121
    dsimp only [zMO, zMS.C, zMS.l, zMS.n, zMS.R, zMS.TR, zMS.DI, zMS.ac, zMS.nx, zMS.KP, zMS.IK, zMS.SW, zMS.ST, zMS.sn, zMS.sd, zMS.TI, zMS.WH, zMS.BG, zMS.OD, zMS.WO, zMS.MA, zMS.rp, zMS.RD, zMS.rs, zMS.rm, zMS.rw, zMS.uC, zMS.ul, zMS.un, zMS.uR, zMS.uTR, zMS.uDI, zMS.uac, zMS.unx, zMS.uKP, zMS.uIK, zMS.uSW, zMS.uST, zMS.usn, zMS.usd, zMS.uTI, zMS.uWH, zMS.uBG, zMS.uOD, zMS.uWO, zMS.uMA, zMS.urp, zMS.uRD, zMS.urs, zMS.urm, zMS.urw] at w121
    have hOi := hOj (i + 1) (by omega) (by omega)
    have efi : f (i + 1) = zissb SW ST (fun q => zTK (zst D p ((i + 1 : Nat) : Int)) G E P N M q 0) ((N + 1 : Nat) : Int) sn := by rw [hf]
    generalize hg : (fun q => zTK (zst D p ((i + 1 : Nat) : Int)) G E P N M q 0) = T at efi
    have hT' : ∀ q : Int, 0 ≤ q → q ≤ N → TIx (3 * q) = T q := by rw [← hg]; exact hT
    have hTb : ∀ q : Int, 0 ≤ q → q ≤ N → 0 ≤ T q ∧ T q ≤ 840 := fun q a b => by rw [← hg]; exact zTK_b hOi (by omega) hM.2 a b (by omega)
    refine z_loop sn ?_ ?_
    · have hwr := zwhi_r f i
      by_cases e : f (i + 1) = true
      · rw [show zwhi f (i + 1) = zor (zwhi f i) (zshl 1 ((i + 1 : Nat) : Int)) from if_pos e] at ih
        rw [zb_t (by rw [← efi]; exact e)]
        refine z_iload 56 dX10_which_54 rfl rfl ?_
        refine z_aload_n 57 dX10_which_56 rfl rfl ?_
        refine z_getf (ci := 10) 60 dX10_which_57 rfl rfl zin_10 12 (by decide) zw_776 (by first | with_reducible assumption | with_reducible exact zup_same _ _ _) rfl ?_
        refine z_icmp_ge 119 63 dX10_which_60 (by decide) rfl (by first | omega | exact zr_b _ | exact zr_and _ _ | exact zr_or _ _ | exact zr_shl _ _) (by first | omega | exact zr_b _ | exact zr_and _ _ | exact zr_or _ _ | exact zr_shl _ _) (fun c60 => ?_) (fun c60 => ?_)
        · refine z_iload_n 120 dX10_which_119 rfl rfl ?_
          refine z_iload 122 dX10_which_120 rfl rfl ?_
          refine z_if_eq 131 125 dX10_which_122 (by decide) rfl (by first | omega | exact zr_b _ | exact zr_and _ _ | exact zr_or _ _ | exact zr_shl _ _) (fun c122 => ?_) (fun c122 => ?_)
          · exact absurd c122 (by decide)
          · try replace c122 := zb_1 c122
            refine z_iconst 126 dX10_which_125 rfl ?_
            refine z_iload_n 127 dX10_which_126 rfl rfl ?_
            refine z_ishl 128 dX10_which_127 rfl ?_
            refine z_goto 132 dX10_which_128 (by decide) ?_
            refine z_ior 133 dX10_which_132 rfl ?_
            refine z_istore_n 134 dX10_which_133 rfl (by decide) ?_
            refine z_iinc 137 dX10_which_134 rfl (by decide) rfl ?_
            refine z_goto 14 dX10_which_137 (by decide) ?_
            exact ih _ _
        · exfalso; omega
      · rw [show zwhi f (i + 1) = zwhi f i from if_neg e] at ih
        rw [zb_f (by rw [← efi]; exact e)]
        refine z_iload 56 dX10_which_54 rfl rfl ?_
        refine z_aload_n 57 dX10_which_56 rfl rfl ?_
        refine z_getf (ci := 10) 60 dX10_which_57 rfl rfl zin_10 12 (by decide) zw_776 (by first | with_reducible assumption | with_reducible exact zup_same _ _ _) rfl ?_
        refine z_icmp_ge 119 63 dX10_which_60 (by decide) rfl (by first | omega | exact zr_b _ | exact zr_and _ _ | exact zr_or _ _ | exact zr_shl _ _) (by first | omega | exact zr_b _ | exact zr_and _ _ | exact zr_or _ _ | exact zr_shl _ _) (fun c60 => ?_) (fun c60 => ?_)
        · refine z_iload_n 120 dX10_which_119 rfl rfl ?_
          refine z_iload 122 dX10_which_120 rfl rfl ?_
          refine z_if_eq 131 125 dX10_which_122 (by decide) rfl (by first | omega | exact zr_b _ | exact zr_and _ _ | exact zr_or _ _ | exact zr_shl _ _) (fun c122 => ?_) (fun c122 => ?_)
          · try replace c122 := zb_0 c122
            refine z_iconst 132 dX10_which_131 rfl ?_
            refine z_ior 133 dX10_which_132 rfl ?_
            refine z_istore_n 134 dX10_which_133 rfl (by decide) ?_
            refine z_iinc 137 dX10_which_134 rfl (by decide) rfl ?_
            refine z_goto 14 dX10_which_137 (by decide) ?_
            rw [zor_z hwr]
            exact ih _ _
          · exact absurd rfl c122
        · exfalso; omega
    · intro k hk ihk
      have hs := hse k hk
      have nx1 : zissb SW ST T ((N + 1 : Nat) : Int) (k + 1) = true → Z (d + 4) mX10_which zo 54 [some (vR 112), some (vI p), some (vI (zwhi f i)), some (vI ((i + 1 : Nat) : Int)), some (vI 1), some (vI ((k : Int) + 1))] [] h1 Q := fun e => by rw [zb_t e] at ihk; exact ihk
      have nx0 : zissb SW ST T ((N + 1 : Nat) : Int) (k + 1) = false → Z (d + 4) mX10_which zo 54 [some (vR 112), some (vI p), some (vI (zwhi f i)), some (vI ((i + 1 : Nat) : Int)), some (vI 0), some (vI ((k : Int) + 1))] [] h1 Q := fun e => by rw [zb_f (by rw [e]; decide)] at ihk; exact ihk
      have eu : zissb SW ST T ((N + 1 : Nat) : Int) (k + 1) = (zissb SW ST T ((N + 1 : Nat) : Int) k && (!decide (0 ≤ SW k ∧ SW k < ((N + 1 : Nat) : Int)) || decide (T (SW k) = ST k))) := rfl
      refine z_iload 56 dX10_which_54 rfl rfl ?_
      refine z_aload_n 57 dX10_which_56 rfl rfl ?_
      refine z_getf (ci := 10) 60 dX10_which_57 rfl rfl zin_10 12 (by decide) zw_776 (by first | with_reducible assumption | with_reducible exact zup_same _ _ _) rfl ?_
      refine z_icmp_ge 119 63 dX10_which_60 (by decide) rfl (by first | omega | exact zr_b _ | exact zr_and _ _ | exact zr_or _ _ | exact zr_shl _ _) (by first | omega | exact zr_b _ | exact zr_and _ _ | exact zr_or _ _ | exact zr_shl _ _) (fun c60 => ?_) (fun c60 => ?_)
      · exfalso; omega
      · refine z_iload 65 dX10_which_63 rfl rfl ?_
        refine z_if_eq 110 68 dX10_which_65 (by decide) rfl (by first | omega | exact zr_b _ | exact zr_and _ _ | exact zr_or _ _ | exact zr_shl _ _) (fun c65 => ?_) (fun c65 => ?_)
        · try replace c65 := zb_0 c65
          have hz : zissb SW ST T ((N + 1 : Nat) : Int) (k + 1) = false := by rw [eu, Bool.eq_false_iff.mpr c65]; rfl
          refine z_iconst 111 dX10_which_110 rfl ?_
          refine z_istore 113 dX10_which_111 rfl (by decide) ?_
          refine z_iinc 116 dX10_which_113 rfl (by decide) rfl ?_
          refine z_goto 54 dX10_which_116 (by decide) ?_
          first | exact nx1 hz | exact nx0 hz
        · try replace c65 := zb_1 c65
          refine z_aload_n 69 dX10_which_68 rfl rfl ?_
          refine z_aload_n 70 dX10_which_69 rfl rfl ?_
          refine z_getf (ci := 10) 73 dX10_which_70 rfl rfl zin_10 10 (by decide) zw_774 (by first | with_reducible assumption | with_reducible exact zup_same _ _ _) rfl ?_
          refine z_iload 75 dX10_which_73 rfl rfl ?_
          refine z_iald 76 dX10_which_75 rfl (by first | with_reducible assumption | with_reducible exact zup_same _ _ _) (by omega) (by first | omega | exact zr_b _ | exact zr_and _ _ | exact zr_or _ _ | exact zr_shl _ _) ?_
          refine z_cV1 79 dX10_which_76 rfl kX10_isPerson zw_939 (Nat.le_of_ble_eq_true rfl) ⟨Nat.le_refl _, Nat.le_refl _⟩ (by first | with_reducible assumption | with_reducible exact zup_same _ _ _) ?_
          refine c_X10_isPerson hW1.c112 (by show 1 ≤ ((N + 1 : Nat) : Int) ∧ ((N + 1 : Nat) : Int) ≤ 8; omega) (by omega) ?_
          refine z_if_eq 106 82 dX10_which_79 (by decide) rfl (by first | omega | exact zr_b _ | exact zr_and _ _ | exact zr_or _ _ | exact zr_shl _ _) (fun c79 => ?_) (fun c79 => ?_)
          · try replace c79 := zb_0 c79
            have c79 : ¬ (0 ≤ SW k ∧ SW k < ((N + 1 : Nat) : Int)) := c79
            have hz : zissb SW ST T ((N + 1 : Nat) : Int) (k + 1) = true := by rw [eu, c65, decide_eq_false c79]; rfl
            refine z_iconst 107 dX10_which_106 rfl ?_
            refine z_goto 111 dX10_which_107 (by decide) ?_
            refine z_istore 113 dX10_which_111 rfl (by decide) ?_
            refine z_iinc 116 dX10_which_113 rfl (by decide) rfl ?_
            refine z_goto 54 dX10_which_116 (by decide) ?_
            first | exact nx1 hz | exact nx0 hz
          · try replace c79 := zb_1 c79
            have c79 : 0 ≤ SW k ∧ SW k < ((N + 1 : Nat) : Int) := c79
            have e3 := hT' (SW k) c79.1 (by omega)
            have e4 := hTb (SW k) c79.1 (by omega)
            refine z_aload_n 83 dX10_which_82 rfl rfl ?_
            refine z_getf (ci := 10) 86 dX10_which_83 rfl rfl zin_10 14 (by decide) zw_778 (by first | with_reducible assumption | with_reducible exact zup_same _ _ _) rfl ?_
            refine z_iconst 87 dX10_which_86 rfl ?_
            refine z_aload_n 88 dX10_which_87 rfl rfl ?_
            refine z_getf (ci := 10) 91 dX10_which_88 rfl rfl zin_10 10 (by decide) zw_774 (by first | with_reducible assumption | with_reducible exact zup_same _ _ _) rfl ?_
            refine z_iload 93 dX10_which_91 rfl rfl ?_
            refine z_iald 94 dX10_which_93 rfl (by first | with_reducible assumption | with_reducible exact zup_same _ _ _) (by omega) (by first | omega | exact zr_b _ | exact zr_and _ _ | exact zr_or _ _ | exact zr_shl _ _) ?_
            refine z_imul 95 dX10_which_94 rfl ?_
            refine z_iald 96 dX10_which_95 rfl (by first | with_reducible assumption | with_reducible exact zup_same _ _ _) (by omega) (by first | omega | exact zr_b _ | exact zr_and _ _ | exact zr_or _ _ | exact zr_shl _ _) ?_
            rw [e3]
            refine z_aload_n 97 dX10_which_96 rfl rfl ?_
            refine z_getf (ci := 10) 100 dX10_which_97 rfl rfl zin_10 11 (by decide) zw_775 (by first | with_reducible assumption | with_reducible exact zup_same _ _ _) rfl ?_
            refine z_iload 102 dX10_which_100 rfl rfl ?_
            refine z_iald 103 dX10_which_102 rfl (by first | with_reducible assumption | with_reducible exact zup_same _ _ _) (by omega) (by first | omega | exact zr_b _ | exact zr_and _ _ | exact zr_or _ _ | exact zr_shl _ _) ?_
            refine z_icmp_ne 110 106 dX10_which_103 (by decide) rfl (by first | omega | exact zr_b _ | exact zr_and _ _ | exact zr_or _ _ | exact zr_shl _ _) (by first | omega | exact zr_b _ | exact zr_and _ _ | exact zr_or _ _ | exact zr_shl _ _) (fun c103 => ?_) (fun c103 => ?_)
            · have hz : zissb SW ST T ((N + 1 : Nat) : Int) (k + 1) = false := by rw [eu, c65, decide_eq_true c79, decide_eq_false c103]; rfl
              refine z_iconst 111 dX10_which_110 rfl ?_
              refine z_istore 113 dX10_which_111 rfl (by decide) ?_
              refine z_iinc 116 dX10_which_113 rfl (by decide) rfl ?_
              refine z_goto 54 dX10_which_116 (by decide) ?_
              first | exact nx1 hz | exact nx0 hz
            · have hz : zissb SW ST T ((N + 1 : Nat) : Int) (k + 1) = true := by rw [eu, c65, decide_eq_true c79, decide_eq_true (by omega)]; rfl
              refine z_iconst 107 dX10_which_106 rfl ?_
              refine z_goto 111 dX10_which_107 (by decide) ?_
              refine z_istore 113 dX10_which_111 rfl (by decide) ?_
              refine z_iinc 116 dX10_which_113 rfl (by decide) rfl ?_
              refine z_goto 54 dX10_which_116 (by decide) ?_
              first | exact nx1 hz | exact nx0 hz
  have key : ∀ i : Nat, i ≤ 9 → ∀ (h' : zH) (TRx TIx : Int → Int) (o4 o5 : Option zV), zMW h' (C, l, ((N + 1 : Nat) : Int), R, TRx, DI, ac, nx, KP, IK, SW, ST, (sn : Int), sd, TIx, WH, BG, OD, WO, MA, rp, RD, rs, rm, rw') → zMod 112 127 h h' → Z (d + 4) mX10_which zo 14 [some (vR 112), some (vI p), some (vI (zwhi f i)), some (vI ((i + 1 : Nat) : Int)), o4, o5] [] h' Q := by
    refine z_loop 9 ?_ ?_
    · intro h' TRx TIx o4 o5 hW' hF
      refine z_iload_n 15 dX10_which_14 rfl rfl ?_
      refine z_bipush 17 dX10_which_15 rfl (by decide) ?_
      refine z_icmp_ge 140 20 dX10_which_17 (by decide) rfl (by first | omega | exact zr_b _ | exact zr_and _ _ | exact zr_or _ _ | exact zr_shl _ _) (by first | omega | exact zr_b _ | exact zr_and _ _ | exact zr_or _ _ | exact zr_shl _ _) (fun c17 => ?_) (fun c17 => ?_)
      · refine z_iload_n 141 dX10_which_140 rfl rfl ?_
        refine z_ret dX10_which_141 (by first | exact True.intro | exact Or.inl rfl | exact Or.inr rfl | exact zb_01 _ | assumption | (show _ ∨ _; omega)) ⟨Nat.le_refl _, Nat.le_refl _⟩ ?_
        rw [hf]; exact hQ _ hW'.mc hF
      · exfalso; omega
    · intro i hi ih h' TRx TIx o4 o5 hW' hF
      have hO1 := hOj (i + 1) (by omega) (by omega)
      have w112 := hW'.c112
      dsimp only [zMO, zMS.C, zMS.l, zMS.n, zMS.R, zMS.TR, zMS.DI, zMS.ac, zMS.nx, zMS.KP, zMS.IK, zMS.SW, zMS.ST, zMS.sn, zMS.sd, zMS.TI, zMS.WH, zMS.BG, zMS.OD, zMS.WO, zMS.MA, zMS.rp, zMS.RD, zMS.rs, zMS.rm, zMS.rw, zMS.uC, zMS.ul, zMS.un, zMS.uR, zMS.uTR, zMS.uDI, zMS.uac, zMS.unx, zMS.uKP, zMS.uIK, zMS.uSW, zMS.uST, zMS.usn, zMS.usd, zMS.uTI, zMS.uWH, zMS.uBG, zMS.uOD, zMS.uWO, zMS.uMA, zMS.urp, zMS.uRD, zMS.urs, zMS.urm, zMS.urw] at w112
      have w114 := hW'.c114
      dsimp only [zMO, zMS.C, zMS.l, zMS.n, zMS.R, zMS.TR, zMS.DI, zMS.ac, zMS.nx, zMS.KP, zMS.IK, zMS.SW, zMS.ST, zMS.sn, zMS.sd, zMS.TI, zMS.WH, zMS.BG, zMS.OD, zMS.WO, zMS.MA, zMS.rp, zMS.RD, zMS.rs, zMS.rm, zMS.rw, zMS.uC, zMS.ul, zMS.un, zMS.uR, zMS.uTR, zMS.uDI, zMS.uac, zMS.unx, zMS.uKP, zMS.uIK, zMS.uSW, zMS.uST, zMS.usn, zMS.usd, zMS.uTI, zMS.uWH, zMS.uBG, zMS.uOD, zMS.uWO, zMS.uMA, zMS.urp, zMS.uRD, zMS.urs, zMS.urm, zMS.urw] at w114
      have w115 := hW'.c115
      dsimp only [zMO, zMS.C, zMS.l, zMS.n, zMS.R, zMS.TR, zMS.DI, zMS.ac, zMS.nx, zMS.KP, zMS.IK, zMS.SW, zMS.ST, zMS.sn, zMS.sd, zMS.TI, zMS.WH, zMS.BG, zMS.OD, zMS.WO, zMS.MA, zMS.rp, zMS.RD, zMS.rs, zMS.rm, zMS.rw, zMS.uC, zMS.ul, zMS.un, zMS.uR, zMS.uTR, zMS.uDI, zMS.uac, zMS.unx, zMS.uKP, zMS.uIK, zMS.uSW, zMS.uST, zMS.usn, zMS.usd, zMS.uTI, zMS.uWH, zMS.uBG, zMS.uOD, zMS.uWO, zMS.uMA, zMS.urp, zMS.uRD, zMS.urs, zMS.urm, zMS.urw] at w115
      refine z_iload_n 15 dX10_which_14 rfl rfl ?_
      refine z_bipush 17 dX10_which_15 rfl (by decide) ?_
      refine z_icmp_ge 140 20 dX10_which_17 (by decide) rfl (by first | omega | exact zr_b _ | exact zr_and _ _ | exact zr_or _ _ | exact zr_shl _ _) (by first | omega | exact zr_b _ | exact zr_and _ _ | exact zr_or _ _ | exact zr_shl _ _) (fun c17 => ?_) (fun c17 => ?_)
      · exfalso; omega
      · refine z_aload_n 21 dX10_which_20 rfl rfl ?_
        refine z_getf (ci := 10) 24 dX10_which_21 rfl rfl zin_10 3 (by decide) zw_767 (by first | with_reducible assumption | with_reducible exact zup_same _ _ _) rfl ?_
        refine z_aload_n 25 dX10_which_24 rfl rfl ?_
        refine z_getf (ci := 10) 28 dX10_which_25 rfl rfl zin_10 4 (by decide) zw_768 (by first | with_reducible assumption | with_reducible exact zup_same _ _ _) rfl ?_
        refine z_cS2 31 dX10_which_28 rfl kX10_copy zw_880 (Nat.le_of_ble_eq_true rfl) ⟨Nat.le_refl _, Nat.le_refl _⟩ ?_
        refine c_X10_copy (by decide) w114 w115 (fun F' hF' => ?_)
        have hW1 := hW'.s115 F'
        have w112 := hW1.c112
        dsimp only [zMO, zMS.C, zMS.l, zMS.n, zMS.R, zMS.TR, zMS.DI, zMS.ac, zMS.nx, zMS.KP, zMS.IK, zMS.SW, zMS.ST, zMS.sn, zMS.sd, zMS.TI, zMS.WH, zMS.BG, zMS.OD, zMS.WO, zMS.MA, zMS.rp, zMS.RD, zMS.rs, zMS.rm, zMS.rw, zMS.uC, zMS.ul, zMS.un, zMS.uR, zMS.uTR, zMS.uDI, zMS.uac, zMS.unx, zMS.uKP, zMS.uIK, zMS.uSW, zMS.uST, zMS.usn, zMS.usd, zMS.uTI, zMS.uWH, zMS.uBG, zMS.uOD, zMS.uWO, zMS.uMA, zMS.urp, zMS.uRD, zMS.urs, zMS.urm, zMS.urw] at w112
        have w115 := hW1.c115
        dsimp only [zMO, zMS.C, zMS.l, zMS.n, zMS.R, zMS.TR, zMS.DI, zMS.ac, zMS.nx, zMS.KP, zMS.IK, zMS.SW, zMS.ST, zMS.sn, zMS.sd, zMS.TI, zMS.WH, zMS.BG, zMS.OD, zMS.WO, zMS.MA, zMS.rp, zMS.RD, zMS.rs, zMS.rm, zMS.rw, zMS.uC, zMS.ul, zMS.un, zMS.uR, zMS.uTR, zMS.uDI, zMS.uac, zMS.unx, zMS.uKP, zMS.uIK, zMS.uSW, zMS.uST, zMS.usn, zMS.usd, zMS.uTI, zMS.uWH, zMS.uBG, zMS.uOD, zMS.uWO, zMS.uMA, zMS.urp, zMS.uRD, zMS.urs, zMS.urm, zMS.urw] at w115
        refine z_aload_n 32 dX10_which_31 rfl rfl ?_
        refine z_getf (ci := 10) 35 dX10_which_32 rfl rfl zin_10 4 (by decide) zw_768 (by first | with_reducible assumption | with_reducible exact zup_same _ _ _) rfl ?_
        refine z_iconst 36 dX10_which_35 rfl ?_
        refine z_iload_n 37 dX10_which_36 rfl rfl ?_
        refine z_iadd 38 dX10_which_37 rfl ?_
        refine z_iload_n 39 dX10_which_38 rfl rfl ?_
        refine z_iast 40 dX10_which_39 rfl (by omega) (by first | with_reducible assumption | with_reducible exact zup_same _ _ _) (by omega) (by first | omega | exact zr_b _ | exact zr_and _ _ | exact zr_or _ _ | exact zr_shl _ _) ?_
        rw [zup_zup]
        have hW2 := hW'.s115 (zst F' (1 + p) ((i + 1 : Nat) : Int))
        have w112 := hW2.c112
        dsimp only [zMO, zMS.C, zMS.l, zMS.n, zMS.R, zMS.TR, zMS.DI, zMS.ac, zMS.nx, zMS.KP, zMS.IK, zMS.SW, zMS.ST, zMS.sn, zMS.sd, zMS.TI, zMS.WH, zMS.BG, zMS.OD, zMS.WO, zMS.MA, zMS.rp, zMS.RD, zMS.rs, zMS.rm, zMS.rw, zMS.uC, zMS.ul, zMS.un, zMS.uR, zMS.uTR, zMS.uDI, zMS.uac, zMS.unx, zMS.uKP, zMS.uIK, zMS.uSW, zMS.uST, zMS.usn, zMS.usd, zMS.uTI, zMS.uWH, zMS.uBG, zMS.uOD, zMS.uWO, zMS.uMA, zMS.urp, zMS.uRD, zMS.urs, zMS.urm, zMS.urw] at w112
        refine z_aload_n 41 dX10_which_40 rfl rfl ?_
        refine z_aload_n 42 dX10_which_41 rfl rfl ?_
        refine z_getf (ci := 10) 45 dX10_which_42 rfl rfl zin_10 4 (by decide) zw_768 (by first | with_reducible assumption | with_reducible exact zup_same _ _ _) rfl ?_
        refine z_cV1 48 dX10_which_45 rfl kX10_layTicks zw_891 (Nat.le_of_ble_eq_true rfl) ⟨Nat.le_refl _, Nat.le_refl _⟩ (by first | with_reducible assumption | with_reducible exact zup_same _ _ _) ?_
        refine c_X10_layTicks hW2.c112 rfl (zup_same _ _ _) (by decide) hW2.c121 (hR.setD hF' hN (p := p) (v := ((i + 1 : Nat) : Int)) (by omega)) hO1 (by decide) hM.2 (fun T' hT => ?_)
        have hW3 := hW2.s121 T'
        refine z_iconst 49 dX10_which_48 rfl ?_
        refine z_istore 51 dX10_which_49 rfl (by decide) ?_
        refine z_iconst 52 dX10_which_51 rfl ?_
        refine z_istore 54 dX10_which_52 rfl (by decide) ?_
        have k := inn i hi _ _ T' hW3 (fun q a b => by have := hT q 0 a b (by omega); rw [← this]; congr 1; omega) (fun o4 o5 => ih _ _ _ o4 o5 hW3 ((hF.up _ (by omega)).up _ (by omega))) 0 (Nat.zero_le _)
        rw [zb_t (show zissb SW ST (fun q => zTK (zst D p ((i + 1 : Nat) : Int)) G E P N M q 0) ((N + 1 : Nat) : Int) 0 = true from rfl)] at k
        exact k
  have w112 := hW.c112
  dsimp only [zMO, zMS.C, zMS.l, zMS.n, zMS.R, zMS.TR, zMS.DI, zMS.ac, zMS.nx, zMS.KP, zMS.IK, zMS.SW, zMS.ST, zMS.sn, zMS.sd, zMS.TI, zMS.WH, zMS.BG, zMS.OD, zMS.WO, zMS.MA, zMS.rp, zMS.RD, zMS.rs, zMS.rm, zMS.rw, zMS.uC, zMS.ul, zMS.un, zMS.uR, zMS.uTR, zMS.uDI, zMS.uac, zMS.unx, zMS.uKP, zMS.uIK, zMS.uSW, zMS.uST, zMS.usn, zMS.usd, zMS.uTI, zMS.uWH, zMS.uBG, zMS.uOD, zMS.uWO, zMS.uMA, zMS.urp, zMS.uRD, zMS.urs, zMS.urm, zMS.urw] at w112
  refine zC.of zpl_X10 (Nat.le_of_ble_eq_true rfl) ?_
  refine z_aload_n 1 dX10_which_0 rfl rfl ?_
  refine z_iload_n 2 dX10_which_1 rfl rfl ?_
  refine z_cV1 5 dX10_which_2 rfl kX10_isPerson zw_939 (Nat.le_of_ble_eq_true rfl) ⟨Nat.le_refl _, Nat.le_refl _⟩ (by first | with_reducible assumption | with_reducible exact zup_same _ _ _) ?_
  refine c_X10_isPerson hW.c112 (by show 1 ≤ ((N + 1 : Nat) : Int) ∧ ((N + 1 : Nat) : Int) ≤ 8; omega) (by omega) ?_
  rw [zb_t (by show 0 ≤ (p : Int) ∧ p < ((N + 1 : Nat) : Int); omega)]
  refine z_if_ne 10 8 dX10_which_5 (by decide) rfl (by first | omega | exact zr_b _ | exact zr_and _ _ | exact zr_or _ _ | exact zr_shl _ _) (fun c5 => ?_) (fun c5 => ?_)
  · try replace c5 := zb_1 c5
    refine z_iconst 11 dX10_which_10 rfl ?_
    refine z_istore_n 12 dX10_which_11 rfl (by decide) ?_
    refine z_iconst 13 dX10_which_12 rfl ?_
    refine z_istore_n 14 dX10_which_13 rfl (by decide) ?_
    exact key 0 (Nat.zero_le _) _ _ _ _ _ hW (zMod.rf _ _ h)
  · exact absurd c5 (by decide)
theorem c_X10_power {x : Int} {n : Nat} (hn : n ≤ 100) (hQ : Q (some (vI (x ^ n))) h) : zC d mX10_power 0 0 [vI x, vI n] h Q := by
  have key : ∀ i : Nat, i ≤ n → Z d mX10_power zo 4 [some (vI x), some (vI n), some (vI (x ^ i)), some (vI i)] [] h Q := by
    refine z_loop n ?_ ?_
    · refine z_iload_n 5 dX10_power_4 rfl rfl ?_
      refine z_iload_n 6 dX10_power_5 rfl rfl ?_
      refine z_icmp_ge 19 9 dX10_power_6 (by decide) rfl (by first | omega | exact zr_b _ | exact zr_and _ _ | exact zr_or _ _ | exact zr_shl _ _) (by first | omega | exact zr_b _ | exact zr_and _ _ | exact zr_or _ _ | exact zr_shl _ _) (fun c6 => ?_) (fun c6 => ?_)
      · refine z_iload_n 20 dX10_power_19 rfl rfl ?_
        refine z_ret dX10_power_20 (by first | exact True.intro | exact Or.inl rfl | exact Or.inr rfl | exact zb_01 _ | assumption | (show _ ∨ _; omega)) ⟨Nat.le_refl _, Nat.le_refl _⟩ ?_
        exact hQ
      · exfalso; omega
    · intro i hi ih
      refine z_iload_n 5 dX10_power_4 rfl rfl ?_
      refine z_iload_n 6 dX10_power_5 rfl rfl ?_
      refine z_icmp_ge 19 9 dX10_power_6 (by decide) rfl (by first | omega | exact zr_b _ | exact zr_and _ _ | exact zr_or _ _ | exact zr_shl _ _) (by first | omega | exact zr_b _ | exact zr_and _ _ | exact zr_or _ _ | exact zr_shl _ _) (fun c6 => ?_) (fun c6 => ?_)
      · exfalso; omega
      · refine z_iload_n 10 dX10_power_9 rfl rfl ?_
        refine z_iload_n 11 dX10_power_10 rfl rfl ?_
        refine z_imul 12 dX10_power_11 rfl ?_
        rw [← Int.pow_succ]
        refine z_istore_n 13 dX10_power_12 rfl (by decide) ?_
        refine z_iinc 16 dX10_power_13 rfl (by decide) rfl ?_
        refine z_goto 4 dX10_power_16 (by decide) ?_
        exact ih
  refine zC.of zpl_X10 (Nat.le_of_ble_eq_true rfl) ?_
  refine z_iconst 1 dX10_power_0 rfl ?_
  refine z_istore_n 2 dX10_power_1 rfl (by decide) ?_
  refine z_iconst 3 dX10_power_2 rfl ?_
  refine z_istore_n 4 dX10_power_3 rfl (by decide) ?_
  have k := key 0 (Nat.zero_le _)
  rw [Int.pow_zero] at k
  exact k
theorem zr9_eq (v : Int) : ∀ k : Nat, zr9 v k = v / 9 ^ k
  | 0 => by unfold zr9; simp
  | k + 1 => by
    unfold zr9
    rw [zr9_eq v k, Int.ediv_ediv_of_nonneg (Int.pow_nonneg (by omega)), Int.pow_succ]
theorem m_drawn_bad {m : Int} (hm : (-2147483648 ≤ m ∧ m ≤ 2147483647) ∧ ¬ (1 ≤ m ∧ m ≤ 40)) (hQ : Q (some (vI (-2))) h) : zC (d + 4) mX10_drawn 0 0 [vR 112, vI m] h Q := by
  refine zC.of zpl_X10 (Nat.le_of_ble_eq_true rfl) ?_
  refine z_iload_n 1 dX10_drawn_0 rfl rfl ?_
  refine z_i2l 2 dX10_drawn_1 rfl (by first | omega | exact zr_b _ | exact zr_and _ _ | exact zr_or _ _ | exact zr_shl _ _) ?_
  refine z_lconst 3 dX10_drawn_2 rfl ?_
  refine z_ldc2 (x := 40) 6 dX10_drawn_3 rfl zw_1102 ?_
  refine z_cS3 9 dX10_drawn_6 rfl kX10_in zw_846 (Nat.le_of_ble_eq_true rfl) ⟨Nat.le_refl _, Nat.le_refl _⟩ ?_
  refine c_X10_in (a := 1) (by omega) (by omega) (by omega) ?_
  rw [zb_f (by omega)]
  refine z_if_ne 15 12 dX10_drawn_9 (by decide) rfl (by first | omega | exact zr_b _ | exact zr_and _ _ | exact zr_or _ _ | exact zr_shl _ _) (fun c9 => ?_) (fun c9 => ?_)
  · try replace c9 := zb_1 c9
    exact absurd rfl c9
  · try replace c9 := zb_0 c9
    refine z_bipush 14 dX10_drawn_12 rfl (by decide) ?_
    refine z_ret dX10_drawn_14 (by first | exact True.intro | exact Or.inl rfl | exact Or.inr rfl | exact zb_01 _ | assumption | (show _ ∨ _; omega)) ⟨Nat.le_refl _, Nat.le_refl _⟩ ?_
    exact hQ
theorem zRo.dl (hR : zRo N M D G E P R) (hN : N ≤ 7) {v : Int} {F : Int → Int} (h1 : ∀ q : Int, 0 ≤ q → q ≤ N → F (1 + q) = zdl v q) (h2 : ∀ q : Int, 0 ≤ q → q < 33 → (q < 1 ∨ 9 ≤ q) → F q = R q) : zRo N M (zdl v) G E P F := by
  obtain ⟨r0, r1, r2, r3⟩ := hR
  refine ⟨?_, fun q q0 q1 => ⟨h1 q q0 q1, ?_⟩, fun q q0 q1 => ?_, fun k hk => ?_⟩
  · rw [h2 _ (by omega) (by omega) (by omega)]; exact r0
  · rw [h2 _ (by omega) (by omega) (by omega)]; exact (r1 q q0 q1).2
  · rw [h2 _ (by omega) (by omega) (by omega)]; exact r2 q q0 q1
  · rw [h2 _ (by omega) (by omega) (by omega)]; exact r3 k hk
theorem m_drawn {m : Nat} {sn : Int} (hW : zMC h C l ((N + 1 : Nat) : Int) R DI ac nx KP IK SW ST sn sd) (hR : zRo N M D G E P R) (hO : zOK 9 N D G E P) (hM : M ≤ 3) (hm : 1 ≤ m ∧ m ≤ 40) (hQ : ∀ h' : zH, zMC h' C l ((N + 1 : Nat) : Int) R DI ac nx KP IK SW ST sn (zsd sd m) → zMod 112 127 h h' → Q (some (vI (zdrn G E P N M sd m))) h') : zC (d + 4) mX10_drawn 0 0 [vR 112, vI m] h Q := by
  have hN := hO.1
  obtain ⟨TR, TI, WH, BG, OD, WO, MA, RD, rp, rs, rm, rw', hW⟩ := hW
  have inn : ∀ (h1 : zH) (TRx TIx : Int → Int) (sdx sum v : Int) (kk : Nat), zMW h1 (C, l, ((N + 1 : Nat) : Int), R, TRx, DI, ac, nx, KP, IK, SW, ST, sn, sdx, TIx, WH, BG, OD, WO, MA, rp, RD, rs, rm, rw') → zMod 112 127 h h1 → (0 ≤ v ∧ v ≤ 2147483647) → (∀ (h2 : zH) (TR2 TI2 : Int → Int) (o4 o5 : Option zV), zMW h2 (C, l, ((N + 1 : Nat) : Int), R, TR2, DI, ac, nx, KP, IK, SW, ST, sn, sdx, TI2, WH, BG, OD, WO, MA, rp, RD, rs, rm, rw') → zMod 112 127 h h2 → Z (d + 4) mX10_drawn zo 19 [some (vR 112), some (vI m), some (vI (sum + zLAST (zdl v) G E P N M)), some (vI ((kk + 1 : Nat) : Int)), o4, o5] [] h2 Q) →
      ∀ i : Nat, i ≤ N + 1 → ∀ F : Int → Int, (∀ q : Int, 0 ≤ q → q < i → F (1 + q) = zdl v q) → (∀ q : Int, 0 ≤ q → q < 33 → (q < 1 ∨ 9 ≤ q) → F q = R q) → Z (d + 4) mX10_drawn zo 64 [some (vR 112), some (vI m), some (vI sum), some (vI kk), some (vI v), some (vI i)] [] (zup h1 115 (zI 33 F)) Q := by
    intro h1 TRx TIx sdx sum v kk hW1 hF1 hv cont
    refine z_loop (N + 1) ?_ ?_
    · intro F k1 k2
      have hW2 := hW1.s115 F
      have hO' : zOK 9 N (zdl v) G E P := zdl_ok hO
      have w112 := hW2.c112
      dsimp only [zMO, zMS.C, zMS.l, zMS.n, zMS.R, zMS.TR, zMS.DI, zMS.ac, zMS.nx, zMS.KP, zMS.IK, zMS.SW, zMS.ST, zMS.sn, zMS.sd, zMS.TI, zMS.WH, zMS.BG, zMS.OD, zMS.WO, zMS.MA, zMS.rp, zMS.RD, zMS.rs, zMS.rm, zMS.rw, zMS.uC, zMS.ul, zMS.un, zMS.uR, zMS.uTR, zMS.uDI, zMS.uac, zMS.unx, zMS.uKP, zMS.uIK, zMS.uSW, zMS.uST, zMS.usn, zMS.usd, zMS.uTI, zMS.uWH, zMS.uBG, zMS.uOD, zMS.uWO, zMS.uMA, zMS.urp, zMS.uRD, zMS.urs, zMS.urm, zMS.urw] at w112
      have w115 := hW2.c115
      dsimp only [zMO, zMS.C, zMS.l, zMS.n, zMS.R, zMS.TR, zMS.DI, zMS.ac, zMS.nx, zMS.KP, zMS.IK, zMS.SW, zMS.ST, zMS.sn, zMS.sd, zMS.TI, zMS.WH, zMS.BG, zMS.OD, zMS.WO, zMS.MA, zMS.rp, zMS.RD, zMS.rs, zMS.rm, zMS.rw, zMS.uC, zMS.ul, zMS.un, zMS.uR, zMS.uTR, zMS.uDI, zMS.uac, zMS.unx, zMS.uKP, zMS.uIK, zMS.uSW, zMS.uST, zMS.usn, zMS.usd, zMS.uTI, zMS.uWH, zMS.uBG, zMS.uOD, zMS.uWO, zMS.uMA, zMS.urp, zMS.uRD, zMS.urs, zMS.urm, zMS.urw] at w115
      refine z_iload 66 dX10_drawn_64 rfl rfl ?_
      refine z_aload_n 67 dX10_drawn_66 rfl rfl ?_
      refine z_getf (ci := 10) 70 dX10_drawn_67 rfl rfl zin_10 2 (by decide) zw_766 (by first | with_reducible assumption | with_reducible exact zup_same _ _ _) rfl ?_
      refine z_icmp_ge 103 73 dX10_drawn_70 (by decide) rfl (by first | omega | exact zr_b _ | exact zr_and _ _ | exact zr_or _ _ | exact zr_shl _ _) (by first | omega | exact zr_b _ | exact zr_and _ _ | exact zr_or _ _ | exact zr_shl _ _) (fun c70 => ?_) (fun c70 => ?_)
      · refine z_iload_n 104 dX10_drawn_103 rfl rfl ?_
        refine z_aload_n 105 dX10_drawn_104 rfl rfl ?_
        refine z_aload_n 106 dX10_drawn_105 rfl rfl ?_
        refine z_getf (ci := 10) 109 dX10_drawn_106 rfl rfl zin_10 4 (by decide) zw_768 (by first | with_reducible assumption | with_reducible exact zup_same _ _ _) rfl ?_
        refine z_cV1 112 dX10_drawn_109 rfl kX10_lastOf zw_883 (Nat.le_of_ble_eq_true rfl) ⟨Nat.le_refl _, Nat.le_refl _⟩ (by first | with_reducible assumption | with_reducible exact zup_same _ _ _) ?_
        refine c_X10_lastOf hW2.c112 rfl w115 (by decide) hW2.c121 (hR.dl hN (v := v) (F := F) (fun q a b => k1 q a (by omega)) k2) hO' (by decide) hM (fun T1 => ?_)
        refine z_iadd 113 dX10_drawn_112 rfl ?_
        refine z_istore_n 114 dX10_drawn_113 rfl (by decide) ?_
        refine z_iinc 117 dX10_drawn_114 rfl (by decide) rfl ?_
        refine z_goto 19 dX10_drawn_117 (by decide) ?_
        exact cont _ _ _ _ _ (hW2.s121 T1) ((hF1.up _ (by omega)).up _ (by omega))
      · exfalso; omega
    · intro i hi ih F k1 k2
      have hW2 := hW1.s115 F
      have w112 := hW2.c112
      dsimp only [zMO, zMS.C, zMS.l, zMS.n, zMS.R, zMS.TR, zMS.DI, zMS.ac, zMS.nx, zMS.KP, zMS.IK, zMS.SW, zMS.ST, zMS.sn, zMS.sd, zMS.TI, zMS.WH, zMS.BG, zMS.OD, zMS.WO, zMS.MA, zMS.rp, zMS.RD, zMS.rs, zMS.rm, zMS.rw, zMS.uC, zMS.ul, zMS.un, zMS.uR, zMS.uTR, zMS.uDI, zMS.uac, zMS.unx, zMS.uKP, zMS.uIK, zMS.uSW, zMS.uST, zMS.usn, zMS.usd, zMS.uTI, zMS.uWH, zMS.uBG, zMS.uOD, zMS.uWO, zMS.uMA, zMS.urp, zMS.uRD, zMS.urs, zMS.urm, zMS.urw] at w112
      have w115 := hW2.c115
      dsimp only [zMO, zMS.C, zMS.l, zMS.n, zMS.R, zMS.TR, zMS.DI, zMS.ac, zMS.nx, zMS.KP, zMS.IK, zMS.SW, zMS.ST, zMS.sn, zMS.sd, zMS.TI, zMS.WH, zMS.BG, zMS.OD, zMS.WO, zMS.MA, zMS.rp, zMS.RD, zMS.rs, zMS.rm, zMS.rw, zMS.uC, zMS.ul, zMS.un, zMS.uR, zMS.uTR, zMS.uDI, zMS.uac, zMS.unx, zMS.uKP, zMS.uIK, zMS.uSW, zMS.uST, zMS.usn, zMS.usd, zMS.uTI, zMS.uWH, zMS.uBG, zMS.uOD, zMS.uWO, zMS.uMA, zMS.urp, zMS.uRD, zMS.urs, zMS.urm, zMS.urw] at w115
      have e9 : zdl v i = 1 + v / 9 ^ i % 9 := by unfold zdl; rw [show ((i : Int)).toNat = i by omega, zr9_eq]
      have p9 : 0 < (9 : Int) ^ i ∧ (9 : Int) ^ i ≤ 2147483647 := by
        rcases (show i = 0 ∨ i = 1 ∨ i = 2 ∨ i = 3 ∨ i = 4 ∨ i = 5 ∨ i = 6 ∨ i = 7 by omega) with rfl | rfl | rfl | rfl | rfl | rfl | rfl | rfl <;> decide
      have pb := zr9_b hv i
      rw [zr9_eq] at pb
      refine z_iload 66 dX10_drawn_64 rfl rfl ?_
      refine z_aload_n 67 dX10_drawn_66 rfl rfl ?_
      refine z_getf (ci := 10) 70 dX10_drawn_67 rfl rfl zin_10 2 (by decide) zw_766 (by first | with_reducible assumption | with_reducible exact zup_same _ _ _) rfl ?_
      refine z_icmp_ge 103 73 dX10_drawn_70 (by decide) rfl (by first | omega | exact zr_b _ | exact zr_and _ _ | exact zr_or _ _ | exact zr_shl _ _) (by first | omega | exact zr_b _ | exact zr_and _ _ | exact zr_or _ _ | exact zr_shl _ _) (fun c70 => ?_) (fun c70 => ?_)
      · exfalso; omega
      · refine z_aload_n 74 dX10_drawn_73 rfl rfl ?_
        refine z_getf (ci := 10) 77 dX10_drawn_74 rfl rfl zin_10 4 (by decide) zw_768 (by first | with_reducible assumption | with_reducible exact zup_same _ _ _) rfl ?_
        refine z_iconst 78 dX10_drawn_77 rfl ?_
        refine z_iload 80 dX10_drawn_78 rfl rfl ?_
        refine z_iadd 81 dX10_drawn_80 rfl ?_
        refine z_iconst 82 dX10_drawn_81 rfl ?_
        refine z_iload 84 dX10_drawn_82 rfl rfl ?_
        refine z_bipush 86 dX10_drawn_84 rfl (by decide) ?_
        refine z_iload 88 dX10_drawn_86 rfl rfl ?_
        refine z_cS2 91 dX10_drawn_88 rfl kX10_power zw_1091 (Nat.le_of_ble_eq_true rfl) ⟨Nat.le_refl _, Nat.le_refl _⟩ ?_
        refine c_X10_power (by omega) ?_
        refine z_idiv 92 dX10_drawn_91 rfl (by first | omega | exact zr_b _ | exact zr_and _ _ | exact zr_or _ _ | exact zr_shl _ _) (by first | omega | exact zr_b _ | exact zr_and _ _ | exact zr_or _ _ | exact zr_shl _ _) ?_
        refine z_bipush 94 dX10_drawn_92 rfl (by decide) ?_
        refine z_irem 95 dX10_drawn_94 rfl (by first | omega | exact zr_b _ | exact zr_and _ _ | exact zr_or _ _ | exact zr_shl _ _) (by first | omega | exact zr_b _ | exact zr_and _ _ | exact zr_or _ _ | exact zr_shl _ _) ?_
        refine z_iadd 96 dX10_drawn_95 rfl ?_
        refine z_iast 97 dX10_drawn_96 rfl (by omega) (by first | with_reducible assumption | with_reducible exact zup_same _ _ _) (by omega) (by first | omega | exact zr_b _ | exact zr_and _ _ | exact zr_or _ _ | exact zr_shl _ _) ?_
        refine z_iinc 100 dX10_drawn_97 rfl (by decide) rfl ?_
        refine z_goto 64 dX10_drawn_100 (by decide) ?_
        rw [zup_zup, ← e9]
        refine ih _ (fun q a b => ?_) (fun q a b c => ?_)
        · by_cases e : q = i
          · subst e; exact zst_same _ _ _
          · rw [zst_ne _ _ (by omega)]; exact k1 q a (by omega)
        · rw [zst_ne _ _ (by omega)]; exact k2 q a b c
  have key : ∀ i : Nat, i ≤ m → ∀ (h' : zH) (TRx TIx : Int → Int) (o4 o5 : Option zV), zMW h' (C, l, ((N + 1 : Nat) : Int), R, TRx, DI, ac, nx, KP, IK, SW, ST, sn, zsd sd i, TIx, WH, BG, OD, WO, MA, rp, RD, rs, rm, rw') → zMod 112 127 h h' → Z (d + 4) mX10_drawn zo 19 [some (vR 112), some (vI m), some (vI (zdrn G E P N M sd i)), some (vI i), o4, o5] [] h' Q := by
    refine z_loop m ?_ ?_
    · intro h' TRx TIx o4 o5 hW' hF
      refine z_iload_n 20 dX10_drawn_19 rfl rfl ?_
      refine z_iload_n 21 dX10_drawn_20 rfl rfl ?_
      refine z_icmp_ge 120 24 dX10_drawn_21 (by decide) rfl (by first | omega | exact zr_b _ | exact zr_and _ _ | exact zr_or _ _ | exact zr_shl _ _) (by first | omega | exact zr_b _ | exact zr_and _ _ | exact zr_or _ _ | exact zr_shl _ _) (fun c21 => ?_) (fun c21 => ?_)
      · refine z_iload_n 121 dX10_drawn_120 rfl rfl ?_
        refine z_ret dX10_drawn_121 (by first | exact True.intro | exact Or.inl rfl | exact Or.inr rfl | exact zb_01 _ | assumption | (show _ ∨ _; omega)) ⟨Nat.le_refl _, Nat.le_refl _⟩ ?_
        exact hQ _ hW'.mc hF
      · exfalso; omega
    · intro i hi ih h' TRx TIx o4 o5 hW' hF
      have w112 := hW'.c112
      dsimp only [zMO, zMS.C, zMS.l, zMS.n, zMS.R, zMS.TR, zMS.DI, zMS.ac, zMS.nx, zMS.KP, zMS.IK, zMS.SW, zMS.ST, zMS.sn, zMS.sd, zMS.TI, zMS.WH, zMS.BG, zMS.OD, zMS.WO, zMS.MA, zMS.rp, zMS.RD, zMS.rs, zMS.rm, zMS.rw, zMS.uC, zMS.ul, zMS.un, zMS.uR, zMS.uTR, zMS.uDI, zMS.uac, zMS.unx, zMS.uKP, zMS.uIK, zMS.uSW, zMS.uST, zMS.usn, zMS.usd, zMS.uTI, zMS.uWH, zMS.uBG, zMS.uOD, zMS.uWO, zMS.uMA, zMS.urp, zMS.uRD, zMS.urs, zMS.urm, zMS.urw] at w112
      have hW1 := hW'.f_sd (zsd sd (i + 1))
      have w112 := hW1.c112
      dsimp only [zMO, zMS.C, zMS.l, zMS.n, zMS.R, zMS.TR, zMS.DI, zMS.ac, zMS.nx, zMS.KP, zMS.IK, zMS.SW, zMS.ST, zMS.sn, zMS.sd, zMS.TI, zMS.WH, zMS.BG, zMS.OD, zMS.WO, zMS.MA, zMS.rp, zMS.RD, zMS.rs, zMS.rm, zMS.rw, zMS.uC, zMS.ul, zMS.un, zMS.uR, zMS.uTR, zMS.uDI, zMS.uac, zMS.unx, zMS.uKP, zMS.uIK, zMS.uSW, zMS.uST, zMS.usn, zMS.usd, zMS.uTI, zMS.uWH, zMS.uBG, zMS.uOD, zMS.uWO, zMS.uMA, zMS.urp, zMS.uRD, zMS.urs, zMS.urm, zMS.urw] at w112
      have w114 := hW1.c114
      dsimp only [zMO, zMS.C, zMS.l, zMS.n, zMS.R, zMS.TR, zMS.DI, zMS.ac, zMS.nx, zMS.KP, zMS.IK, zMS.SW, zMS.ST, zMS.sn, zMS.sd, zMS.TI, zMS.WH, zMS.BG, zMS.OD, zMS.WO, zMS.MA, zMS.rp, zMS.RD, zMS.rs, zMS.rm, zMS.rw, zMS.uC, zMS.ul, zMS.un, zMS.uR, zMS.uTR, zMS.uDI, zMS.uac, zMS.unx, zMS.uKP, zMS.uIK, zMS.uSW, zMS.uST, zMS.usn, zMS.usd, zMS.uTI, zMS.uWH, zMS.uBG, zMS.uOD, zMS.uWO, zMS.uMA, zMS.urp, zMS.uRD, zMS.urs, zMS.urm, zMS.urw] at w114
      have w115 := hW1.c115
      dsimp only [zMO, zMS.C, zMS.l, zMS.n, zMS.R, zMS.TR, zMS.DI, zMS.ac, zMS.nx, zMS.KP, zMS.IK, zMS.SW, zMS.ST, zMS.sn, zMS.sd, zMS.TI, zMS.WH, zMS.BG, zMS.OD, zMS.WO, zMS.MA, zMS.rp, zMS.RD, zMS.rs, zMS.rm, zMS.rw, zMS.uC, zMS.ul, zMS.un, zMS.uR, zMS.uTR, zMS.uDI, zMS.uac, zMS.unx, zMS.uKP, zMS.uIK, zMS.uSW, zMS.uST, zMS.usn, zMS.usd, zMS.uTI, zMS.uWH, zMS.uBG, zMS.uOD, zMS.uWO, zMS.uMA, zMS.urp, zMS.uRD, zMS.urs, zMS.urm, zMS.urw] at w115
      refine z_iload_n 20 dX10_drawn_19 rfl rfl ?_
      refine z_iload_n 21 dX10_drawn_20 rfl rfl ?_
      refine z_icmp_ge 120 24 dX10_drawn_21 (by decide) rfl (by first | omega | exact zr_b _ | exact zr_and _ _ | exact zr_or _ _ | exact zr_shl _ _) (by first | omega | exact zr_b _ | exact zr_and _ _ | exact zr_or _ _ | exact zr_shl _ _) (fun c21 => ?_) (fun c21 => ?_)
      · exfalso; omega
      · refine z_aload_n 25 dX10_drawn_24 rfl rfl ?_
        refine z_aload_n 26 dX10_drawn_25 rfl rfl ?_
        refine z_getf (ci := 10) 29 dX10_drawn_26 rfl rfl zin_10 13 (by decide) zw_777 (by first | with_reducible assumption | with_reducible exact zup_same _ _ _) rfl ?_
        refine z_ldc2 (x := 6364136223846793005) 32 dX10_drawn_29 rfl zw_1103 ?_
        refine z_lmul 33 dX10_drawn_32 rfl ?_
        refine z_ldc2 (x := 1442695040888963407) 36 dX10_drawn_33 rfl zw_1104 ?_
        refine z_ladd 37 dX10_drawn_36 rfl ?_
        refine z_putf (ci := 10) 40 dX10_drawn_37 rfl rfl zin_10 tyX10_ok nmX10 13 (by decide) zw_777 rfl (fun _ => ⟨rfl, rfl⟩) (by omega) (by first | with_reducible assumption | with_reducible exact zup_same _ _ _) (Nat.le_of_ble_eq_true rfl) ?_
        change Z _ _ _ _ _ _ (zup h' 112 (zMO (zMS.usd (C, l, ((N + 1 : Nat) : Int), R, TRx, DI, ac, nx, KP, IK, SW, ST, sn, zsd sd i, TIx, WH, BG, OD, WO, MA, rp, RD, rs, rm, rw') (zsd sd (i + 1))))) _
        refine z_aload_n 41 dX10_drawn_40 rfl rfl ?_
        refine z_getf (ci := 10) 44 dX10_drawn_41 rfl rfl zin_10 13 (by decide) zw_777 (by first | with_reducible assumption | with_reducible exact zup_same _ _ _) rfl ?_
        refine z_bipush 46 dX10_drawn_44 rfl (by decide) ?_
        refine z_lushr 47 dX10_drawn_46 rfl ?_
        refine z_l2i 48 dX10_drawn_47 rfl ?_
        rw [show zl2i (zlushr (zsd sd (i + 1)) 33) = zvv (zsd sd (i + 1)) from rfl]
        refine z_istore 50 dX10_drawn_48 rfl (by decide) ?_
        refine z_aload_n 51 dX10_drawn_50 rfl rfl ?_
        refine z_getf (ci := 10) 54 dX10_drawn_51 rfl rfl zin_10 3 (by decide) zw_767 (by first | with_reducible assumption | with_reducible exact zup_same _ _ _) rfl ?_
        refine z_aload_n 55 dX10_drawn_54 rfl rfl ?_
        refine z_getf (ci := 10) 58 dX10_drawn_55 rfl rfl zin_10 4 (by decide) zw_768 (by first | with_reducible assumption | with_reducible exact zup_same _ _ _) rfl ?_
        refine z_cS2 61 dX10_drawn_58 rfl kX10_copy zw_880 (Nat.le_of_ble_eq_true rfl) ⟨Nat.le_refl _, Nat.le_refl _⟩ ?_
        refine c_X10_copy (by decide) w114 w115 (fun F' hF' => ?_)
        refine z_iconst 62 dX10_drawn_61 rfl ?_
        refine z_istore 64 dX10_drawn_62 rfl (by decide) ?_
        exact inn _ _ _ _ _ _ i hW1 (hF.up _ (by omega)) (zvv_b _) (fun h2 TR2 TI2 o4 o5 hW2 hF2 => ih h2 TR2 TI2 o4 o5 hW2 hF2) 0 (Nat.zero_le _) F' (fun q a b => by exfalso; omega) (fun q a b _ => hF' q a b)
  have w112 := hW.c112
  dsimp only [zMO, zMS.C, zMS.l, zMS.n, zMS.R, zMS.TR, zMS.DI, zMS.ac, zMS.nx, zMS.KP, zMS.IK, zMS.SW, zMS.ST, zMS.sn, zMS.sd, zMS.TI, zMS.WH, zMS.BG, zMS.OD, zMS.WO, zMS.MA, zMS.rp, zMS.RD, zMS.rs, zMS.rm, zMS.rw, zMS.uC, zMS.ul, zMS.un, zMS.uR, zMS.uTR, zMS.uDI, zMS.uac, zMS.unx, zMS.uKP, zMS.uIK, zMS.uSW, zMS.uST, zMS.usn, zMS.usd, zMS.uTI, zMS.uWH, zMS.uBG, zMS.uOD, zMS.uWO, zMS.uMA, zMS.urp, zMS.uRD, zMS.urs, zMS.urm, zMS.urw] at w112
  refine zC.of zpl_X10 (Nat.le_of_ble_eq_true rfl) ?_
  refine z_iload_n 1 dX10_drawn_0 rfl rfl ?_
  refine z_i2l 2 dX10_drawn_1 rfl (by first | omega | exact zr_b _ | exact zr_and _ _ | exact zr_or _ _ | exact zr_shl _ _) ?_
  refine z_lconst 3 dX10_drawn_2 rfl ?_
  refine z_ldc2 (x := 40) 6 dX10_drawn_3 rfl zw_1102 ?_
  refine z_cS3 9 dX10_drawn_6 rfl kX10_in zw_846 (Nat.le_of_ble_eq_true rfl) ⟨Nat.le_refl _, Nat.le_refl _⟩ ?_
  refine c_X10_in (a := 1) (by omega) (by omega) (by omega) ?_
  rw [zb_t (by omega)]
  refine z_if_ne 15 12 dX10_drawn_9 (by decide) rfl (by first | omega | exact zr_b _ | exact zr_and _ _ | exact zr_or _ _ | exact zr_shl _ _) (fun c9 => ?_) (fun c9 => ?_)
  · try replace c9 := zb_1 c9
    refine z_iconst 16 dX10_drawn_15 rfl ?_
    refine z_istore_n 17 dX10_drawn_16 rfl (by decide) ?_
    refine z_iconst 18 dX10_drawn_17 rfl ?_
    refine z_istore_n 19 dX10_drawn_18 rfl (by decide) ?_
    exact key 0 (Nat.zero_le _) _ _ _ _ _ hW (zMod.rf _ _ h)
  · exact absurd c9 (by decide)
end MWHICH
