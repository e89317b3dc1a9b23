/-! THE MODEL: judge -/
/-- the model's world with the trial row shown -/
def zMT (h : zH) (C : Int → Int) (l n : Int) (R DI : Int → Int) (ac nx : Int) (KP IK SW ST : Int → Int) (sn sd : Int) (TR : Int → Int) : Prop := ∃ (TI WH BG OD WO MA RD : Int → Int) (rp rs rm rw : Int), zMW h (C, l, n, R, TR, DI, ac, nx, KP, IK, SW, ST, sn, sd, TI, WH, BG, OD, WO, MA, rp, RD, rs, rm, rw)
theorem zMW.mt {h : zH} {s : zMS} (hW : zMW h s) : zMT h s.C s.l s.n s.R s.DI s.ac s.nx s.KP s.IK s.SW s.ST s.sn s.sd s.TR := ⟨_, _, _, _, _, _, _, _, _, _, _, hW⟩
section MJUDGE
variable {d : Nat} {h : zH} {Q : Option zV → zH → Prop} {C : Int → Int} {l : Int} {N M : Nat} {D G E P R DI : Int → Int} {ac nx : Int} {KP IK SW ST : Int → Int} {sn sd : Int} {s : zMS} {TR : Int → Int}
theorem zMT.mc {n : Int} (hW : zMT h C l n R DI ac nx KP IK SW ST sn sd TR) : zMC h C l n R DI ac nx KP IK SW ST sn sd := by
  obtain ⟨TI, WH, BG, OD, WO, MA, RD, rp, rs, rm, rw', hW⟩ := hW
  exact hW.mc
theorem c_X10_judged {k a b : Int} {X : zX} (hW : zMT h C l ((N + 1 : Nat) : Int) R DI ac nx KP IK SW ST sn sd TR) (hR : zRo N M X.1 G X.2.1 X.2.2 TR) (hO : zOK 9 N X.1 G X.2.1 X.2.2) (hM : 1 ≤ M ∧ M ≤ 3) (hk : 0 ≤ k ∧ k ≤ 9) (ha : 0 ≤ a ∧ a ≤ 9) (hb : 0 ≤ b ∧ b ≤ 9)
    (hQ : ∀ (h' : zH) (TR' : Int → Int), zMT h' C l ((N + 1 : Nat) : Int) R DI ac nx KP IK SW ST sn sd TR' → zRo N M (zcan N M G k a b X).2.1 G (zcan N M G k a b X).2.2.1 (zcan N M G k a b X).2.2.2 TR' → zMod 112 127 h h' → Q (some (vI (zb ((zcan N M G k a b X).1 = true)))) h') : zC (d + 4) mX10_judged 0 0 [vR 112, vI k, vI a, vI b] h Q := by
  obtain ⟨D, E, P⟩ := X
  dsimp only at hR hO
  have hN := hO.1
  have fin : ∀ (r : Bool) (Y : zX), zcan N M G k a b (D, E, P) = (r, Y) → ∀ (h' : zH) (TR' : Int → Int), zMT h' C l ((N + 1 : Nat) : Int) R DI ac nx KP IK SW ST sn sd TR' → zRo N M Y.1 G Y.2.1 Y.2.2 TR' → zMod 112 127 h h' → Q (some (vI (zb (r = true)))) h' := by
    intro r Y e h' TR' hW' hR' hF
    have := hQ h' TR'
    rw [e] at this
    exact this hW' hR' hF
  have f1 : ∀ (Y : zX), zcan N M G k a b (D, E, P) = (true, Y) → ∀ (h' : zH) (TR' : Int → Int), zMT h' C l ((N + 1 : Nat) : Int) R DI ac nx KP IK SW ST sn sd TR' → zRo N M Y.1 G Y.2.1 Y.2.2 TR' → zMod 112 127 h h' → Q (some (vI 1)) h' := fun Y e => fin true Y e
  have f0 : zcan N M G k a b (D, E, P) = (false, (D, E, P)) → ∀ (h' : zH) (TR' : Int → Int), zMT h' C l ((N + 1 : Nat) : Int) R DI ac nx KP IK SW ST sn sd TR' → zRo N M D G E P TR' → zMod 112 127 h h' → Q (some (vI 0)) h' := fun e => fin false (D, E, P) e
  have self := zMod.rf 112 127 h
  have hW0 := hW
  obtain ⟨TI, WH, BG, OD, WO, MA, RD, rp, rs, rm, rw', hW⟩ := hW
  have w112 := hW.c112
  dsimp only [zMO, zMS.C, zMS.l, zMS.n, zMS.R, zMS.TR, zMS.DI, zMS.ac, zMS.nx, zMS.KP, zMS.IK, zMS.SW, zMS.ST, zMS.sn, zMS.sd, zMS.TI, zMS.WH, zMS.BG, zMS.OD, zMS.WO, zMS.MA, zMS.rp, zMS.RD, zMS.rs, zMS.rm, zMS.rw, zMS.uC, zMS.ul, zMS.un, zMS.uR, zMS.uTR, zMS.uDI, zMS.uac, zMS.unx, zMS.uKP, zMS.uIK, zMS.uSW, zMS.uST, zMS.usn, zMS.usd, zMS.uTI, zMS.uWH, zMS.uBG, zMS.uOD, zMS.uWO, zMS.uMA, zMS.urp, zMS.uRD, zMS.urs, zMS.urm, zMS.urw] at w112
  have w115 := hW.c115
  dsimp only [zMO, zMS.C, zMS.l, zMS.n, zMS.R, zMS.TR, zMS.DI, zMS.ac, zMS.nx, zMS.KP, zMS.IK, zMS.SW, zMS.ST, zMS.sn, zMS.sd, zMS.TI, zMS.WH, zMS.BG, zMS.OD, zMS.WO, zMS.MA, zMS.rp, zMS.RD, zMS.rs, zMS.rm, zMS.rw, zMS.uC, zMS.ul, zMS.un, zMS.uR, zMS.uTR, zMS.uDI, zMS.uac, zMS.unx, zMS.uKP, zMS.uIK, zMS.uSW, zMS.uST, zMS.usn, zMS.usd, zMS.uTI, zMS.uWH, zMS.uBG, zMS.uOD, zMS.uWO, zMS.uMA, zMS.urp, zMS.uRD, zMS.urs, zMS.urm, zMS.urw] at w115
  rcases (show k = 1 ∨ k = 2 ∨ k = 3 ∨ k = 4 ∨ k = 5 ∨ k = 6 ∨ k = 7 ∨ (k < 1 ∨ 7 < k) by omega) with rfl | rfl | rfl | rfl | rfl | rfl | rfl | hk
  · have e : zcan N M G 1 a b (D, E, P) = if zrfM N E P a b = 0 then (true, (D, zst E a b, (zgv (zbrn E P a N) N P N).2)) else (false, (D, E, P)) := rfl
    refine zC.of zpl_X10 (Nat.le_of_ble_eq_true rfl) ?_
    refine z_iload_n 1 dX10_judged_0 rfl rfl ?_
    · refine z_tableIn 44 dX10_judged_1 (by omega) (by omega) (by omega) rfl (by decide) ?_
      refine z_aload_n 45 dX10_judged_44 rfl rfl ?_
      refine z_iload_n 46 dX10_judged_45 rfl rfl ?_
      refine z_cV1 49 dX10_judged_46 rfl kX10_isPerson zw_939 (Nat.le_of_ble_eq_true rfl) ⟨Nat.le_refl _, Nat.le_refl _⟩ (by first | with_reducible assumption | with_reducible exact zup_same _ _ _) ?_
      refine c_X10_isPerson hW.c112 (by show 1 ≤ ((N + 1 : Nat) : Int) ∧ ((N + 1 : Nat) : Int) ≤ 8; omega) (by omega) ?_
      refine z_if_eq 77 52 dX10_judged_49 (by decide) rfl (by first | omega | exact zr_b _ | exact zr_and _ _ | exact zr_or _ _ | exact zr_shl _ _) (fun c49 => ?_) (fun c49 => ?_)
      · try replace c49 := zb_0 c49
        have c49 : ¬ (0 ≤ a ∧ a < ((N + 1 : Nat) : Int)) := c49
        refine z_iconst 78 dX10_judged_77 rfl ?_
        refine z_ret dX10_judged_78 (by first | exact True.intro | exact Or.inl rfl | exact Or.inr rfl | exact zb_01 _ | assumption | (show _ ∨ _; omega)) ⟨Nat.le_refl _, Nat.le_refl _⟩ ?_
        first | exact f0 (by rw [e, if_neg c74]) _ _ hW0 hR self | exact f0 (by rw [e, if_neg (fun q => by have := zrfM_0 q; omega)]) _ _ hW0 hR self
      · try replace c49 := zb_1 c49
        have c49 : 0 ≤ a ∧ a < ((N + 1 : Nat) : Int) := c49
        refine z_iload_n 53 dX10_judged_52 rfl rfl ?_
        refine z_if_eq 77 56 dX10_judged_53 (by decide) rfl (by first | omega | exact zr_b _ | exact zr_and _ _ | exact zr_or _ _ | exact zr_shl _ _) (fun c53 => ?_) (fun c53 => ?_)
        · try replace c53 := zb_0 c53
          refine z_iconst 78 dX10_judged_77 rfl ?_
          refine z_ret dX10_judged_78 (by first | exact True.intro | exact Or.inl rfl | exact Or.inr rfl | exact zb_01 _ | assumption | (show _ ∨ _; omega)) ⟨Nat.le_refl _, Nat.le_refl _⟩ ?_
          first | exact f0 (by rw [e, if_neg c74]) _ _ hW0 hR self | exact f0 (by rw [e, if_neg (fun q => by have := zrfM_0 q; omega)]) _ _ hW0 hR self
        · try replace c53 := zb_1 c53
          refine z_aload_n 57 dX10_judged_56 rfl rfl ?_
          refine z_iload_n 58 dX10_judged_57 rfl rfl ?_
          refine z_cV1 61 dX10_judged_58 rfl kX10_isPerson zw_939 (Nat.le_of_ble_eq_true rfl) ⟨Nat.le_refl _, Nat.le_refl _⟩ (by first | with_reducible assumption | with_reducible exact zup_same _ _ _) ?_
          refine c_X10_isPerson hW.c112 (by show 1 ≤ ((N + 1 : Nat) : Int) ∧ ((N + 1 : Nat) : Int) ≤ 8; omega) (by omega) ?_
          refine z_if_eq 77 64 dX10_judged_61 (by decide) rfl (by first | omega | exact zr_b _ | exact zr_and _ _ | exact zr_or _ _ | exact zr_shl _ _) (fun c61 => ?_) (fun c61 => ?_)
          · try replace c61 := zb_0 c61
            have c61 : ¬ (0 ≤ b ∧ b < ((N + 1 : Nat) : Int)) := c61
            refine z_iconst 78 dX10_judged_77 rfl ?_
            refine z_ret dX10_judged_78 (by first | exact True.intro | exact Or.inl rfl | exact Or.inr rfl | exact zb_01 _ | assumption | (show _ ∨ _; omega)) ⟨Nat.le_refl _, Nat.le_refl _⟩ ?_
            first | exact f0 (by rw [e, if_neg c74]) _ _ hW0 hR self | exact f0 (by rw [e, if_neg (fun q => by have := zrfM_0 q; omega)]) _ _ hW0 hR self
          · try replace c61 := zb_1 c61
            have c61 : 0 ≤ b ∧ b < ((N + 1 : Nat) : Int) := c61
            refine z_aload_n 65 dX10_judged_64 rfl rfl ?_
            refine z_aload_n 66 dX10_judged_65 rfl rfl ?_
            refine z_getf (ci := 10) 69 dX10_judged_66 rfl rfl zin_10 4 (by decide) zw_768 (by first | with_reducible assumption | with_reducible exact zup_same _ _ _) rfl ?_
            refine z_iload_n 70 dX10_judged_69 rfl rfl ?_
            refine z_iload_n 71 dX10_judged_70 rfl rfl ?_
            refine z_cV3 74 dX10_judged_71 rfl kX10_mayMove zw_975 (Nat.le_of_ble_eq_true rfl) ⟨Nat.le_refl _, Nat.le_refl _⟩ (by first | with_reducible assumption | with_reducible exact zup_same _ _ _) ?_
            refine c_X10_mayMove hW.c112 rfl w115 hR hO (by omega) (by omega) ?_
            refine z_if_ne 79 77 dX10_judged_74 (by decide) rfl (by first | omega | exact zr_b _ | exact zr_and _ _ | exact zr_or _ _ | exact zr_shl _ _) (fun c74 => ?_) (fun c74 => ?_)
            · try replace c74 := zb_1 c74
              refine z_aload_n 80 dX10_judged_79 rfl rfl ?_
              refine z_aload_n 81 dX10_judged_80 rfl rfl ?_
              refine z_getf (ci := 10) 84 dX10_judged_81 rfl rfl zin_10 4 (by decide) zw_768 (by first | with_reducible assumption | with_reducible exact zup_same _ _ _) rfl ?_
              refine z_iload_n 85 dX10_judged_84 rfl rfl ?_
              refine z_iload_n 86 dX10_judged_85 rfl rfl ?_
              refine z_cV3 89 dX10_judged_86 rfl kX10_moveOn zw_987 (Nat.le_of_ble_eq_true rfl) ⟨Nat.le_refl _, Nat.le_refl _⟩ (by first | with_reducible assumption | with_reducible exact zup_same _ _ _) ?_
              refine c_X10_moveOn (t := b) hW.c112 rfl hW.c124 (by decide) w115 hR hO (by omega) (fun OD' R' hR' => ?_)
              refine z_iconst 90 dX10_judged_89 rfl ?_
              refine z_ret dX10_judged_90 (by first | exact True.intro | exact Or.inl rfl | exact Or.inr rfl | exact zb_01 _ | assumption | (show _ ∨ _; omega)) ⟨Nat.le_refl _, Nat.le_refl _⟩ ?_
              exact f1 _ (by rw [e, if_pos c74]) _ _ ((hW.s124 OD').s115 R').mt hR' ((self.up _ (by omega)).up _ (by omega))
            · try replace c74 := zb_0 c74
              refine z_iconst 78 dX10_judged_77 rfl ?_
              refine z_ret dX10_judged_78 (by first | exact True.intro | exact Or.inl rfl | exact Or.inr rfl | exact zb_01 _ | assumption | (show _ ∨ _; omega)) ⟨Nat.le_refl _, Nat.le_refl _⟩ ?_
              first | exact f0 (by rw [e, if_neg c74]) _ _ hW0 hR self | exact f0 (by rw [e, if_neg (fun q => by have := zrfM_0 q; omega)]) _ _ hW0 hR self
  · have e : zcan N M G 2 a b (D, E, P) = if a = 0 ∧ zrfC N E P b = 0 then (true, (D, E, zst (zst P b (P (b + 1))) (b + 1) (P b))) else (false, (D, E, P)) := rfl
    refine zC.of zpl_X10 (Nat.le_of_ble_eq_true rfl) ?_
    refine z_iload_n 1 dX10_judged_0 rfl rfl ?_
    · refine z_tableIn 91 dX10_judged_1 (by omega) (by omega) (by omega) rfl (by decide) ?_
      refine z_iload_n 92 dX10_judged_91 rfl rfl ?_
      refine z_if_ne 114 95 dX10_judged_92 (by decide) rfl (by first | omega | exact zr_b _ | exact zr_and _ _ | exact zr_or _ _ | exact zr_shl _ _) (fun c92 => ?_) (fun c92 => ?_)
      · try replace c92 := zb_1 c92
        refine z_iconst 115 dX10_judged_114 rfl ?_
        refine z_ret dX10_judged_115 (by first | exact True.intro | exact Or.inl rfl | exact Or.inr rfl | exact zb_01 _ | assumption | (show _ ∨ _; omega)) ⟨Nat.le_refl _, Nat.le_refl _⟩ ?_
        first | exact f0 (by rw [e, if_neg (fun q => c92 q.1)]) _ _ hW0 hR self | exact f0 (by rw [e, if_neg (fun q => by have := zrfC_0 q.2; omega)]) _ _ hW0 hR self | exact f0 (by rw [e, if_neg (fun q => c111 (zrfC_0 q.2).2)]) _ _ hW0 hR self
      · try replace c92 := zb_0 c92
        refine z_aload_n 96 dX10_judged_95 rfl rfl ?_
        refine z_iload_n 97 dX10_judged_96 rfl rfl ?_
        refine z_cV1 100 dX10_judged_97 rfl kX10_isPair zw_995 (Nat.le_of_ble_eq_true rfl) ⟨Nat.le_refl _, Nat.le_refl _⟩ (by first | with_reducible assumption | with_reducible exact zup_same _ _ _) ?_
        refine c_X10_isPair hW.c112 (by show 1 ≤ ((N + 1 : Nat) : Int) ∧ ((N + 1 : Nat) : Int) ≤ 8; omega) (by omega) ?_
        refine z_if_eq 114 103 dX10_judged_100 (by decide) rfl (by first | omega | exact zr_b _ | exact zr_and _ _ | exact zr_or _ _ | exact zr_shl _ _) (fun c100 => ?_) (fun c100 => ?_)
        · try replace c100 := zb_0 c100
          have c100 : ¬ (0 ≤ b ∧ b < ((N + 1 : Nat) : Int) - 2) := c100
          refine z_iconst 115 dX10_judged_114 rfl ?_
          refine z_ret dX10_judged_115 (by first | exact True.intro | exact Or.inl rfl | exact Or.inr rfl | exact zb_01 _ | assumption | (show _ ∨ _; omega)) ⟨Nat.le_refl _, Nat.le_refl _⟩ ?_
          first | exact f0 (by rw [e, if_neg (fun q => c92 q.1)]) _ _ hW0 hR self | exact f0 (by rw [e, if_neg (fun q => by have := zrfC_0 q.2; omega)]) _ _ hW0 hR self | exact f0 (by rw [e, if_neg (fun q => c111 (zrfC_0 q.2).2)]) _ _ hW0 hR self
        · try replace c100 := zb_1 c100
          have c100 : 0 ≤ b ∧ b < ((N + 1 : Nat) : Int) - 2 := c100
          refine z_aload_n 104 dX10_judged_103 rfl rfl ?_
          refine z_getf (ci := 10) 107 dX10_judged_104 rfl rfl zin_10 4 (by decide) zw_768 (by first | with_reducible assumption | with_reducible exact zup_same _ _ _) rfl ?_
          refine z_iload_n 108 dX10_judged_107 rfl rfl ?_
          refine z_cS2 111 dX10_judged_108 rfl kX10_mayChange zw_999 (Nat.le_of_ble_eq_true rfl) ⟨Nat.le_refl _, Nat.le_refl _⟩ ?_
          refine c_X10_mayChange w115 hR hO (by omega) ?_
          refine z_if_ne 116 114 dX10_judged_111 (by decide) rfl (by first | omega | exact zr_b _ | exact zr_and _ _ | exact zr_or _ _ | exact zr_shl _ _) (fun c111 => ?_) (fun c111 => ?_)
          · try replace c111 := zb_1 c111
            refine z_aload_n 117 dX10_judged_116 rfl rfl ?_
            refine z_getf (ci := 10) 120 dX10_judged_117 rfl rfl zin_10 4 (by decide) zw_768 (by first | with_reducible assumption | with_reducible exact zup_same _ _ _) rfl ?_
            refine z_iload_n 121 dX10_judged_120 rfl rfl ?_
            refine z_cS2 124 dX10_judged_121 rfl kX10_changeOn zw_1002 (Nat.le_of_ble_eq_true rfl) ⟨Nat.le_refl _, Nat.le_refl _⟩ ?_
            refine c_X10_changeOn (by decide) (R := TR) w115 (by omega) ?_
            refine z_iconst 125 dX10_judged_124 rfl ?_
            refine z_ret dX10_judged_125 (by first | exact True.intro | exact Or.inl rfl | exact Or.inr rfl | exact zb_01 _ | assumption | (show _ ∨ _; omega)) ⟨Nat.le_refl _, Nat.le_refl _⟩ ?_
            exact f1 _ (by rw [e, if_pos ⟨c92, by unfold zrfC; rw [if_neg (by omega), if_neg c111]⟩]) _ _ (hW.s115 _).mt (hR.chg hN (i := b) (by omega)) (self.up _ (by omega))
          · try replace c111 := zb_0 c111
            refine z_iconst 115 dX10_judged_114 rfl ?_
            refine z_ret dX10_judged_115 (by first | exact True.intro | exact Or.inl rfl | exact Or.inr rfl | exact zb_01 _ | assumption | (show _ ∨ _; omega)) ⟨Nat.le_refl _, Nat.le_refl _⟩ ?_
            first | exact f0 (by rw [e, if_neg (fun q => c92 q.1)]) _ _ hW0 hR self | exact f0 (by rw [e, if_neg (fun q => by have := zrfC_0 q.2; omega)]) _ _ hW0 hR self | exact f0 (by rw [e, if_neg (fun q => c111 (zrfC_0 q.2).2)]) _ _ hW0 hR self
  · have e : zcan N M G 3 a b (D, E, P) = if a = 0 ∧ b = 0 then (true, (D, (zQK D G E P N).1, (zQK D G E P N).2)) else (false, (D, E, P)) := rfl
    refine zC.of zpl_X10 (Nat.le_of_ble_eq_true rfl) ?_
    refine z_iload_n 1 dX10_judged_0 rfl rfl ?_
    · refine z_tableIn 126 dX10_judged_1 (by omega) (by omega) (by omega) rfl (by decide) ?_
      refine z_iload_n 127 dX10_judged_126 rfl rfl ?_
      refine z_if_ne 134 130 dX10_judged_127 (by decide) rfl (by first | omega | exact zr_b _ | exact zr_and _ _ | exact zr_or _ _ | exact zr_shl _ _) (fun c127 => ?_) (fun c127 => ?_)
      · try replace c127 := zb_1 c127
        refine z_iconst 135 dX10_judged_134 rfl ?_
        refine z_ret dX10_judged_135 (by first | exact True.intro | exact Or.inl rfl | exact Or.inr rfl | exact zb_01 _ | assumption | (show _ ∨ _; omega)) ⟨Nat.le_refl _, Nat.le_refl _⟩ ?_
        exact f0 (by rw [e, if_neg (by omega)]) _ _ hW0 hR self
      · try replace c127 := zb_0 c127
        refine z_iload_n 131 dX10_judged_130 rfl rfl ?_
        refine z_if_eq 136 134 dX10_judged_131 (by decide) rfl (by first | omega | exact zr_b _ | exact zr_and _ _ | exact zr_or _ _ | exact zr_shl _ _) (fun c131 => ?_) (fun c131 => ?_)
        · try replace c131 := zb_0 c131
          refine z_aload_n 137 dX10_judged_136 rfl rfl ?_
          refine z_aload_n 138 dX10_judged_137 rfl rfl ?_
          refine z_getf (ci := 10) 141 dX10_judged_138 rfl rfl zin_10 4 (by decide) zw_768 (by first | with_reducible assumption | with_reducible exact zup_same _ _ _) rfl ?_
          refine z_cV1 144 dX10_judged_141 rfl kX10_quick zw_903 (Nat.le_of_ble_eq_true rfl) ⟨Nat.le_refl _, Nat.le_refl _⟩ (by first | with_reducible assumption | with_reducible exact zup_same _ _ _) ?_
          refine c_X10_quick hW.c112 rfl hW.c122 hW.c123 w115 (by decide) hR hO (by decide) (fun h2 WH' BG' R' hF2 g1 g2 g3 hR' => ?_)
          refine z_iconst 145 dX10_judged_144 rfl ?_
          refine z_ret dX10_judged_145 (by first | exact True.intro | exact Or.inl rfl | exact Or.inr rfl | exact zb_01 _ | assumption | (show _ ∨ _; omega)) ⟨Nat.le_refl _, Nat.le_refl _⟩ ?_
          exact f1 _ (by rw [e, if_pos (by omega)]) _ _ (hW.qk5 hF2 g1 g2 g3).mt hR' (hF2.mod (by decide))
        · try replace c131 := zb_1 c131
          refine z_iconst 135 dX10_judged_134 rfl ?_
          refine z_ret dX10_judged_135 (by first | exact True.intro | exact Or.inl rfl | exact Or.inr rfl | exact zb_01 _ | assumption | (show _ ∨ _; omega)) ⟨Nat.le_refl _, Nat.le_refl _⟩ ?_
          exact f0 (by rw [e, if_neg (by omega)]) _ _ hW0 hR self
  · have e : zcan N M G 4 a b (D, E, P) = if zrfS N a 0 b = 0 then (true, (zst D a b, E, P)) else (false, (D, E, P)) := rfl
    refine zC.of zpl_X10 (Nat.le_of_ble_eq_true rfl) ?_
    refine z_iload_n 1 dX10_judged_0 rfl rfl ?_
    · refine z_tableIn 146 dX10_judged_1 (by omega) (by omega) (by omega) rfl (by decide) ?_
      refine z_aload_n 147 dX10_judged_146 rfl rfl ?_
      refine z_iload_n 148 dX10_judged_147 rfl rfl ?_
      refine z_cV1 151 dX10_judged_148 rfl kX10_isPerson zw_939 (Nat.le_of_ble_eq_true rfl) ⟨Nat.le_refl _, Nat.le_refl _⟩ (by first | with_reducible assumption | with_reducible exact zup_same _ _ _) ?_
      refine c_X10_isPerson hW.c112 (by show 1 ≤ ((N + 1 : Nat) : Int) ∧ ((N + 1 : Nat) : Int) ≤ 8; omega) (by omega) ?_
      refine z_if_eq 158 154 dX10_judged_151 (by decide) rfl (by first | omega | exact zr_b _ | exact zr_and _ _ | exact zr_or _ _ | exact zr_shl _ _) (fun c151 => ?_) (fun c151 => ?_)
      · try replace c151 := zb_0 c151
        have c151 : ¬ (0 ≤ a ∧ a < ((N + 1 : Nat) : Int)) := c151
        refine z_iconst 159 dX10_judged_158 rfl ?_
        refine z_ret dX10_judged_159 (by first | exact True.intro | exact Or.inl rfl | exact Or.inr rfl | exact zb_01 _ | assumption | (show _ ∨ _; omega)) ⟨Nat.le_refl _, Nat.le_refl _⟩ ?_
        exact f0 (by rw [e, if_neg (fun q => by have := zrfS_00 q; omega)]) _ _ hW0 hR self
      · try replace c151 := zb_1 c151
        have c151 : 0 ≤ a ∧ a < ((N + 1 : Nat) : Int) := c151
        refine z_iload_n 155 dX10_judged_154 rfl rfl ?_
        refine z_if_ne 160 158 dX10_judged_155 (by decide) rfl (by first | omega | exact zr_b _ | exact zr_and _ _ | exact zr_or _ _ | exact zr_shl _ _) (fun c155 => ?_) (fun c155 => ?_)
        · try replace c155 := zb_1 c155
          refine z_aload_n 161 dX10_judged_160 rfl rfl ?_
          refine z_getf (ci := 10) 164 dX10_judged_161 rfl rfl zin_10 4 (by decide) zw_768 (by first | with_reducible assumption | with_reducible exact zup_same _ _ _) rfl ?_
          refine z_iconst 165 dX10_judged_164 rfl ?_
          refine z_iload_n 166 dX10_judged_165 rfl rfl ?_
          refine z_iadd 167 dX10_judged_166 rfl ?_
          refine z_iload_n 168 dX10_judged_167 rfl rfl ?_
          refine z_iast 169 dX10_judged_168 rfl (by omega) (by first | with_reducible assumption | with_reducible exact zup_same _ _ _) (by omega) (by first | omega | exact zr_b _ | exact zr_and _ _ | exact zr_or _ _ | exact zr_shl _ _) ?_
          refine z_iconst 170 dX10_judged_169 rfl ?_
          refine z_ret dX10_judged_170 (by first | exact True.intro | exact Or.inl rfl | exact Or.inr rfl | exact zb_01 _ | assumption | (show _ ∨ _; omega)) ⟨Nat.le_refl _, Nat.le_refl _⟩ ?_
          exact f1 _ (by rw [e, if_pos (by unfold zrfS; rw [if_neg (by omega), if_neg (by omega), if_pos rfl, if_neg (by omega)])]) _ _ (hW.s115 _).mt (hR.setD (fun _ _ _ => rfl) hN (p := a) (v := b) (by omega)) (self.up _ (by omega))
        · try replace c155 := zb_0 c155
          refine z_iconst 159 dX10_judged_158 rfl ?_
          refine z_ret dX10_judged_159 (by first | exact True.intro | exact Or.inl rfl | exact Or.inr rfl | exact zb_01 _ | assumption | (show _ ∨ _; omega)) ⟨Nat.le_refl _, Nat.le_refl _⟩ ?_
          exact f0 (by rw [e, if_neg (fun q => by have := zrfS_00 q; omega)]) _ _ hW0 hR self
  · have e : zcan N M G 5 a b (D, E, P) = (decide (zLAST D G E P N M = 10 * a + b), (D, E, P)) := rfl
    have hl := zLAST_b hO (by omega) hM.2
    refine zC.of zpl_X10 (Nat.le_of_ble_eq_true rfl) ?_
    refine z_iload_n 1 dX10_judged_0 rfl rfl ?_
    · refine z_tableIn 171 dX10_judged_1 (by omega) (by omega) (by omega) rfl (by decide) ?_
      refine z_aload_n 172 dX10_judged_171 rfl rfl ?_
      refine z_aload_n 173 dX10_judged_172 rfl rfl ?_
      refine z_getf (ci := 10) 176 dX10_judged_173 rfl rfl zin_10 4 (by decide) zw_768 (by first | with_reducible assumption | with_reducible exact zup_same _ _ _) rfl ?_
      refine z_cV1 179 dX10_judged_176 rfl kX10_lastOf zw_883 (Nat.le_of_ble_eq_true rfl) ⟨Nat.le_refl _, Nat.le_refl _⟩ (by first | with_reducible assumption | with_reducible exact zup_same _ _ _) ?_
      refine c_X10_lastOf hW.c112 rfl w115 (by decide) hW.c121 hR hO (by decide) hM.2 (fun T1 => ?_)
      have hW2 := (hW.s121 T1).mt
      refine z_bipush 181 dX10_judged_179 rfl (by decide) ?_
      refine z_iload_n 182 dX10_judged_181 rfl rfl ?_
      refine z_imul 183 dX10_judged_182 rfl ?_
      refine z_iload_n 184 dX10_judged_183 rfl rfl ?_
      refine z_iadd 185 dX10_judged_184 rfl ?_
      refine z_icmp_ne 192 188 dX10_judged_185 (by decide) rfl (by first | omega | exact zr_b _ | exact zr_and _ _ | exact zr_or _ _ | exact zr_shl _ _) (by first | omega | exact zr_b _ | exact zr_and _ _ | exact zr_or _ _ | exact zr_shl _ _) (fun c185 => ?_) (fun c185 => ?_)
      · refine z_iconst 193 dX10_judged_192 rfl ?_
        refine z_ret dX10_judged_193 (by first | exact True.intro | exact Or.inl rfl | exact Or.inr rfl | exact zb_01 _ | assumption | (show _ ∨ _; omega)) ⟨Nat.le_refl _, Nat.le_refl _⟩ ?_
        first | exact f1 _ (by rw [e, decide_eq_true (by omega)]) _ _ hW2 hR (self.up _ (by omega)) | exact f0 (by rw [e, decide_eq_false c185]) _ _ hW2 hR (self.up _ (by omega))
      · refine z_iconst 189 dX10_judged_188 rfl ?_
        refine z_goto 193 dX10_judged_189 (by decide) ?_
        refine z_ret dX10_judged_193 (by first | exact True.intro | exact Or.inl rfl | exact Or.inr rfl | exact zb_01 _ | assumption | (show _ ∨ _; omega)) ⟨Nat.le_refl _, Nat.le_refl _⟩ ?_
        first | exact f1 _ (by rw [e, decide_eq_true (by omega)]) _ _ hW2 hR (self.up _ (by omega)) | exact f0 (by rw [e, decide_eq_false c185]) _ _ hW2 hR (self.up _ (by omega))
  · have e : zcan N M G 6 a b (D, E, P) = (decide ((0 ≤ a ∧ a < N + 1) ∧ zTK D G E P N M a 0 ≤ b), (D, E, P)) := rfl
    refine zC.of zpl_X10 (Nat.le_of_ble_eq_true rfl) ?_
    refine z_iload_n 1 dX10_judged_0 rfl rfl ?_
    · refine z_tableIn 194 dX10_judged_1 (by omega) (by omega) (by omega) rfl (by decide) ?_
      refine z_aload_n 195 dX10_judged_194 rfl rfl ?_
      refine z_aload_n 196 dX10_judged_195 rfl rfl ?_
      refine z_getf (ci := 10) 199 dX10_judged_196 rfl rfl zin_10 4 (by decide) zw_768 (by first | with_reducible assumption | with_reducible exact zup_same _ _ _) rfl ?_
      refine z_cV1 202 dX10_judged_199 rfl kX10_layTicks zw_891 (Nat.le_of_ble_eq_true rfl) ⟨Nat.le_refl _, Nat.le_refl _⟩ (by first | with_reducible assumption | with_reducible exact zup_same _ _ _) ?_
      refine c_X10_layTicks hW.c112 rfl w115 (by decide) hW.c121 hR hO (by decide) hM.2 (fun T' hT => ?_)
      have hW1 := hW.s121 T'
      have w112 := hW1.c112
      dsimp only [zMO, zMS.C, zMS.l, zMS.n, zMS.R, zMS.TR, zMS.DI, zMS.ac, zMS.nx, zMS.KP, zMS.IK, zMS.SW, zMS.ST, zMS.sn, zMS.sd, zMS.TI, zMS.WH, zMS.BG, zMS.OD, zMS.WO, zMS.MA, zMS.rp, zMS.RD, zMS.rs, zMS.rm, zMS.rw, zMS.uC, zMS.ul, zMS.un, zMS.uR, zMS.uTR, zMS.uDI, zMS.uac, zMS.unx, zMS.uKP, zMS.uIK, zMS.uSW, zMS.uST, zMS.usn, zMS.usd, zMS.uTI, zMS.uWH, zMS.uBG, zMS.uOD, zMS.uWO, zMS.uMA, zMS.urp, zMS.uRD, zMS.urs, zMS.urm, zMS.urw] at w112
      have w121 := hW1.c121
      dsimp only [zMO, zMS.C, zMS.l, zMS.n, zMS.R, zMS.TR, zMS.DI, zMS.ac, zMS.nx, zMS.KP, zMS.IK, zMS.SW, zMS.ST, zMS.sn, zMS.sd, zMS.TI, zMS.WH, zMS.BG, zMS.OD, zMS.WO, zMS.MA, zMS.rp, zMS.RD, zMS.rs, zMS.rm, zMS.rw, zMS.uC, zMS.ul, zMS.un, zMS.uR, zMS.uTR, zMS.uDI, zMS.uac, zMS.unx, zMS.uKP, zMS.uIK, zMS.uSW, zMS.uST, zMS.usn, zMS.usd, zMS.uTI, zMS.uWH, zMS.uBG, zMS.uOD, zMS.uWO, zMS.uMA, zMS.urp, zMS.uRD, zMS.urs, zMS.urm, zMS.urw] at w121
      have hW2 := hW1.mt
      refine z_aload_n 203 dX10_judged_202 rfl rfl ?_
      refine z_iload_n 204 dX10_judged_203 rfl rfl ?_
      refine z_cV1 207 dX10_judged_204 rfl kX10_isPerson zw_939 (Nat.le_of_ble_eq_true rfl) ⟨Nat.le_refl _, Nat.le_refl _⟩ (by first | with_reducible assumption | with_reducible exact zup_same _ _ _) ?_
      refine c_X10_isPerson hW1.c112 (by show 1 ≤ ((N + 1 : Nat) : Int) ∧ ((N + 1 : Nat) : Int) ≤ 8; omega) (by omega) ?_
      refine z_if_eq 226 210 dX10_judged_207 (by decide) rfl (by first | omega | exact zr_b _ | exact zr_and _ _ | exact zr_or _ _ | exact zr_shl _ _) (fun c207 => ?_) (fun c207 => ?_)
      · try replace c207 := zb_0 c207
        have c207 : ¬ (0 ≤ a ∧ a < ((N + 1 : Nat) : Int)) := c207
        refine z_iconst 227 dX10_judged_226 rfl ?_
        refine z_ret dX10_judged_227 (by first | exact True.intro | exact Or.inl rfl | exact Or.inr rfl | exact zb_01 _ | assumption | (show _ ∨ _; omega)) ⟨Nat.le_refl _, Nat.le_refl _⟩ ?_
        first | exact f1 _ (by rw [e, decide_eq_true (by omega)]) _ _ hW2 hR (self.up _ (by omega)) | exact f0 (by rw [e, decide_eq_false (by omega)]) _ _ hW2 hR (self.up _ (by omega))
      · try replace c207 := zb_1 c207
        have c207 : 0 ≤ a ∧ a < ((N + 1 : Nat) : Int) := c207
        have hb2 := zTK_b hO (by omega) hM.2 (p := a) (k := 0) (by omega) (by omega) (by omega)
        have e3 := hT a 0 (by omega) (by omega) (by omega)
        rw [show 3 * a + ((0 : Nat) : Int) = 3 * a by omega] at e3
        refine z_aload_n 211 dX10_judged_210 rfl rfl ?_
        refine z_getf (ci := 10) 214 dX10_judged_211 rfl rfl zin_10 14 (by decide) zw_778 (by first | with_reducible assumption | with_reducible exact zup_same _ _ _) rfl ?_
        refine z_iconst 215 dX10_judged_214 rfl ?_
        refine z_iload_n 216 dX10_judged_215 rfl rfl ?_
        refine z_imul 217 dX10_judged_216 rfl ?_
        refine z_iald 218 dX10_judged_217 rfl (by first | with_reducible assumption | with_reducible exact zup_same _ _ _) (by omega) (by first | omega | exact zr_b _ | exact zr_and _ _ | exact zr_or _ _ | exact zr_shl _ _) ?_
        rw [e3]
        refine z_iload_n 219 dX10_judged_218 rfl rfl ?_
        refine z_icmp_gt 226 222 dX10_judged_219 (by decide) rfl (by first | omega | exact zr_b _ | exact zr_and _ _ | exact zr_or _ _ | exact zr_shl _ _) (by first | omega | exact zr_b _ | exact zr_and _ _ | exact zr_or _ _ | exact zr_shl _ _) (fun c219 => ?_) (fun c219 => ?_)
        · refine z_iconst 227 dX10_judged_226 rfl ?_
          refine z_ret dX10_judged_227 (by first | exact True.intro | exact Or.inl rfl | exact Or.inr rfl | exact zb_01 _ | assumption | (show _ ∨ _; omega)) ⟨Nat.le_refl _, Nat.le_refl _⟩ ?_
          first | exact f1 _ (by rw [e, decide_eq_true (by omega)]) _ _ hW2 hR (self.up _ (by omega)) | exact f0 (by rw [e, decide_eq_false (by omega)]) _ _ hW2 hR (self.up _ (by omega))
        · refine z_iconst 223 dX10_judged_222 rfl ?_
          refine z_goto 227 dX10_judged_223 (by decide) ?_
          refine z_ret dX10_judged_227 (by first | exact True.intro | exact Or.inl rfl | exact Or.inr rfl | exact zb_01 _ | assumption | (show _ ∨ _; omega)) ⟨Nat.le_refl _, Nat.le_refl _⟩ ?_
          first | exact f1 _ (by rw [e, decide_eq_true (by omega)]) _ _ hW2 hR (self.up _ (by omega)) | exact f0 (by rw [e, decide_eq_false (by omega)]) _ _ hW2 hR (self.up _ (by omega))
  · have e : zcan N M G 7 a b (D, E, P) = (decide ((0 ≤ a ∧ a < N + 1) ∧ zcnt E P a N = b), (D, E, P)) := rfl
    have hcN := zct_b E a N
    rw [zct_eq hO] at hcN
    refine zC.of zpl_X10 (Nat.le_of_ble_eq_true rfl) ?_
    refine z_iload_n 1 dX10_judged_0 rfl rfl ?_
    · refine z_tableIn 228 dX10_judged_1 (by omega) (by omega) (by omega) rfl (by decide) ?_
      refine z_aload_n 229 dX10_judged_228 rfl rfl ?_
      refine z_iload_n 230 dX10_judged_229 rfl rfl ?_
      refine z_cV1 233 dX10_judged_230 rfl kX10_isPerson zw_939 (Nat.le_of_ble_eq_true rfl) ⟨Nat.le_refl _, Nat.le_refl _⟩ (by first | with_reducible assumption | with_reducible exact zup_same _ _ _) ?_
      refine c_X10_isPerson hW.c112 (by show 1 ≤ ((N + 1 : Nat) : Int) ∧ ((N + 1 : Nat) : Int) ≤ 8; omega) (by omega) ?_
      refine z_if_eq 253 236 dX10_judged_233 (by decide) rfl (by first | omega | exact zr_b _ | exact zr_and _ _ | exact zr_or _ _ | exact zr_shl _ _) (fun c233 => ?_) (fun c233 => ?_)
      · try replace c233 := zb_0 c233
        have c233 : ¬ (0 ≤ a ∧ a < ((N + 1 : Nat) : Int)) := c233
        refine z_iconst 254 dX10_judged_253 rfl ?_
        refine z_ret dX10_judged_254 (by first | exact True.intro | exact Or.inl rfl | exact Or.inr rfl | exact zb_01 _ | assumption | (show _ ∨ _; omega)) ⟨Nat.le_refl _, Nat.le_refl _⟩ ?_
        first | exact f1 _ (by rw [e, decide_eq_true (by omega)]) _ _ hW0 hR self | exact f0 (by rw [e, decide_eq_false (by omega)]) _ _ hW0 hR self
      · try replace c233 := zb_1 c233
        have c233 : 0 ≤ a ∧ a < ((N + 1 : Nat) : Int) := c233
        refine z_aload_n 237 dX10_judged_236 rfl rfl ?_
        refine z_aload_n 238 dX10_judged_237 rfl rfl ?_
        refine z_getf (ci := 10) 241 dX10_judged_238 rfl rfl zin_10 4 (by decide) zw_768 (by first | with_reducible assumption | with_reducible exact zup_same _ _ _) rfl ?_
        refine z_iload_n 242 dX10_judged_241 rfl rfl ?_
        refine z_cV2 245 dX10_judged_242 rfl kX10_toldBy zw_947 (Nat.le_of_ble_eq_true rfl) ⟨Nat.le_refl _, Nat.le_refl _⟩ (by first | with_reducible assumption | with_reducible exact zup_same _ _ _) ?_
        refine c_X10_toldBy hW.c112 rfl w115 hR hO (by omega) ?_
        refine z_iload_n 246 dX10_judged_245 rfl rfl ?_
        refine z_icmp_ne 253 249 dX10_judged_246 (by decide) rfl (by first | omega | exact zr_b _ | exact zr_and _ _ | exact zr_or _ _ | exact zr_shl _ _) (by first | omega | exact zr_b _ | exact zr_and _ _ | exact zr_or _ _ | exact zr_shl _ _) (fun c246 => ?_) (fun c246 => ?_)
        · refine z_iconst 254 dX10_judged_253 rfl ?_
          refine z_ret dX10_judged_254 (by first | exact True.intro | exact Or.inl rfl | exact Or.inr rfl | exact zb_01 _ | assumption | (show _ ∨ _; omega)) ⟨Nat.le_refl _, Nat.le_refl _⟩ ?_
          first | exact f1 _ (by rw [e, decide_eq_true (by omega)]) _ _ hW0 hR self | exact f0 (by rw [e, decide_eq_false (by omega)]) _ _ hW0 hR self
        · refine z_iconst 250 dX10_judged_249 rfl ?_
          refine z_goto 254 dX10_judged_250 (by decide) ?_
          refine z_ret dX10_judged_254 (by first | exact True.intro | exact Or.inl rfl | exact Or.inr rfl | exact zb_01 _ | assumption | (show _ ∨ _; omega)) ⟨Nat.le_refl _, Nat.le_refl _⟩ ?_
          first | exact f1 _ (by rw [e, decide_eq_true (by omega)]) _ _ hW0 hR self | exact f0 (by rw [e, decide_eq_false (by omega)]) _ _ hW0 hR self
  · have e : zcan N M G k a b (D, E, P) = (false, (D, E, P)) := by
      unfold zcan
      rw [if_neg (by omega), if_neg (by omega), if_neg (by omega), if_neg (by omega), if_neg (by omega), if_neg (by omega), if_neg (by omega)]
    refine zC.of zpl_X10 (Nat.le_of_ble_eq_true rfl) ?_
    refine z_iload_n 1 dX10_judged_0 rfl rfl ?_
    · refine z_tableOut 255 dX10_judged_1 (by omega) hk (by decide) ?_
      refine z_iconst 256 dX10_judged_255 rfl ?_
      refine z_ret dX10_judged_256 (by first | exact True.intro | exact Or.inl rfl | exact Or.inr rfl | exact zb_01 _ | assumption | (show _ ∨ _; omega)) ⟨Nat.le_refl _, Nat.le_refl _⟩ ?_
      exact f0 e _ _ hW0 hR self
theorem zrs_eq (row : Int) : ∀ j : Nat, zrs row j = row / ((1000 ^ j : Nat) : Int)
  | 0 => by unfold zrs; simp
  | j + 1 => by
    unfold zrs
    rw [zrs_eq row j, Int.ediv_ediv_of_nonneg (Int.natCast_nonneg _), Nat.pow_succ, Int.natCast_mul]
    rfl
theorem c_X10_thousands {n : Nat} (hn : n ≤ 4) (hQ : Q (some (vJ ((1000 ^ n : Nat) : Int))) h) : zC d mX10_thousands 0 0 [vI n] h Q := by
  have key : ∀ i : Nat, i ≤ n → Z d mX10_thousands zo 4 [some (vI n), some (vJ ((1000 ^ i : Nat) : Int)), none, some (vI i)] [] h Q := by
    refine z_loop n ?_ ?_
    · refine z_iload_n 5 dX10_thousands_4 rfl rfl ?_
      refine z_iload_n 6 dX10_thousands_5 rfl rfl ?_
      refine z_icmp_ge 21 9 dX10_thousands_6 (by decide) rfl (by first | omega | exact zr_b _ | exact zr_and _ _ | exact zr_or _ _ | exact zr_shl _ _) (by first | omega | exact zr_b _ | exact zr_and _ _ | exact zr_or _ _ | exact zr_shl _ _) (fun c6 => ?_) (fun c6 => ?_)
      · refine z_lload_n 22 dX10_thousands_21 rfl rfl ?_
        refine z_lret dX10_thousands_22 (by first | exact True.intro | exact Or.inl rfl | exact Or.inr rfl | exact zb_01 _ | assumption | (show _ ∨ _; omega)) ⟨Nat.le_refl _, Nat.le_refl _⟩ ?_
        exact hQ
      · exfalso; omega
    · intro i hi ih
      have e : (((1000 ^ i : Nat) : Int)) * 1000 = ((1000 ^ (i + 1) : Nat) : Int) := by rw [Nat.pow_succ, Int.natCast_mul]; rfl
      refine z_iload_n 5 dX10_thousands_4 rfl rfl ?_
      refine z_iload_n 6 dX10_thousands_5 rfl rfl ?_
      refine z_icmp_ge 21 9 dX10_thousands_6 (by decide) rfl (by first | omega | exact zr_b _ | exact zr_and _ _ | exact zr_or _ _ | exact zr_shl _ _) (by first | omega | exact zr_b _ | exact zr_and _ _ | exact zr_or _ _ | exact zr_shl _ _) (fun c6 => ?_) (fun c6 => ?_)
      · exfalso; omega
      · refine z_lload_n 10 dX10_thousands_9 rfl rfl ?_
        refine z_ldc2 (x := 1000) 13 dX10_thousands_10 rfl zw_1047 ?_
        refine z_lmul 14 dX10_thousands_13 rfl ?_
        rw [e]
        refine z_lstore_n 15 dX10_thousands_14 rfl (by decide) ?_
        refine z_iinc 18 dX10_thousands_15 rfl (by decide) rfl ?_
        refine z_goto 4 dX10_thousands_18 (by decide) ?_
        exact ih
  refine zC.of zpl_X10 (Nat.le_of_ble_eq_true rfl) ?_
  refine z_lconst 1 dX10_thousands_0 rfl ?_
  refine z_lstore_n 2 dX10_thousands_1 rfl (by decide) ?_
  refine z_iconst 3 dX10_thousands_2 rfl ?_
  refine z_istore_n 4 dX10_thousands_3 rfl (by decide) ?_
  exact key 0 (Nat.zero_le _)
theorem m_judge_bad {n row : Int} (hn : -2147483648 ≤ n ∧ n ≤ 2147483647) (hr : -9223372036854775808 ≤ row ∧ row ≤ 9223372036854775807) (hbad : n < 1 ∨ 4 < n ∨ row < 0 ∨ zrs row n.toNat ≠ 0) (hQ : Q (some (vI (-2))) h) : zC (d + 6) mX10_judge 0 0 [vR 112, vI n, vJ row] h Q := by
  by_cases hn1 : n < 1 ∨ 4 < n
  · skip
    refine zC.of zpl_X10 (Nat.le_of_ble_eq_true rfl) ?_
    refine z_iload_n 1 dX10_judge_0 rfl rfl ?_
    refine z_i2l 2 dX10_judge_1 rfl (by first | omega | exact zr_b _ | exact zr_and _ _ | exact zr_or _ _ | exact zr_shl _ _) ?_
    refine z_lconst 3 dX10_judge_2 rfl ?_
    refine z_ldc2 (x := 4) 6 dX10_judge_3 rfl zw_1043 ?_
    refine z_cS3 9 dX10_judge_6 rfl kX10_in zw_846 (Nat.le_of_ble_eq_true rfl) ⟨Nat.le_refl _, Nat.le_refl _⟩ ?_
    refine c_X10_in (a := 1) (by omega) (by omega) (by omega) ?_
    rw [zb_f (by omega)]
    refine z_if_eq 26 12 dX10_judge_9 (by decide) rfl (by first | omega | exact zr_b _ | exact zr_and _ _ | exact zr_or _ _ | exact zr_shl _ _) (fun c9 => ?_) (fun c9 => ?_)
    · try replace c9 := zb_0 c9
      refine z_bipush 28 dX10_judge_26 rfl (by decide) ?_
      refine z_ret dX10_judge_28 (by first | exact True.intro | exact Or.inl rfl | exact Or.inr rfl | exact zb_01 _ | assumption | (show _ ∨ _; omega)) ⟨Nat.le_refl _, Nat.le_refl _⟩ ?_
      exact hQ
    · exact absurd rfl c9
  · obtain ⟨m, rfl⟩ : ∃ m : Nat, n = (m : Int) := ⟨n.toNat, by omega⟩
    have hp : ((1000 ^ m : Nat) : Int) ≤ 1000000000000 ∧ 0 < ((1000 ^ m : Nat) : Int) := by
      rcases (show m = 1 ∨ m = 2 ∨ m = 3 ∨ m = 4 by omega) with rfl | rfl | rfl | rfl <;> decide
    have e := zrs_eq row m
    rw [show ((m : Int)).toNat = m by omega, e] at hbad
    have hb2 : ¬ (0 ≤ row ∧ row ≤ ((1000 ^ m : Nat) : Int) - 1) := fun q => by
      have := Int.ediv_eq_zero_of_lt q.1 (show row < ((1000 ^ m : Nat) : Int) by omega)
      omega
    refine zC.of zpl_X10 (Nat.le_of_ble_eq_true rfl) ?_
    refine z_iload_n 1 dX10_judge_0 rfl rfl ?_
    refine z_i2l 2 dX10_judge_1 rfl (by first | omega | exact zr_b _ | exact zr_and _ _ | exact zr_or _ _ | exact zr_shl _ _) ?_
    refine z_lconst 3 dX10_judge_2 rfl ?_
    refine z_ldc2 (x := 4) 6 dX10_judge_3 rfl zw_1043 ?_
    refine z_cS3 9 dX10_judge_6 rfl kX10_in zw_846 (Nat.le_of_ble_eq_true rfl) ⟨Nat.le_refl _, Nat.le_refl _⟩ ?_
    refine c_X10_in (a := 1) (by omega) (by omega) (by omega) ?_
    rw [zb_t (by omega)]
    refine z_if_eq 26 12 dX10_judge_9 (by decide) rfl (by first | omega | exact zr_b _ | exact zr_and _ _ | exact zr_or _ _ | exact zr_shl _ _) (fun c9 => ?_) (fun c9 => ?_)
    · exact absurd c9 (by decide)
    · try replace c9 := zb_1 c9
      refine z_lload_n 13 dX10_judge_12 rfl rfl ?_
      refine z_lconst 14 dX10_judge_13 rfl ?_
      refine z_iload_n 15 dX10_judge_14 rfl rfl ?_
      refine z_cS1 18 dX10_judge_15 rfl kX10_thousands zw_1044 (Nat.le_of_ble_eq_true rfl) ⟨Nat.le_refl _, Nat.le_refl _⟩ ?_
      refine c_X10_thousands (by omega) ?_
      refine z_lconst 19 dX10_judge_18 rfl ?_
      refine z_lsub 20 dX10_judge_19 rfl ?_
      refine z_cS3 23 dX10_judge_20 rfl kX10_in zw_846 (Nat.le_of_ble_eq_true rfl) ⟨Nat.le_refl _, Nat.le_refl _⟩ ?_
      refine c_X10_in (a := 0) (by omega) (by omega) (by omega) ?_
      rw [zb_f (by omega)]
      refine z_if_ne 29 26 dX10_judge_23 (by decide) rfl (by first | omega | exact zr_b _ | exact zr_and _ _ | exact zr_or _ _ | exact zr_shl _ _) (fun c23 => ?_) (fun c23 => ?_)
      · exact absurd rfl c23
      · try replace c23 := zb_0 c23
        refine z_bipush 28 dX10_judge_26 rfl (by decide) ?_
        refine z_ret dX10_judge_28 (by first | exact True.intro | exact Or.inl rfl | exact Or.inr rfl | exact zb_01 _ | assumption | (show _ ∨ _; omega)) ⟨Nat.le_refl _, Nat.le_refl _⟩ ?_
        exact hQ
theorem m_judge {n r : Nat} {row : Int} (hW : zMC h C l ((N + 1 : Nat) : Int) R DI ac nx KP IK SW ST sn sd) (hR : zRo N M D G E P R) (hO : zOK 9 N D G E P) (hM : 1 ≤ M ∧ M ≤ 3) (hn : 1 ≤ n ∧ n ≤ 4) (hr : 0 ≤ row ∧ row ≤ 9223372036854775807) (hz : zrs row n = 0) (hrn : r ≤ n)
    (h1 : ∀ i : Nat, i < r → (zcan N M G ((zrs row (n - 1 - i) % 1000) / 100) ((zrs row (n - 1 - i) % 1000) / 10 % 10) ((zrs row (n - 1 - i) % 1000) % 10) (zXs N M G (fun i => zrs row (n - 1 - i) % 1000) (D, E, P) i)).1 = true) (h2 : r < n → (zcan N M G ((zrs row (n - 1 - r) % 1000) / 100) ((zrs row (n - 1 - r) % 1000) / 10 % 10) ((zrs row (n - 1 - r) % 1000) % 10) (zXs N M G (fun i => zrs row (n - 1 - i) % 1000) (D, E, P) r)).1 = false)
    (hQ : ∀ h' : zH, zMC h' C l ((N + 1 : Nat) : Int) R DI ac nx KP IK SW ST sn sd → zMod 112 127 h h' → Q (some (vI (if r < n then (r : Int) else -9))) h') : zC (d + 6) mX10_judge 0 0 [vR 112, vI n, vJ row] h Q := by
  have hN := hO.1
  obtain ⟨dg, hdg⟩ : ∃ dg : Nat → Int, dg = fun i => zrs row (n - 1 - i) % 1000 := ⟨_, rfl⟩
  have hdb : ∀ i : Nat, 0 ≤ dg i ∧ dg i < 1000 := fun i => by rw [hdg]; have := zrs_b hr (n - 1 - i); dsimp only; omega
  have h1' : ∀ i : Nat, i < r → (zcan N M G (dg i / 100) (dg i / 10 % 10) (dg i % 10) (zXs N M G dg (D, E, P) i)).1 = true := by rw [hdg]; exact h1
  have h2' : r < n → (zcan N M G (dg r / 100) (dg r / 10 % 10) (dg r % 10) (zXs N M G dg (D, E, P) r)).1 = false := by rw [hdg]; exact h2
  have hpow : ∀ m : Nat, m ≤ 4 → ((1000 ^ m : Nat) : Int) ≤ 1000000000000 ∧ 0 < ((1000 ^ m : Nat) : Int) := fun m hm => by
    rcases (show m = 0 ∨ m = 1 ∨ m = 2 ∨ m = 3 ∨ m = 4 by omega) with rfl | rfl | rfl | rfl | rfl <;> decide
  have hdv : ∀ i : Nat, i < n → row / ((1000 ^ (n - 1 - i) : Nat) : Int) % 1000 = dg i := fun i hi => by rw [hdg, ← zrs_eq]
  have hdb2 : ∀ i : Nat, i < n → 0 ≤ row / ((1000 ^ (n - 1 - i) : Nat) : Int) ∧ row / ((1000 ^ (n - 1 - i) : Nat) : Int) ≤ 9223372036854775807 := fun i hi => by rw [← zrs_eq]; exact zrs_b hr _
  have key : ∀ i : Nat, i ≤ r → ∀ (h' : zH) (w : Option zV) (TR' : Int → Int), zMT h' C l ((N + 1 : Nat) : Int) R DI ac nx KP IK SW ST sn sd TR' → zRo N M (zXs N M G dg (D, E, P) i).1 G (zXs N M G dg (D, E, P) i).2.1 (zXs N M G dg (D, E, P) i).2.2 TR' → zMod 112 127 h h' → Z (d + 6) mX10_judge zo 43 [some (vR 112), some (vI n), some (vJ row), none, some (vI i), w] [] h' Q := by
    refine z_loop r ?_ ?_
    · intro h' w TR' hW' hR' hF
      have e2 := hQ _ hW'.mc hF
      by_cases e : r < n
      · rw [if_pos e] at e2
        have hd1 := hdb r
        have hOr := zXs_ok (M := M) (dg := dg) (X := (D, E, P)) hO r
        have ev := hdv r e
        have eb := hdb2 r e
        have ep := hpow (n - 1 - r) (by omega)
        have hW'' := hW'
        obtain ⟨TI, WH, BG, OD, WO, MA, RD, rp, rs, rm, rw', hW''⟩ := hW''
        have w112 := hW''.c112
        dsimp only [zMO, zMS.C, zMS.l, zMS.n, zMS.R, zMS.TR, zMS.DI, zMS.ac, zMS.nx, zMS.KP, zMS.IK, zMS.SW, zMS.ST, zMS.sn, zMS.sd, zMS.TI, zMS.WH, zMS.BG, zMS.OD, zMS.WO, zMS.MA, zMS.rp, zMS.RD, zMS.rs, zMS.rm, zMS.rw, zMS.uC, zMS.ul, zMS.un, zMS.uR, zMS.uTR, zMS.uDI, zMS.uac, zMS.unx, zMS.uKP, zMS.uIK, zMS.uSW, zMS.uST, zMS.usn, zMS.usd, zMS.uTI, zMS.uWH, zMS.uBG, zMS.uOD, zMS.uWO, zMS.uMA, zMS.urp, zMS.uRD, zMS.urs, zMS.urm, zMS.urw] at w112
        refine z_iload 45 dX10_judge_43 rfl rfl ?_
        refine z_iload_n 46 dX10_judge_45 rfl rfl ?_
        refine z_icmp_ge 101 49 dX10_judge_46 (by decide) rfl (by first | omega | exact zr_b _ | exact zr_and _ _ | exact zr_or _ _ | exact zr_shl _ _) (by first | omega | exact zr_b _ | exact zr_and _ _ | exact zr_or _ _ | exact zr_shl _ _) (fun c46 => ?_) (fun c46 => ?_)
        · exfalso; omega
        · refine z_lload_n 50 dX10_judge_49 rfl rfl ?_
          refine z_iload_n 51 dX10_judge_50 rfl rfl ?_
          refine z_iconst 52 dX10_judge_51 rfl ?_
          refine z_isub 53 dX10_judge_52 rfl ?_
          refine z_iload 55 dX10_judge_53 rfl rfl ?_
          refine z_isub 56 dX10_judge_55 rfl ?_
          rw [show (n : Int) - 1 - r = ((n - 1 - r : Nat) : Int) by omega]
          refine z_cS1 59 dX10_judge_56 rfl kX10_thousands zw_1044 (Nat.le_of_ble_eq_true rfl) ⟨Nat.le_refl _, Nat.le_refl _⟩ ?_
          refine c_X10_thousands (by omega) ?_
          refine z_ldiv 60 dX10_judge_59 rfl (by first | omega | exact zr_b _ | exact zr_and _ _ | exact zr_or _ _ | exact zr_shl _ _) (by first | omega | exact zr_b _ | exact zr_and _ _ | exact zr_or _ _ | exact zr_shl _ _) ?_
          refine z_ldc2 (x := 1000) 63 dX10_judge_60 rfl zw_1047 ?_
          refine z_lrem 64 dX10_judge_63 rfl (by first | omega | exact zr_b _ | exact zr_and _ _ | exact zr_or _ _ | exact zr_shl _ _) (by first | omega | exact zr_b _ | exact zr_and _ _ | exact zr_or _ _ | exact zr_shl _ _) ?_
          rw [ev]
          refine z_l2i 65 dX10_judge_64 rfl ?_
          rw [zl2i_small (by omega)]
          refine z_istore 67 dX10_judge_65 rfl (by decide) ?_
          refine z_aload_n 68 dX10_judge_67 rfl rfl ?_
          refine z_iload 70 dX10_judge_68 rfl rfl ?_
          refine z_bipush 72 dX10_judge_70 rfl (by decide) ?_
          refine z_idiv 73 dX10_judge_72 rfl (by first | omega | exact zr_b _ | exact zr_and _ _ | exact zr_or _ _ | exact zr_shl _ _) (by first | omega | exact zr_b _ | exact zr_and _ _ | exact zr_or _ _ | exact zr_shl _ _) ?_
          refine z_iload 75 dX10_judge_73 rfl rfl ?_
          refine z_bipush 77 dX10_judge_75 rfl (by decide) ?_
          refine z_idiv 78 dX10_judge_77 rfl (by first | omega | exact zr_b _ | exact zr_and _ _ | exact zr_or _ _ | exact zr_shl _ _) (by first | omega | exact zr_b _ | exact zr_and _ _ | exact zr_or _ _ | exact zr_shl _ _) ?_
          refine z_bipush 80 dX10_judge_78 rfl (by decide) ?_
          refine z_irem 81 dX10_judge_80 rfl (by first | omega | exact zr_b _ | exact zr_and _ _ | exact zr_or _ _ | exact zr_shl _ _) (by first | omega | exact zr_b _ | exact zr_and _ _ | exact zr_or _ _ | exact zr_shl _ _) ?_
          refine z_iload 83 dX10_judge_81 rfl rfl ?_
          refine z_bipush 85 dX10_judge_83 rfl (by decide) ?_
          refine z_irem 86 dX10_judge_85 rfl (by first | omega | exact zr_b _ | exact zr_and _ _ | exact zr_or _ _ | exact zr_shl _ _) (by first | omega | exact zr_b _ | exact zr_and _ _ | exact zr_or _ _ | exact zr_shl _ _) ?_
          refine z_cV3 89 dX10_judge_86 rfl kX10_judged zw_1048 (Nat.le_of_ble_eq_true rfl) ⟨Nat.le_refl _, Nat.le_refl _⟩ (by first | with_reducible assumption | with_reducible exact zup_same _ _ _) ?_
          refine c_X10_judged hW' hR' hOr hM (by omega) (by omega) (by omega) (fun h3 TR3 hW3 hR3 hF3 => ?_)
          rw [h2' e]
          have hQ3 := hQ _ hW3.mc (hF.tr hF3)
          rw [if_pos e] at hQ3
          refine z_if_ne 95 92 dX10_judge_89 (by decide) rfl (by first | omega | exact zr_b _ | exact zr_and _ _ | exact zr_or _ _ | exact zr_shl _ _) (fun c89 => ?_) (fun c89 => ?_)
          · exact absurd rfl c89
          · try replace c89 := zb_0 c89
            refine z_iload 94 dX10_judge_92 rfl rfl ?_
            refine z_ret dX10_judge_94 (by first | exact True.intro | exact Or.inl rfl | exact Or.inr rfl | exact zb_01 _ | assumption | (show _ ∨ _; omega)) ⟨Nat.le_refl _, Nat.le_refl _⟩ ?_
            exact hQ3
      · rw [if_neg e] at e2
        refine z_iload 45 dX10_judge_43 rfl rfl ?_
        refine z_iload_n 46 dX10_judge_45 rfl rfl ?_
        refine z_icmp_ge 101 49 dX10_judge_46 (by decide) rfl (by first | omega | exact zr_b _ | exact zr_and _ _ | exact zr_or _ _ | exact zr_shl _ _) (by first | omega | exact zr_b _ | exact zr_and _ _ | exact zr_or _ _ | exact zr_shl _ _) (fun c46 => ?_) (fun c46 => ?_)
        · refine z_bipush 103 dX10_judge_101 rfl (by decide) ?_
          refine z_ret dX10_judge_103 (by first | exact True.intro | exact Or.inl rfl | exact Or.inr rfl | exact zb_01 _ | assumption | (show _ ∨ _; omega)) ⟨Nat.le_refl _, Nat.le_refl _⟩ ?_
          exact e2
        · exfalso; omega
    · intro i hi ih h' w TR' hW' hR' hF
      have hd1 := hdb i
      have hOi := zXs_ok (M := M) (dg := dg) (X := (D, E, P)) hO i
      have ev := hdv i (by omega)
      have eb := hdb2 i (by omega)
      have ep := hpow (n - 1 - i) (by omega)
      have hW'' := hW'
      obtain ⟨TI, WH, BG, OD, WO, MA, RD, rp, rs, rm, rw', hW''⟩ := hW''
      have w112 := hW''.c112
      dsimp only [zMO, zMS.C, zMS.l, zMS.n, zMS.R, zMS.TR, zMS.DI, zMS.ac, zMS.nx, zMS.KP, zMS.IK, zMS.SW, zMS.ST, zMS.sn, zMS.sd, zMS.TI, zMS.WH, zMS.BG, zMS.OD, zMS.WO, zMS.MA, zMS.rp, zMS.RD, zMS.rs, zMS.rm, zMS.rw, zMS.uC, zMS.ul, zMS.un, zMS.uR, zMS.uTR, zMS.uDI, zMS.uac, zMS.unx, zMS.uKP, zMS.uIK, zMS.uSW, zMS.uST, zMS.usn, zMS.usd, zMS.uTI, zMS.uWH, zMS.uBG, zMS.uOD, zMS.uWO, zMS.uMA, zMS.urp, zMS.uRD, zMS.urs, zMS.urm, zMS.urw] at w112
      refine z_iload 45 dX10_judge_43 rfl rfl ?_
      refine z_iload_n 46 dX10_judge_45 rfl rfl ?_
      refine z_icmp_ge 101 49 dX10_judge_46 (by decide) rfl (by first | omega | exact zr_b _ | exact zr_and _ _ | exact zr_or _ _ | exact zr_shl _ _) (by first | omega | exact zr_b _ | exact zr_and _ _ | exact zr_or _ _ | exact zr_shl _ _) (fun c46 => ?_) (fun c46 => ?_)
      · exfalso; omega
      · refine z_lload_n 50 dX10_judge_49 rfl rfl ?_
        refine z_iload_n 51 dX10_judge_50 rfl rfl ?_
        refine z_iconst 52 dX10_judge_51 rfl ?_
        refine z_isub 53 dX10_judge_52 rfl ?_
        refine z_iload 55 dX10_judge_53 rfl rfl ?_
        refine z_isub 56 dX10_judge_55 rfl ?_
        rw [show (n : Int) - 1 - i = ((n - 1 - i : Nat) : Int) by omega]
        refine z_cS1 59 dX10_judge_56 rfl kX10_thousands zw_1044 (Nat.le_of_ble_eq_true rfl) ⟨Nat.le_refl _, Nat.le_refl _⟩ ?_
        refine c_X10_thousands (by omega) ?_
        refine z_ldiv 60 dX10_judge_59 rfl (by first | omega | exact zr_b _ | exact zr_and _ _ | exact zr_or _ _ | exact zr_shl _ _) (by first | omega | exact zr_b _ | exact zr_and _ _ | exact zr_or _ _ | exact zr_shl _ _) ?_
        refine z_ldc2 (x := 1000) 63 dX10_judge_60 rfl zw_1047 ?_
        refine z_lrem 64 dX10_judge_63 rfl (by first | omega | exact zr_b _ | exact zr_and _ _ | exact zr_or _ _ | exact zr_shl _ _) (by first | omega | exact zr_b _ | exact zr_and _ _ | exact zr_or _ _ | exact zr_shl _ _) ?_
        rw [ev]
        refine z_l2i 65 dX10_judge_64 rfl ?_
        rw [zl2i_small (by omega)]
        refine z_istore 67 dX10_judge_65 rfl (by decide) ?_
        refine z_aload_n 68 dX10_judge_67 rfl rfl ?_
        refine z_iload 70 dX10_judge_68 rfl rfl ?_
        refine z_bipush 72 dX10_judge_70 rfl (by decide) ?_
        refine z_idiv 73 dX10_judge_72 rfl (by first | omega | exact zr_b _ | exact zr_and _ _ | exact zr_or _ _ | exact zr_shl _ _) (by first | omega | exact zr_b _ | exact zr_and _ _ | exact zr_or _ _ | exact zr_shl _ _) ?_
        refine z_iload 75 dX10_judge_73 rfl rfl ?_
        refine z_bipush 77 dX10_judge_75 rfl (by decide) ?_
        refine z_idiv 78 dX10_judge_77 rfl (by first | omega | exact zr_b _ | exact zr_and _ _ | exact zr_or _ _ | exact zr_shl _ _) (by first | omega | exact zr_b _ | exact zr_and _ _ | exact zr_or _ _ | exact zr_shl _ _) ?_
        refine z_bipush 80 dX10_judge_78 rfl (by decide) ?_
        refine z_irem 81 dX10_judge_80 rfl (by first | omega | exact zr_b _ | exact zr_and _ _ | exact zr_or _ _ | exact zr_shl _ _) (by first | omega | exact zr_b _ | exact zr_and _ _ | exact zr_or _ _ | exact zr_shl _ _) ?_
        refine z_iload 83 dX10_judge_81 rfl rfl ?_
        refine z_bipush 85 dX10_judge_83 rfl (by decide) ?_
        refine z_irem 86 dX10_judge_85 rfl (by first | omega | exact zr_b _ | exact zr_and _ _ | exact zr_or _ _ | exact zr_shl _ _) (by first | omega | exact zr_b _ | exact zr_and _ _ | exact zr_or _ _ | exact zr_shl _ _) ?_
        refine z_cV3 89 dX10_judge_86 rfl kX10_judged zw_1048 (Nat.le_of_ble_eq_true rfl) ⟨Nat.le_refl _, Nat.le_refl _⟩ (by first | with_reducible assumption | with_reducible exact zup_same _ _ _) ?_
        refine c_X10_judged hW' hR' hOi hM (by omega) (by omega) (by omega) (fun h3 TR3 hW3 hR3 hF3 => ?_)
        rw [h1' i hi]
        refine z_if_ne 95 92 dX10_judge_89 (by decide) rfl (by first | omega | exact zr_b _ | exact zr_and _ _ | exact zr_or _ _ | exact zr_shl _ _) (fun c89 => ?_) (fun c89 => ?_)
        · try replace c89 := zb_1 c89
          refine z_iinc 98 dX10_judge_95 rfl (by decide) rfl ?_
          refine z_goto 43 dX10_judge_98 (by decide) ?_
          exact ih h3 _ TR3 hW3 hR3 (hF.tr hF3)
        · exfalso; exact absurd c89 (by decide)
  have hzn : 0 ≤ row ∧ row ≤ ((1000 ^ n : Nat) : Int) - 1 := by
    have e := zrs_eq row n
    rw [hz] at e
    have hp := hpow n hn.2
    have := Int.lt_ediv_add_one_mul_self row hp.2
    rw [← e] at this
    omega
  have hp := hpow n hn.2
  obtain ⟨TR, TI, WH, BG, OD, WO, MA, RD, rp, rs, rm, rw', hW⟩ := hW
  have w112 := hW.c112
  dsimp only [zMO, zMS.C, zMS.l, zMS.n, zMS.R, zMS.TR, zMS.DI, zMS.ac, zMS.nx, zMS.KP, zMS.IK, zMS.SW, zMS.ST, zMS.sn, zMS.sd, zMS.TI, zMS.WH, zMS.BG, zMS.OD, zMS.WO, zMS.MA, zMS.rp, zMS.RD, zMS.rs, zMS.rm, zMS.rw, zMS.uC, zMS.ul, zMS.un, zMS.uR, zMS.uTR, zMS.uDI, zMS.uac, zMS.unx, zMS.uKP, zMS.uIK, zMS.uSW, zMS.uST, zMS.usn, zMS.usd, zMS.uTI, zMS.uWH, zMS.uBG, zMS.uOD, zMS.uWO, zMS.uMA, zMS.urp, zMS.uRD, zMS.urs, zMS.urm, zMS.urw] at w112
  have w114 := hW.c114
  dsimp only [zMO, zMS.C, zMS.l, zMS.n, zMS.R, zMS.TR, zMS.DI, zMS.ac, zMS.nx, zMS.KP, zMS.IK, zMS.SW, zMS.ST, zMS.sn, zMS.sd, zMS.TI, zMS.WH, zMS.BG, zMS.OD, zMS.WO, zMS.MA, zMS.rp, zMS.RD, zMS.rs, zMS.rm, zMS.rw, zMS.uC, zMS.ul, zMS.un, zMS.uR, zMS.uTR, zMS.uDI, zMS.uac, zMS.unx, zMS.uKP, zMS.uIK, zMS.uSW, zMS.uST, zMS.usn, zMS.usd, zMS.uTI, zMS.uWH, zMS.uBG, zMS.uOD, zMS.uWO, zMS.uMA, zMS.urp, zMS.uRD, zMS.urs, zMS.urm, zMS.urw] at w114
  have w115 := hW.c115
  dsimp only [zMO, zMS.C, zMS.l, zMS.n, zMS.R, zMS.TR, zMS.DI, zMS.ac, zMS.nx, zMS.KP, zMS.IK, zMS.SW, zMS.ST, zMS.sn, zMS.sd, zMS.TI, zMS.WH, zMS.BG, zMS.OD, zMS.WO, zMS.MA, zMS.rp, zMS.RD, zMS.rs, zMS.rm, zMS.rw, zMS.uC, zMS.ul, zMS.un, zMS.uR, zMS.uTR, zMS.uDI, zMS.uac, zMS.unx, zMS.uKP, zMS.uIK, zMS.uSW, zMS.uST, zMS.usn, zMS.usd, zMS.uTI, zMS.uWH, zMS.uBG, zMS.uOD, zMS.uWO, zMS.uMA, zMS.urp, zMS.uRD, zMS.urs, zMS.urm, zMS.urw] at w115
  refine zC.of zpl_X10 (Nat.le_of_ble_eq_true rfl) ?_
  refine z_iload_n 1 dX10_judge_0 rfl rfl ?_
  refine z_i2l 2 dX10_judge_1 rfl (by first | omega | exact zr_b _ | exact zr_and _ _ | exact zr_or _ _ | exact zr_shl _ _) ?_
  refine z_lconst 3 dX10_judge_2 rfl ?_
  refine z_ldc2 (x := 4) 6 dX10_judge_3 rfl zw_1043 ?_
  refine z_cS3 9 dX10_judge_6 rfl kX10_in zw_846 (Nat.le_of_ble_eq_true rfl) ⟨Nat.le_refl _, Nat.le_refl _⟩ ?_
  refine c_X10_in (a := 1) (by omega) (by omega) (by omega) ?_
  rw [zb_t (by omega)]
  refine z_if_eq 26 12 dX10_judge_9 (by decide) rfl (by first | omega | exact zr_b _ | exact zr_and _ _ | exact zr_or _ _ | exact zr_shl _ _) (fun c9 => ?_) (fun c9 => ?_)
  · exact absurd c9 (by decide)
  · try replace c9 := zb_1 c9
    refine z_lload_n 13 dX10_judge_12 rfl rfl ?_
    refine z_lconst 14 dX10_judge_13 rfl ?_
    refine z_iload_n 15 dX10_judge_14 rfl rfl ?_
    refine z_cS1 18 dX10_judge_15 rfl kX10_thousands zw_1044 (Nat.le_of_ble_eq_true rfl) ⟨Nat.le_refl _, Nat.le_refl _⟩ ?_
    refine c_X10_thousands (by omega) ?_
    refine z_lconst 19 dX10_judge_18 rfl ?_
    refine z_lsub 20 dX10_judge_19 rfl ?_
    refine z_cS3 23 dX10_judge_20 rfl kX10_in zw_846 (Nat.le_of_ble_eq_true rfl) ⟨Nat.le_refl _, Nat.le_refl _⟩ ?_
    refine c_X10_in (a := 0) (by omega) (by omega) (by omega) ?_
    rw [zb_t (by omega)]
    refine z_if_ne 29 26 dX10_judge_23 (by decide) rfl (by first | omega | exact zr_b _ | exact zr_and _ _ | exact zr_or _ _ | exact zr_shl _ _) (fun c23 => ?_) (fun c23 => ?_)
    · try replace c23 := zb_1 c23
      refine z_aload_n 30 dX10_judge_29 rfl rfl ?_
      refine z_getf (ci := 10) 33 dX10_judge_30 rfl rfl zin_10 3 (by decide) zw_767 (by first | with_reducible assumption | with_reducible exact zup_same _ _ _) rfl ?_
      refine z_aload_n 34 dX10_judge_33 rfl rfl ?_
      refine z_getf (ci := 10) 37 dX10_judge_34 rfl rfl zin_10 4 (by decide) zw_768 (by first | with_reducible assumption | with_reducible exact zup_same _ _ _) rfl ?_
      refine z_cS2 40 dX10_judge_37 rfl kX10_copy zw_880 (Nat.le_of_ble_eq_true rfl) ⟨Nat.le_refl _, Nat.le_refl _⟩ ?_
      refine c_X10_copy (by decide) w114 w115 (fun F' hF' => ?_)
      refine z_iconst 41 dX10_judge_40 rfl ?_
      refine z_istore 43 dX10_judge_41 rfl (by decide) ?_
      exact key 0 (Nat.zero_le _) _ _ F' (hW.s115 F').mt (hR.cp hF' hN) ((zMod.rf _ _ h).up _ (by omega))
    · exact absurd c23 (by decide)
end MJUDGE
