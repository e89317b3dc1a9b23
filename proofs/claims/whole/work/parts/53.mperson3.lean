/-! THE MODEL: person, place and told -/
section MPERSON3
variable {d : Nat} {h : zH} {Q : Option zV → zH → Prop} {C : Int → Int} {l : Int} {N M : Nat} {D G E P R DI : Int → Int} {ac nx : Int} {KP IK SW ST : Int → Int} {sn sd : Int} {s : zMS}
theorem c_X10_placeOf {p : Int} {k : Nat} (hW : zMC h C l ((N + 1 : Nat) : Int) R DI ac nx KP IK SW ST sn sd) (hR : zRo N M D G E P R) (hO : zOK 9 N D G E P) (hp : 1 ≤ p ∧ p ≤ N) (hk : k < N) (ek : P k = p) (hQ : Q (some (vI k)) h) : zC (d + 4) mX10_placeOf 0 0 [vR 112, vI p] h Q := by
  obtain ⟨TR, TI, WH, BG, OD, WO, MA, RD, rp, rs, rm, rw', hW⟩ := hW
  have hN := hO.1
  have w112 := hW.c112
  dsimp only [zMO, zMS.C, zMS.l, zMS.n, zMS.R, zMS.TR, zMS.DI, zMS.ac, zMS.nx, zMS.KP, zMS.IK, zMS.SW, zMS.ST, zMS.sn, zMS.sd, zMS.TI, zMS.WH, zMS.BG, zMS.OD, zMS.WO, zMS.MA, zMS.rp, zMS.RD, zMS.rs, zMS.rm, zMS.rw, zMS.uC, zMS.ul, zMS.un, zMS.uR, zMS.uTR, zMS.uDI, zMS.uac, zMS.unx, zMS.uKP, zMS.uIK, zMS.uSW, zMS.uST, zMS.usn, zMS.usd, zMS.uTI, zMS.uWH, zMS.uBG, zMS.uOD, zMS.uWO, zMS.uMA, zMS.urp, zMS.uRD, zMS.urs, zMS.urm, zMS.urw] at w112
  have w114 := hW.c114
  dsimp only [zMO, zMS.C, zMS.l, zMS.n, zMS.R, zMS.TR, zMS.DI, zMS.ac, zMS.nx, zMS.KP, zMS.IK, zMS.SW, zMS.ST, zMS.sn, zMS.sd, zMS.TI, zMS.WH, zMS.BG, zMS.OD, zMS.WO, zMS.MA, zMS.rp, zMS.RD, zMS.rs, zMS.rm, zMS.rw, zMS.uC, zMS.ul, zMS.un, zMS.uR, zMS.uTR, zMS.uDI, zMS.uac, zMS.unx, zMS.uKP, zMS.uIK, zMS.uSW, zMS.uST, zMS.usn, zMS.usd, zMS.uTI, zMS.uWH, zMS.uBG, zMS.uOD, zMS.uWO, zMS.uMA, zMS.urp, zMS.uRD, zMS.urs, zMS.urm, zMS.urw] at w114
  have key : ∀ i : Nat, i ≤ N → Z (d + 4) mX10_placeOf zo 5 [some (vR 112), some (vI p), some (vI (if k < i then (k : Int) else -9)), some (vI i)] [] h Q := by
    refine z_loop N ?_ ?_
    · rw [if_pos hk]
      refine z_iload_n 6 dX10_placeOf_5 rfl rfl ?_
      refine z_aload_n 7 dX10_placeOf_6 rfl rfl ?_
      refine z_getf (ci := 10) 10 dX10_placeOf_7 rfl rfl zin_10 2 (by decide) zw_766 (by first | with_reducible assumption | with_reducible exact zup_same _ _ _) rfl ?_
      refine z_iconst 11 dX10_placeOf_10 rfl ?_
      refine z_isub 12 dX10_placeOf_11 rfl ?_
      refine z_icmp_ge 40 15 dX10_placeOf_12 (by decide) rfl (by first | omega | exact zr_b _ | exact zr_and _ _ | exact zr_or _ _ | exact zr_shl _ _) (by first | omega | exact zr_b _ | exact zr_and _ _ | exact zr_or _ _ | exact zr_shl _ _) (fun c12 => ?_) (fun c12 => ?_)
      · refine z_iload_n 41 dX10_placeOf_40 rfl rfl ?_
        refine z_ret dX10_placeOf_41 (by first | exact True.intro | exact Or.inl rfl | exact Or.inr rfl | exact zb_01 _ | assumption | (show _ ∨ _; omega)) ⟨Nat.le_refl _, Nat.le_refl _⟩ ?_
        exact hQ
      · exfalso; omega
    · intro i hi ih
      have e25 := hR.2.2.2 i hi
      have hq := hO.2.2.1 i hi
      have inj := hO.2.2.2.1 i k hi hk
      refine z_iload_n 6 dX10_placeOf_5 rfl rfl ?_
      refine z_aload_n 7 dX10_placeOf_6 rfl rfl ?_
      refine z_getf (ci := 10) 10 dX10_placeOf_7 rfl rfl zin_10 2 (by decide) zw_766 (by first | with_reducible assumption | with_reducible exact zup_same _ _ _) rfl ?_
      refine z_iconst 11 dX10_placeOf_10 rfl ?_
      refine z_isub 12 dX10_placeOf_11 rfl ?_
      refine z_icmp_ge 40 15 dX10_placeOf_12 (by decide) rfl (by first | omega | exact zr_b _ | exact zr_and _ _ | exact zr_or _ _ | exact zr_shl _ _) (by first | omega | exact zr_b _ | exact zr_and _ _ | exact zr_or _ _ | exact zr_shl _ _) (fun c12 => ?_) (fun c12 => ?_)
      · exfalso; omega
      · refine z_aload_n 16 dX10_placeOf_15 rfl rfl ?_
        refine z_getf (ci := 10) 19 dX10_placeOf_16 rfl rfl zin_10 3 (by decide) zw_767 (by first | with_reducible assumption | with_reducible exact zup_same _ _ _) rfl ?_
        refine z_bipush 21 dX10_placeOf_19 rfl (by decide) ?_
        refine z_iload_n 22 dX10_placeOf_21 rfl rfl ?_
        refine z_iadd 23 dX10_placeOf_22 rfl ?_
        refine z_iald 24 dX10_placeOf_23 rfl (by first | with_reducible assumption | with_reducible exact zup_same _ _ _) (by omega) (by first | omega | exact zr_b _ | exact zr_and _ _ | exact zr_or _ _ | exact zr_shl _ _) ?_
        rw [e25]
        refine z_iload_n 25 dX10_placeOf_24 rfl rfl ?_
        refine z_icmp_ne 32 28 dX10_placeOf_25 (by decide) rfl (by first | omega | exact zr_b _ | exact zr_and _ _ | exact zr_or _ _ | exact zr_shl _ _) (by first | omega | exact zr_b _ | exact zr_and _ _ | exact zr_or _ _ | exact zr_shl _ _) (fun c25 => ?_) (fun c25 => ?_)
        · have q : i ≠ k := fun e => c25 (by rw [e]; exact ek)
          rw [show (if k < i + 1 then (k : Int) else -9) = (if k < i then (k : Int) else -9) by split <;> split <;> omega] at ih
          refine z_iload_n 33 dX10_placeOf_32 rfl rfl ?_
          refine z_istore_n 34 dX10_placeOf_33 rfl (by decide) ?_
          refine z_iinc 37 dX10_placeOf_34 rfl (by decide) rfl ?_
          refine z_goto 5 dX10_placeOf_37 (by decide) ?_
          exact ih
        · have q := inj (by omega)
          rw [if_pos (show k < i + 1 by omega), ← q] at ih
          refine z_iload_n 29 dX10_placeOf_28 rfl rfl ?_
          refine z_goto 33 dX10_placeOf_29 (by decide) ?_
          refine z_istore_n 34 dX10_placeOf_33 rfl (by decide) ?_
          refine z_iinc 37 dX10_placeOf_34 rfl (by decide) rfl ?_
          refine z_goto 5 dX10_placeOf_37 (by decide) ?_
          exact ih
  refine zC.of zpl_X10 (Nat.le_of_ble_eq_true rfl) ?_
  refine z_bipush 2 dX10_placeOf_0 rfl (by decide) ?_
  refine z_istore_n 3 dX10_placeOf_2 rfl (by decide) ?_
  refine z_iconst 4 dX10_placeOf_3 rfl ?_
  refine z_istore_n 5 dX10_placeOf_4 rfl (by decide) ?_
  exact key 0 (Nat.zero_le _)
end MPERSON3
