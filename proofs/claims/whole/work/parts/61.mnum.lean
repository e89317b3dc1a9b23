/-! THE MODEL: number, soon -/
def znN (dl gp x : Int) : Int := if 0 ≤ x then znum dl gp x.toNat else 1
section MNUM0
variable {dl gp : Int}
theorem zcn_k (B : Int → Int) (dl gp : Int) {j k : Nat} (h : j < k) : ∀ e : Nat, zcn B dl gp (k + e) j = zcn B dl gp k j
  | 0 => rfl
  | e + 1 => by
    rw [← zcn_k B dl gp h e]
    show zst (zcn B dl gp (k + e)) ((k + e : Nat) : Int) _ _ = _
    exact zst_ne _ _ (by omega)
theorem znum_eq (hd : 1 ≤ dl ∧ 1 ≤ gp) {t : Nat} (ht : t ≤ 60) : znum dl gp t = if (t : Int) < dl then 1 else znN dl gp (t - dl) + znN dl gp (t - gp) := by
  have e1 : znum dl gp t = zcn (fun _ => 0) dl gp (t + 1) t := by
    unfold znum
    rw [show 61 = t + 1 + (60 - t) by omega]
    exact zcn_k _ _ _ (by omega) _
  rw [e1]
  have hb : ∀ x : Int, x < t → zby (zcn (fun _ => 0) dl gp t) x = znN dl gp x := fun x hx => by
    unfold zby znN
    by_cases e : 0 ≤ x
    · rw [if_pos ⟨e, by omega⟩, if_pos e]
      unfold znum
      rw [show 61 = t + (61 - t) by omega, zcn_k _ _ _ (show x.toNat < t by omega), Int.toNat_of_nonneg e]
    · rw [if_neg (by omega), if_neg e]
  show zst _ _ _ _ = _
  rw [zst_same, hb _ (by omega), hb _ (by omega)]
theorem znN_lt (hd : 1 ≤ dl ∧ 1 ≤ gp) {x : Int} (h : x < dl) (hx : x ≤ 60) : znN dl gp x = 1 := by
  unfold znN
  split
  · rw [znum_eq hd (by omega), if_pos (by omega)]
  · rfl
theorem znN_ge (hd : 1 ≤ dl ∧ 1 ≤ gp) {x : Int} (h : dl ≤ x) (hx : x ≤ 60) : znN dl gp x = znN dl gp (x - dl) + znN dl gp (x - gp) := by
  conv => lhs; unfold znN
  rw [if_pos (by omega), znum_eq hd (by omega), if_neg (by omega), Int.toNat_of_nonneg (by omega)]
theorem znN_nat (t : Nat) : znN dl gp t = znum dl gp t := by
  unfold znN; rw [if_pos (by omega), show ((t : Int)).toNat = t by omega]
end MNUM0
section MNUM
variable {d : Nat} {h : zH} {Q : Option zV → zH → Prop} {C : Int → Int} {l : Int} {N M : Nat} {D G E P R DI : Int → Int} {ac nx : Int} {KP IK SW ST : Int → Int} {sn sd : Int} {s : zMS}
theorem c_X10_layMany {p : Int} (hob : h.1 112 = some (zMO s)) (hr : h.1 114 = some (zI 33 R)) (hma : h.1 126 = some (zJ 61 s.MA)) (hR : zRo N M D G E P R) (hO : zOK 9 N D G E P) (hp : 0 ≤ p ∧ p ≤ N) (hQ : ∀ MA' : Int → Int, (∀ t : Nat, t ≤ 60 → MA' t = znum (D p) (G p) t) → Q none (zup h 126 (zJ 61 MA'))) : zC d mX10_layMany 0 0 [vR 112, vI p] h Q := by
  have hN := hO.1
  have hd := hO.2.1 p hp.1 hp.2
  have r1 := hR.2.1 p hp.1 hp.2
  have hdg : 1 ≤ D p ∧ 1 ≤ G p := by omega
  have w112 : ∀ MA' : Int → Int, (zup h 126 (zJ 61 MA')).1 112 = some (zMO s) := fun MA' => by rw [zup_ne _ _ (by decide)]; exact hob
  have key : ∀ t : Nat, t ≤ 61 → ∀ (MA' : Int → Int) (o5 : Option zV), (∀ j : Nat, j < t → MA' j = znum (D p) (G p) j) → Z d mX10_layMany zo 22 [some (vR 112), some (vI p), some (vI (D p)), some (vI (G p)), some (vI t), o5] [] (zup h 126 (zJ 61 MA')) Q := by
    refine z_loop 61 ?_ ?_
    · intro MA' o5 k1
      refine z_iload 24 dX10_layMany_22 rfl rfl ?_
      refine z_bipush 26 dX10_layMany_24 rfl (by decide) ?_
      refine z_icmp_gt 80 29 dX10_layMany_26 (by decide) rfl (by first | omega | exact zr_b _ | exact zr_and _ _ | exact zr_or _ _ | exact zr_shl _ _) (by first | omega | exact zr_b _ | exact zr_and _ _ | exact zr_or _ _ | exact zr_shl _ _) (fun c26 => ?_) (fun c26 => ?_)
      · refine z_vret dX10_layMany_80 (by first | exact True.intro | exact Or.inl rfl | exact Or.inr rfl | exact zb_01 _ | assumption | (show _ ∨ _; omega)) ⟨Nat.le_refl _, Nat.le_refl _⟩ ?_
        exact hQ MA' (fun t ht => k1 t (by omega))
      · exfalso; omega
    · intro t ht ih MA' o5 k1
      have inn : ∀ (m : Nat) (f : Int) (MA2 : Int → Int), f < m → -100 ≤ f → f + D p ≤ t → (∀ j : Nat, j < t → MA2 j = znum (D p) (G p) j) → MA2 t = znum (D p) (G p) t - znN (D p) (G p) (f + D p) + 1 → Z d mX10_layMany zo 43 [some (vR 112), some (vI p), some (vI (D p)), some (vI (G p)), some (vI t), some (vI f)] [] (zup h 126 (zJ 61 MA2)) Q := by
        intro m
        induction m with
        | zero =>
          intro f MA2 hf h100 hle k1 k2
          rw [znN_lt hdg (by omega) (by omega)] at k2
          refine z_iload 45 dX10_layMany_43 rfl rfl ?_
          refine z_if_lt 74 48 dX10_layMany_45 (by decide) rfl (by first | omega | exact zr_b _ | exact zr_and _ _ | exact zr_or _ _ | exact zr_shl _ _) (fun c45 => ?_) (fun c45 => ?_)
          · refine z_iinc 77 dX10_layMany_74 rfl (by decide) rfl ?_
            refine z_goto 22 dX10_layMany_77 (by decide) ?_
            exact ih MA2 _ (fun j hj => by
              by_cases e : j = t
              · subst e; rw [k2]; omega
              · exact k1 j (by omega))
          · exfalso; omega
        | succ m ihm =>
          intro f MA2 hf h100 hle k1 k2
          by_cases f0 : f < 0
          · rw [znN_lt hdg (by omega) (by omega)] at k2
            refine z_iload 45 dX10_layMany_43 rfl rfl ?_
            refine z_if_lt 74 48 dX10_layMany_45 (by decide) rfl (by first | omega | exact zr_b _ | exact zr_and _ _ | exact zr_or _ _ | exact zr_shl _ _) (fun c45 => ?_) (fun c45 => ?_)
            · refine z_iinc 77 dX10_layMany_74 rfl (by decide) rfl ?_
              refine z_goto 22 dX10_layMany_77 (by decide) ?_
              exact ih MA2 _ (fun j hj => by
                by_cases e : j = t
                · subst e; rw [k2]; omega
                · exact k1 j (by omega))
            · exfalso; omega
          · have x112 := w112 MA2
            have x126 : (zup h 126 (zJ 61 MA2)).1 126 = some (zJ 61 MA2) := zup_same _ _ _
            have ef := k1 f.toNat (by omega)
            rw [Int.toNat_of_nonneg (by omega)] at ef
            have eg := znN_ge hdg (show D p ≤ f + D p by omega) (by omega)
            rw [show f + D p - D p = f by omega] at eg
            have en : znN (D p) (G p) f = znum (D p) (G p) f.toNat := if_pos (by omega)
            refine z_iload 45 dX10_layMany_43 rfl rfl ?_
            refine z_if_lt 74 48 dX10_layMany_45 (by decide) rfl (by first | omega | exact zr_b _ | exact zr_and _ _ | exact zr_or _ _ | exact zr_shl _ _) (fun c45 => ?_) (fun c45 => ?_)
            · exfalso; omega
            · refine z_aload_n 49 dX10_layMany_48 rfl rfl ?_
              refine z_getf (ci := 10) 52 dX10_layMany_49 rfl rfl zin_10 19 (by decide) zw_783 (by first | with_reducible assumption | with_reducible exact zup_same _ _ _) rfl ?_
              refine z_iload 54 dX10_layMany_52 rfl rfl ?_
              refine z_dup2 55 dX10_layMany_54 rfl ?_
              refine z_lald 56 dX10_layMany_55 rfl (by first | with_reducible assumption | with_reducible exact zup_same _ _ _) (by omega) (by first | omega | exact zr_b _ | exact zr_and _ _ | exact zr_or _ _ | exact zr_shl _ _) ?_
              refine z_aload_n 57 dX10_layMany_56 rfl rfl ?_
              refine z_getf (ci := 10) 60 dX10_layMany_57 rfl rfl zin_10 19 (by decide) zw_783 (by first | with_reducible assumption | with_reducible exact zup_same _ _ _) rfl ?_
              refine z_iload 62 dX10_layMany_60 rfl rfl ?_
              refine z_lald 63 dX10_layMany_62 rfl (by first | with_reducible assumption | with_reducible exact zup_same _ _ _) (by omega) (by first | omega | exact zr_b _ | exact zr_and _ _ | exact zr_or _ _ | exact zr_shl _ _) ?_
              refine z_ladd 64 dX10_layMany_63 rfl ?_
              refine z_last 65 dX10_layMany_64 rfl (by omega) (by first | with_reducible assumption | with_reducible exact zup_same _ _ _) (by omega) (by first | omega | exact zr_b _ | exact zr_and _ _ | exact zr_or _ _ | exact zr_shl _ _) ?_
              refine z_iload 67 dX10_layMany_65 rfl rfl ?_
              refine z_iload_n 68 dX10_layMany_67 rfl rfl ?_
              refine z_isub 69 dX10_layMany_68 rfl ?_
              refine z_istore 71 dX10_layMany_69 rfl (by decide) ?_
              refine z_goto 43 dX10_layMany_71 (by decide) ?_
              rw [zup_zup]
              refine ihm _ _ (by omega) (by omega) (by omega) (fun j hj => ?_) ?_
              · rw [zst_ne _ _ (by omega)]; exact k1 j hj
              · rw [zst_same, k2, ef, show f - G p + D p = f + D p - G p by omega]; omega
      have x112 := w112 MA'
      have x126 : (zup h 126 (zJ 61 MA')).1 126 = some (zJ 61 MA') := zup_same _ _ _
      refine z_iload 24 dX10_layMany_22 rfl rfl ?_
      refine z_bipush 26 dX10_layMany_24 rfl (by decide) ?_
      refine z_icmp_gt 80 29 dX10_layMany_26 (by decide) rfl (by first | omega | exact zr_b _ | exact zr_and _ _ | exact zr_or _ _ | exact zr_shl _ _) (by first | omega | exact zr_b _ | exact zr_and _ _ | exact zr_or _ _ | exact zr_shl _ _) (fun c26 => ?_) (fun c26 => ?_)
      · exfalso; omega
      · refine z_aload_n 30 dX10_layMany_29 rfl rfl ?_
        refine z_getf (ci := 10) 33 dX10_layMany_30 rfl rfl zin_10 19 (by decide) zw_783 (by first | with_reducible assumption | with_reducible exact zup_same _ _ _) rfl ?_
        refine z_iload 35 dX10_layMany_33 rfl rfl ?_
        refine z_lconst 36 dX10_layMany_35 rfl ?_
        refine z_last 37 dX10_layMany_36 rfl (by omega) (by first | with_reducible assumption | with_reducible exact zup_same _ _ _) (by omega) (by first | omega | exact zr_b _ | exact zr_and _ _ | exact zr_or _ _ | exact zr_shl _ _) ?_
        refine z_iload 39 dX10_layMany_37 rfl rfl ?_
        refine z_iload_n 40 dX10_layMany_39 rfl rfl ?_
        refine z_isub 41 dX10_layMany_40 rfl ?_
        refine z_istore 43 dX10_layMany_41 rfl (by decide) ?_
        rw [zup_zup]
        refine inn (t + 1) _ _ (by omega) (by omega) (by omega) (fun j hj => ?_) ?_
        · rw [zst_ne _ _ (by omega)]; exact k1 j hj
        · rw [zst_same, show (t : Int) - D p + D p = t by omega, znN_nat]; omega
  refine zC.of zpl_X10 (Nat.le_of_ble_eq_true rfl) ?_
  refine z_aload_n 1 dX10_layMany_0 rfl rfl ?_
  refine z_getf (ci := 10) 4 dX10_layMany_1 rfl rfl zin_10 3 (by decide) zw_767 (by first | with_reducible assumption | with_reducible exact zup_same _ _ _) rfl ?_
  refine z_iconst 5 dX10_layMany_4 rfl ?_
  refine z_iload_n 6 dX10_layMany_5 rfl rfl ?_
  refine z_iadd 7 dX10_layMany_6 rfl ?_
  refine z_iald 8 dX10_layMany_7 rfl (by first | with_reducible assumption | with_reducible exact zup_same _ _ _) (by omega) (by first | omega | exact zr_b _ | exact zr_and _ _ | exact zr_or _ _ | exact zr_shl _ _) ?_
  rw [r1.1]
  refine z_istore_n 9 dX10_layMany_8 rfl (by decide) ?_
  refine z_aload_n 10 dX10_layMany_9 rfl rfl ?_
  refine z_getf (ci := 10) 13 dX10_layMany_10 rfl rfl zin_10 3 (by decide) zw_767 (by first | with_reducible assumption | with_reducible exact zup_same _ _ _) rfl ?_
  refine z_bipush 15 dX10_layMany_13 rfl (by decide) ?_
  refine z_iload_n 16 dX10_layMany_15 rfl rfl ?_
  refine z_iadd 17 dX10_layMany_16 rfl ?_
  refine z_iald 18 dX10_layMany_17 rfl (by first | with_reducible assumption | with_reducible exact zup_same _ _ _) (by omega) (by first | omega | exact zr_b _ | exact zr_and _ _ | exact zr_or _ _ | exact zr_shl _ _) ?_
  rw [r1.2]
  refine z_istore_n 19 dX10_layMany_18 rfl (by decide) ?_
  refine z_iconst 20 dX10_layMany_19 rfl ?_
  refine z_istore 22 dX10_layMany_20 rfl (by decide) ?_
  have k := key 0 (Nat.zero_le _) s.MA none (fun j hj => absurd hj (by omega))
  rw [zup_self h hma] at k
  exact k
theorem m_number_no1 {p t : Int} (hW : zMC h C l ((N + 1 : Nat) : Int) R DI ac nx KP IK SW ST sn sd) (hN : N ≤ 7) (hp : (-2147483648 ≤ p ∧ p ≤ 2147483647) ∧ ¬ (0 ≤ p ∧ p < N + 1)) (hQ : Q (some (vJ (-1))) h) : zC (d + 4) mX10_number 0 0 [vR 112, vI p, vI t] h Q := by
  obtain ⟨TR, TI, WH, BG, OD, WO, MA, RD, rp, rs, rm, rw', hW⟩ := hW
  have w112 := hW.c112
  dsimp only [zMO, zMS.C, zMS.l, zMS.n, zMS.R, zMS.TR, zMS.DI, zMS.ac, zMS.nx, zMS.KP, zMS.IK, zMS.SW, zMS.ST, zMS.sn, zMS.sd, zMS.TI, zMS.WH, zMS.BG, zMS.OD, zMS.WO, zMS.MA, zMS.rp, zMS.RD, zMS.rs, zMS.rm, zMS.rw, zMS.uC, zMS.ul, zMS.un, zMS.uR, zMS.uTR, zMS.uDI, zMS.uac, zMS.unx, zMS.uKP, zMS.uIK, zMS.uSW, zMS.uST, zMS.usn, zMS.usd, zMS.uTI, zMS.uWH, zMS.uBG, zMS.uOD, zMS.uWO, zMS.uMA, zMS.urp, zMS.uRD, zMS.urs, zMS.urm, zMS.urw] at w112
  refine zC.of zpl_X10 (Nat.le_of_ble_eq_true rfl) ?_
  refine z_aload_n 1 dX10_number_0 rfl rfl ?_
  refine z_iload_n 2 dX10_number_1 rfl rfl ?_
  refine z_cV1 5 dX10_number_2 rfl kX10_isPerson zw_939 (Nat.le_of_ble_eq_true rfl) ⟨Nat.le_refl _, Nat.le_refl _⟩ (by first | with_reducible assumption | with_reducible exact zup_same _ _ _) ?_
  refine c_X10_isPerson hW.c112 (by show 1 ≤ ((N + 1 : Nat) : Int) ∧ ((N + 1 : Nat) : Int) ≤ 8; omega) (by omega) ?_
  rw [zb_f (by show ¬ (0 ≤ (p : Int) ∧ p < ((N + 1 : Nat) : Int)); omega)]
  refine z_if_ne 12 8 dX10_number_5 (by decide) rfl (by first | omega | exact zr_b _ | exact zr_and _ _ | exact zr_or _ _ | exact zr_shl _ _) (fun c5 => ?_) (fun c5 => ?_)
  · try replace c5 := zb_1 c5
    exact absurd rfl c5
  · try replace c5 := zb_0 c5
    refine z_ldc2 (x := -1) 11 dX10_number_8 rfl zw_1022 ?_
    refine z_lret dX10_number_11 (by first | exact True.intro | exact Or.inl rfl | exact Or.inr rfl | exact zb_01 _ | assumption | (show _ ∨ _; omega)) ⟨Nat.le_refl _, Nat.le_refl _⟩ ?_
    exact hQ
theorem m_number_no2 {p t : Int} (hW : zMC h C l ((N + 1 : Nat) : Int) R DI ac nx KP IK SW ST sn sd) (hN : N ≤ 7) (hp : 0 ≤ p ∧ p < N + 1) (ht : (-2147483648 ≤ t ∧ t ≤ 2147483647) ∧ ¬ (0 ≤ t ∧ t ≤ 60)) (hQ : Q (some (vJ (-2))) h) : zC (d + 4) mX10_number 0 0 [vR 112, vI p, vI t] h Q := by
  obtain ⟨TR, TI, WH, BG, OD, WO, MA, RD, rp, rs, rm, rw', hW⟩ := hW
  have w112 := hW.c112
  dsimp only [zMO, zMS.C, zMS.l, zMS.n, zMS.R, zMS.TR, zMS.DI, zMS.ac, zMS.nx, zMS.KP, zMS.IK, zMS.SW, zMS.ST, zMS.sn, zMS.sd, zMS.TI, zMS.WH, zMS.BG, zMS.OD, zMS.WO, zMS.MA, zMS.rp, zMS.RD, zMS.rs, zMS.rm, zMS.rw, zMS.uC, zMS.ul, zMS.un, zMS.uR, zMS.uTR, zMS.uDI, zMS.uac, zMS.unx, zMS.uKP, zMS.uIK, zMS.uSW, zMS.uST, zMS.usn, zMS.usd, zMS.uTI, zMS.uWH, zMS.uBG, zMS.uOD, zMS.uWO, zMS.uMA, zMS.urp, zMS.uRD, zMS.urs, zMS.urm, zMS.urw] at w112
  refine zC.of zpl_X10 (Nat.le_of_ble_eq_true rfl) ?_
  refine z_aload_n 1 dX10_number_0 rfl rfl ?_
  refine z_iload_n 2 dX10_number_1 rfl rfl ?_
  refine z_cV1 5 dX10_number_2 rfl kX10_isPerson zw_939 (Nat.le_of_ble_eq_true rfl) ⟨Nat.le_refl _, Nat.le_refl _⟩ (by first | with_reducible assumption | with_reducible exact zup_same _ _ _) ?_
  refine c_X10_isPerson hW.c112 (by show 1 ≤ ((N + 1 : Nat) : Int) ∧ ((N + 1 : Nat) : Int) ≤ 8; omega) (by omega) ?_
  rw [zb_t (by show 0 ≤ (p : Int) ∧ p < ((N + 1 : Nat) : Int); omega)]
  refine z_if_ne 12 8 dX10_number_5 (by decide) rfl (by first | omega | exact zr_b _ | exact zr_and _ _ | exact zr_or _ _ | exact zr_shl _ _) (fun c5 => ?_) (fun c5 => ?_)
  · try replace c5 := zb_1 c5
    refine z_iload_n 13 dX10_number_12 rfl rfl ?_
    refine z_i2l 14 dX10_number_13 rfl (by first | omega | exact zr_b _ | exact zr_and _ _ | exact zr_or _ _ | exact zr_shl _ _) ?_
    refine z_lconst 15 dX10_number_14 rfl ?_
    refine z_ldc2 (x := 60) 18 dX10_number_15 rfl zw_1023 ?_
    refine z_cS3 21 dX10_number_18 rfl kX10_in zw_846 (Nat.le_of_ble_eq_true rfl) ⟨Nat.le_refl _, Nat.le_refl _⟩ ?_
    refine c_X10_in (a := 0) (by omega) (by omega) (by omega) ?_
    rw [zb_f (by omega)]
    refine z_if_ne 28 24 dX10_number_21 (by decide) rfl (by first | omega | exact zr_b _ | exact zr_and _ _ | exact zr_or _ _ | exact zr_shl _ _) (fun c21 => ?_) (fun c21 => ?_)
    · try replace c21 := zb_1 c21
      exact absurd rfl c21
    · try replace c21 := zb_0 c21
      refine z_ldc2 (x := -2) 27 dX10_number_24 rfl zw_1024 ?_
      refine z_lret dX10_number_27 (by first | exact True.intro | exact Or.inl rfl | exact Or.inr rfl | exact zb_01 _ | assumption | (show _ ∨ _; omega)) ⟨Nat.le_refl _, Nat.le_refl _⟩ ?_
      exact hQ
  · exact absurd c5 (by decide)
theorem m_number {p : Int} {t : Nat} (hW : zMC h C l ((N + 1 : Nat) : Int) R DI ac nx KP IK SW ST sn sd) (hR : zRo N M D G E P R) (hO : zOK 9 N D G E P) (hp : 0 ≤ p ∧ p < N + 1) (ht : t ≤ 60) (hQ : ∀ h' : zH, zMC h' C l ((N + 1 : Nat) : Int) R DI ac nx KP IK SW ST sn sd → zMod 112 127 h h' → Q (some (vJ (znum (D p) (G p) t))) h') : zC (d + 4) mX10_number 0 0 [vR 112, vI p, vI t] h Q := by
  have hN := hO.1
  obtain ⟨TR, TI, WH, BG, OD, WO, MA, RD, rp, rs, rm, rw', hW⟩ := hW
  have w112 := hW.c112
  dsimp only [zMO, zMS.C, zMS.l, zMS.n, zMS.R, zMS.TR, zMS.DI, zMS.ac, zMS.nx, zMS.KP, zMS.IK, zMS.SW, zMS.ST, zMS.sn, zMS.sd, zMS.TI, zMS.WH, zMS.BG, zMS.OD, zMS.WO, zMS.MA, zMS.rp, zMS.RD, zMS.rs, zMS.rm, zMS.rw, zMS.uC, zMS.ul, zMS.un, zMS.uR, zMS.uTR, zMS.uDI, zMS.uac, zMS.unx, zMS.uKP, zMS.uIK, zMS.uSW, zMS.uST, zMS.usn, zMS.usd, zMS.uTI, zMS.uWH, zMS.uBG, zMS.uOD, zMS.uWO, zMS.uMA, zMS.urp, zMS.uRD, zMS.urs, zMS.urm, zMS.urw] at w112
  refine zC.of zpl_X10 (Nat.le_of_ble_eq_true rfl) ?_
  refine z_aload_n 1 dX10_number_0 rfl rfl ?_
  refine z_iload_n 2 dX10_number_1 rfl rfl ?_
  refine z_cV1 5 dX10_number_2 rfl kX10_isPerson zw_939 (Nat.le_of_ble_eq_true rfl) ⟨Nat.le_refl _, Nat.le_refl _⟩ (by first | with_reducible assumption | with_reducible exact zup_same _ _ _) ?_
  refine c_X10_isPerson hW.c112 (by show 1 ≤ ((N + 1 : Nat) : Int) ∧ ((N + 1 : Nat) : Int) ≤ 8; omega) (by omega) ?_
  rw [zb_t (by show 0 ≤ (p : Int) ∧ p < ((N + 1 : Nat) : Int); omega)]
  refine z_if_ne 12 8 dX10_number_5 (by decide) rfl (by first | omega | exact zr_b _ | exact zr_and _ _ | exact zr_or _ _ | exact zr_shl _ _) (fun c5 => ?_) (fun c5 => ?_)
  · try replace c5 := zb_1 c5
    refine z_iload_n 13 dX10_number_12 rfl rfl ?_
    refine z_i2l 14 dX10_number_13 rfl (by first | omega | exact zr_b _ | exact zr_and _ _ | exact zr_or _ _ | exact zr_shl _ _) ?_
    refine z_lconst 15 dX10_number_14 rfl ?_
    refine z_ldc2 (x := 60) 18 dX10_number_15 rfl zw_1023 ?_
    refine z_cS3 21 dX10_number_18 rfl kX10_in zw_846 (Nat.le_of_ble_eq_true rfl) ⟨Nat.le_refl _, Nat.le_refl _⟩ ?_
    refine c_X10_in (a := 0) (by omega) (by omega) (by omega) ?_
    rw [zb_t (by omega)]
    refine z_if_ne 28 24 dX10_number_21 (by decide) rfl (by first | omega | exact zr_b _ | exact zr_and _ _ | exact zr_or _ _ | exact zr_shl _ _) (fun c21 => ?_) (fun c21 => ?_)
    · try replace c21 := zb_1 c21
      refine z_aload_n 29 dX10_number_28 rfl rfl ?_
      refine z_iload_n 30 dX10_number_29 rfl rfl ?_
      refine z_cV1 33 dX10_number_30 rfl kX10_layMany zw_1025 (Nat.le_of_ble_eq_true rfl) ⟨Nat.le_refl _, Nat.le_refl _⟩ (by first | with_reducible assumption | with_reducible exact zup_same _ _ _) ?_
      refine c_X10_layMany hW.c112 hW.c114 hW.c126 hR hO (by omega) (fun MA' hMA => ?_)
      have hW1 := hW.s126 MA'
      have w112 := hW1.c112
      dsimp only [zMO, zMS.C, zMS.l, zMS.n, zMS.R, zMS.TR, zMS.DI, zMS.ac, zMS.nx, zMS.KP, zMS.IK, zMS.SW, zMS.ST, zMS.sn, zMS.sd, zMS.TI, zMS.WH, zMS.BG, zMS.OD, zMS.WO, zMS.MA, zMS.rp, zMS.RD, zMS.rs, zMS.rm, zMS.rw, zMS.uC, zMS.ul, zMS.un, zMS.uR, zMS.uTR, zMS.uDI, zMS.uac, zMS.unx, zMS.uKP, zMS.uIK, zMS.uSW, zMS.uST, zMS.usn, zMS.usd, zMS.uTI, zMS.uWH, zMS.uBG, zMS.uOD, zMS.uWO, zMS.uMA, zMS.urp, zMS.uRD, zMS.urs, zMS.urm, zMS.urw] at w112
      have w126 := hW1.c126
      dsimp only [zMO, zMS.C, zMS.l, zMS.n, zMS.R, zMS.TR, zMS.DI, zMS.ac, zMS.nx, zMS.KP, zMS.IK, zMS.SW, zMS.ST, zMS.sn, zMS.sd, zMS.TI, zMS.WH, zMS.BG, zMS.OD, zMS.WO, zMS.MA, zMS.rp, zMS.RD, zMS.rs, zMS.rm, zMS.rw, zMS.uC, zMS.ul, zMS.un, zMS.uR, zMS.uTR, zMS.uDI, zMS.uac, zMS.unx, zMS.uKP, zMS.uIK, zMS.uSW, zMS.uST, zMS.usn, zMS.usd, zMS.uTI, zMS.uWH, zMS.uBG, zMS.uOD, zMS.uWO, zMS.uMA, zMS.urp, zMS.uRD, zMS.urs, zMS.urm, zMS.urw] at w126
      refine z_aload_n 34 dX10_number_33 rfl rfl ?_
      refine z_getf (ci := 10) 37 dX10_number_34 rfl rfl zin_10 19 (by decide) zw_783 (by first | with_reducible assumption | with_reducible exact zup_same _ _ _) rfl ?_
      refine z_iload_n 38 dX10_number_37 rfl rfl ?_
      refine z_lald 39 dX10_number_38 rfl (by first | with_reducible assumption | with_reducible exact zup_same _ _ _) (by omega) (by first | omega | exact zr_b _ | exact zr_and _ _ | exact zr_or _ _ | exact zr_shl _ _) ?_
      refine z_lret dX10_number_39 (by first | exact True.intro | exact Or.inl rfl | exact Or.inr rfl | exact zb_01 _ | assumption | (show _ ∨ _; omega)) ⟨Nat.le_refl _, Nat.le_refl _⟩ ?_
      rw [hMA t ht]; exact hQ _ hW1.mc ((zMod.rf _ _ h).up _ (by omega))
    · exact absurd c21 (by decide)
  · exact absurd c5 (by decide)
theorem m_soon_no1 {p v : Int} (hW : zMC h C l ((N + 1 : Nat) : Int) R DI ac nx KP IK SW ST sn sd) (hN : N ≤ 7) (hp : (-2147483648 ≤ p ∧ p ≤ 2147483647) ∧ ¬ (0 ≤ p ∧ p < N + 1)) (hQ : Q (some (vI (-1))) h) : zC (d + 4) mX10_soon 0 0 [vR 112, vI p, vI v] h Q := by
  obtain ⟨TR, TI, WH, BG, OD, WO, MA, RD, rp, rs, rm, rw', hW⟩ := hW
  have w112 := hW.c112
  dsimp only [zMO, zMS.C, zMS.l, zMS.n, zMS.R, zMS.TR, zMS.DI, zMS.ac, zMS.nx, zMS.KP, zMS.IK, zMS.SW, zMS.ST, zMS.sn, zMS.sd, zMS.TI, zMS.WH, zMS.BG, zMS.OD, zMS.WO, zMS.MA, zMS.rp, zMS.RD, zMS.rs, zMS.rm, zMS.rw, zMS.uC, zMS.ul, zMS.un, zMS.uR, zMS.uTR, zMS.uDI, zMS.uac, zMS.unx, zMS.uKP, zMS.uIK, zMS.uSW, zMS.uST, zMS.usn, zMS.usd, zMS.uTI, zMS.uWH, zMS.uBG, zMS.uOD, zMS.uWO, zMS.uMA, zMS.urp, zMS.uRD, zMS.urs, zMS.urm, zMS.urw] at w112
  refine zC.of zpl_X10 (Nat.le_of_ble_eq_true rfl) ?_
  refine z_aload_n 1 dX10_soon_0 rfl rfl ?_
  refine z_iload_n 2 dX10_soon_1 rfl rfl ?_
  refine z_cV1 5 dX10_soon_2 rfl kX10_isPerson zw_939 (Nat.le_of_ble_eq_true rfl) ⟨Nat.le_refl _, Nat.le_refl _⟩ (by first | with_reducible assumption | with_reducible exact zup_same _ _ _) ?_
  refine c_X10_isPerson hW.c112 (by show 1 ≤ ((N + 1 : Nat) : Int) ∧ ((N + 1 : Nat) : Int) ≤ 8; omega) (by omega) ?_
  rw [zb_f (by show ¬ (0 ≤ (p : Int) ∧ p < ((N + 1 : Nat) : Int)); omega)]
  refine z_if_ne 10 8 dX10_soon_5 (by decide) rfl (by first | omega | exact zr_b _ | exact zr_and _ _ | exact zr_or _ _ | exact zr_shl _ _) (fun c5 => ?_) (fun c5 => ?_)
  · try replace c5 := zb_1 c5
    exact absurd rfl c5
  · try replace c5 := zb_0 c5
    refine z_iconst 9 dX10_soon_8 rfl ?_
    refine z_ret dX10_soon_9 (by first | exact True.intro | exact Or.inl rfl | exact Or.inr rfl | exact zb_01 _ | assumption | (show _ ∨ _; omega)) ⟨Nat.le_refl _, Nat.le_refl _⟩ ?_
    exact hQ
theorem m_soon_no2 {p v : Int} (hW : zMC h C l ((N + 1 : Nat) : Int) R DI ac nx KP IK SW ST sn sd) (hN : N ≤ 7) (hp : 0 ≤ p ∧ p < N + 1) (hv : (-2147483648 ≤ v ∧ v ≤ 2147483647) ∧ ¬ (1 ≤ v ∧ v ≤ 99999)) (hQ : Q (some (vI (-2))) h) : zC (d + 4) mX10_soon 0 0 [vR 112, vI p, vI v] h Q := by
  obtain ⟨TR, TI, WH, BG, OD, WO, MA, RD, rp, rs, rm, rw', hW⟩ := hW
  have w112 := hW.c112
  dsimp only [zMO, zMS.C, zMS.l, zMS.n, zMS.R, zMS.TR, zMS.DI, zMS.ac, zMS.nx, zMS.KP, zMS.IK, zMS.SW, zMS.ST, zMS.sn, zMS.sd, zMS.TI, zMS.WH, zMS.BG, zMS.OD, zMS.WO, zMS.MA, zMS.rp, zMS.RD, zMS.rs, zMS.rm, zMS.rw, zMS.uC, zMS.ul, zMS.un, zMS.uR, zMS.uTR, zMS.uDI, zMS.uac, zMS.unx, zMS.uKP, zMS.uIK, zMS.uSW, zMS.uST, zMS.usn, zMS.usd, zMS.uTI, zMS.uWH, zMS.uBG, zMS.uOD, zMS.uWO, zMS.uMA, zMS.urp, zMS.uRD, zMS.urs, zMS.urm, zMS.urw] at w112
  refine zC.of zpl_X10 (Nat.le_of_ble_eq_true rfl) ?_
  refine z_aload_n 1 dX10_soon_0 rfl rfl ?_
  refine z_iload_n 2 dX10_soon_1 rfl rfl ?_
  refine z_cV1 5 dX10_soon_2 rfl kX10_isPerson zw_939 (Nat.le_of_ble_eq_true rfl) ⟨Nat.le_refl _, Nat.le_refl _⟩ (by first | with_reducible assumption | with_reducible exact zup_same _ _ _) ?_
  refine c_X10_isPerson hW.c112 (by show 1 ≤ ((N + 1 : Nat) : Int) ∧ ((N + 1 : Nat) : Int) ≤ 8; omega) (by omega) ?_
  rw [zb_t (by show 0 ≤ (p : Int) ∧ p < ((N + 1 : Nat) : Int); omega)]
  refine z_if_ne 10 8 dX10_soon_5 (by decide) rfl (by first | omega | exact zr_b _ | exact zr_and _ _ | exact zr_or _ _ | exact zr_shl _ _) (fun c5 => ?_) (fun c5 => ?_)
  · try replace c5 := zb_1 c5
    refine z_iload_n 11 dX10_soon_10 rfl rfl ?_
    refine z_i2l 12 dX10_soon_11 rfl (by first | omega | exact zr_b _ | exact zr_and _ _ | exact zr_or _ _ | exact zr_shl _ _) ?_
    refine z_lconst 13 dX10_soon_12 rfl ?_
    refine z_ldc2 (x := 99999) 16 dX10_soon_13 rfl zw_1033 ?_
    refine z_cS3 19 dX10_soon_16 rfl kX10_in zw_846 (Nat.le_of_ble_eq_true rfl) ⟨Nat.le_refl _, Nat.le_refl _⟩ ?_
    refine c_X10_in (a := 1) (by omega) (by omega) (by omega) ?_
    rw [zb_f (by omega)]
    refine z_if_ne 25 22 dX10_soon_19 (by decide) rfl (by first | omega | exact zr_b _ | exact zr_and _ _ | exact zr_or _ _ | exact zr_shl _ _) (fun c19 => ?_) (fun c19 => ?_)
    · try replace c19 := zb_1 c19
      exact absurd rfl c19
    · try replace c19 := zb_0 c19
      refine z_bipush 24 dX10_soon_22 rfl (by decide) ?_
      refine z_ret dX10_soon_24 (by first | exact True.intro | exact Or.inl rfl | exact Or.inr rfl | exact zb_01 _ | assumption | (show _ ∨ _; omega)) ⟨Nat.le_refl _, Nat.le_refl _⟩ ?_
      exact hQ
  · exact absurd c5 (by decide)
theorem m_soon {p v : Int} {r : Nat} (hW : zMC h C l ((N + 1 : Nat) : Int) R DI ac nx KP IK SW ST sn sd) (hR : zRo N M D G E P R) (hO : zOK 9 N D G E P) (hp : 0 ≤ p ∧ p < N + 1) (hv : 1 ≤ v ∧ v ≤ 99999) (hr : r ≤ 61) (h1 : ∀ j : Nat, j < r → znum (D p) (G p) j < v) (h2 : r ≤ 60 → v ≤ znum (D p) (G p) r) (hQ : ∀ h' : zH, zMC h' C l ((N + 1 : Nat) : Int) R DI ac nx KP IK SW ST sn sd → zMod 112 127 h h' → Q (some (vI (if r ≤ 60 then (r : Int) else -9))) h') : zC (d + 4) mX10_soon 0 0 [vR 112, vI p, vI v] h Q := by
  have hN := hO.1
  have hd := hO.2.1 p hp.1 (by omega)
  obtain ⟨TR, TI, WH, BG, OD, WO, MA, RD, rp, rs, rm, rw', hW⟩ := hW
  have key : ∀ MA' : Int → Int, (∀ t : Nat, t ≤ 60 → MA' t = znum (D p) (G p) t) → ∀ i : Nat, i ≤ r → Z (d + 4) mX10_soon zo 32 [some (vR 112), some (vI p), some (vI v), some (vI i)] [] (zup h 126 (zJ 61 MA')) Q := by
    intro MA' hMA
    have hW1 := hW.s126 MA'
    have w112 := hW1.c112
    dsimp only [zMO, zMS.C, zMS.l, zMS.n, zMS.R, zMS.TR, zMS.DI, zMS.ac, zMS.nx, zMS.KP, zMS.IK, zMS.SW, zMS.ST, zMS.sn, zMS.sd, zMS.TI, zMS.WH, zMS.BG, zMS.OD, zMS.WO, zMS.MA, zMS.rp, zMS.RD, zMS.rs, zMS.rm, zMS.rw, zMS.uC, zMS.ul, zMS.un, zMS.uR, zMS.uTR, zMS.uDI, zMS.uac, zMS.unx, zMS.uKP, zMS.uIK, zMS.uSW, zMS.uST, zMS.usn, zMS.usd, zMS.uTI, zMS.uWH, zMS.uBG, zMS.uOD, zMS.uWO, zMS.uMA, zMS.urp, zMS.uRD, zMS.urs, zMS.urm, zMS.urw] at w112
    have w126 := hW1.c126
    dsimp only [zMO, zMS.C, zMS.l, zMS.n, zMS.R, zMS.TR, zMS.DI, zMS.ac, zMS.nx, zMS.KP, zMS.IK, zMS.SW, zMS.ST, zMS.sn, zMS.sd, zMS.TI, zMS.WH, zMS.BG, zMS.OD, zMS.WO, zMS.MA, zMS.rp, zMS.RD, zMS.rs, zMS.rm, zMS.rw, zMS.uC, zMS.ul, zMS.un, zMS.uR, zMS.uTR, zMS.uDI, zMS.uac, zMS.unx, zMS.uKP, zMS.uIK, zMS.uSW, zMS.uST, zMS.usn, zMS.usd, zMS.uTI, zMS.uWH, zMS.uBG, zMS.uOD, zMS.uWO, zMS.uMA, zMS.urp, zMS.uRD, zMS.urs, zMS.urm, zMS.urw] at w126
    have hF : zMod 112 127 h (zup h 126 (zJ 61 MA')) := (zMod.rf _ _ h).up _ (by omega)
    refine z_loop r ?_ ?_
    · by_cases e : r ≤ 60
      · have hb := znum_b (dl := D p) (gp := G p) (by omega) e
        have h2' := h2 e
        have em := hMA r e
        refine z_iload_n 33 dX10_soon_32 rfl rfl ?_
        refine z_bipush 35 dX10_soon_33 rfl (by decide) ?_
        refine z_icmp_gt 58 38 dX10_soon_35 (by decide) rfl (by first | omega | exact zr_b _ | exact zr_and _ _ | exact zr_or _ _ | exact zr_shl _ _) (by first | omega | exact zr_b _ | exact zr_and _ _ | exact zr_or _ _ | exact zr_shl _ _) (fun c35 => ?_) (fun c35 => ?_)
        · exfalso; omega
        · refine z_aload_n 39 dX10_soon_38 rfl rfl ?_
          refine z_getf (ci := 10) 42 dX10_soon_39 rfl rfl zin_10 19 (by decide) zw_783 (by first | with_reducible assumption | with_reducible exact zup_same _ _ _) rfl ?_
          refine z_iload_n 43 dX10_soon_42 rfl rfl ?_
          refine z_lald 44 dX10_soon_43 rfl (by first | with_reducible assumption | with_reducible exact zup_same _ _ _) (by omega) (by first | omega | exact zr_b _ | exact zr_and _ _ | exact zr_or _ _ | exact zr_shl _ _) ?_
          rw [em]
          refine z_iload_n 45 dX10_soon_44 rfl rfl ?_
          refine z_i2l 46 dX10_soon_45 rfl (by first | omega | exact zr_b _ | exact zr_and _ _ | exact zr_or _ _ | exact zr_shl _ _) ?_
          refine z_lcmp 47 dX10_soon_46 rfl (by first | omega | exact zr_b _ | exact zr_and _ _ | exact zr_or _ _ | exact zr_shl _ _) (by first | omega | exact zr_b _ | exact zr_and _ _ | exact zr_or _ _ | exact zr_shl _ _) ?_
          refine z_if_lt 52 50 dX10_soon_47 (by decide) rfl (by exact zcmp_r _ _) (fun c47 => ?_) (fun c47 => ?_)
          · exfalso; rw [zcmp_lt] at c47; omega
          · refine z_iload_n 51 dX10_soon_50 rfl rfl ?_
            refine z_ret dX10_soon_51 (by first | exact True.intro | exact Or.inl rfl | exact Or.inr rfl | exact zb_01 _ | assumption | (show _ ∨ _; omega)) ⟨Nat.le_refl _, Nat.le_refl _⟩ ?_
            have e2 := hQ _ hW1.mc hF
            rw [if_pos e] at e2
            exact e2
      · refine z_iload_n 33 dX10_soon_32 rfl rfl ?_
        refine z_bipush 35 dX10_soon_33 rfl (by decide) ?_
        refine z_icmp_gt 58 38 dX10_soon_35 (by decide) rfl (by first | omega | exact zr_b _ | exact zr_and _ _ | exact zr_or _ _ | exact zr_shl _ _) (by first | omega | exact zr_b _ | exact zr_and _ _ | exact zr_or _ _ | exact zr_shl _ _) (fun c35 => ?_) (fun c35 => ?_)
        · refine z_bipush 60 dX10_soon_58 rfl (by decide) ?_
          refine z_ret dX10_soon_60 (by first | exact True.intro | exact Or.inl rfl | exact Or.inr rfl | exact zb_01 _ | assumption | (show _ ∨ _; omega)) ⟨Nat.le_refl _, Nat.le_refl _⟩ ?_
          have e2 := hQ _ hW1.mc hF
          rw [if_neg e] at e2
          exact e2
        · exfalso; omega
    · intro i hi ih
      have hb := znum_b (dl := D p) (gp := G p) (by omega) (show i ≤ 60 by omega)
      have h1' := h1 i hi
      have em := hMA i (by omega)
      refine z_iload_n 33 dX10_soon_32 rfl rfl ?_
      refine z_bipush 35 dX10_soon_33 rfl (by decide) ?_
      refine z_icmp_gt 58 38 dX10_soon_35 (by decide) rfl (by first | omega | exact zr_b _ | exact zr_and _ _ | exact zr_or _ _ | exact zr_shl _ _) (by first | omega | exact zr_b _ | exact zr_and _ _ | exact zr_or _ _ | exact zr_shl _ _) (fun c35 => ?_) (fun c35 => ?_)
      · exfalso; omega
      · refine z_aload_n 39 dX10_soon_38 rfl rfl ?_
        refine z_getf (ci := 10) 42 dX10_soon_39 rfl rfl zin_10 19 (by decide) zw_783 (by first | with_reducible assumption | with_reducible exact zup_same _ _ _) rfl ?_
        refine z_iload_n 43 dX10_soon_42 rfl rfl ?_
        refine z_lald 44 dX10_soon_43 rfl (by first | with_reducible assumption | with_reducible exact zup_same _ _ _) (by omega) (by first | omega | exact zr_b _ | exact zr_and _ _ | exact zr_or _ _ | exact zr_shl _ _) ?_
        rw [em]
        refine z_iload_n 45 dX10_soon_44 rfl rfl ?_
        refine z_i2l 46 dX10_soon_45 rfl (by first | omega | exact zr_b _ | exact zr_and _ _ | exact zr_or _ _ | exact zr_shl _ _) ?_
        refine z_lcmp 47 dX10_soon_46 rfl (by first | omega | exact zr_b _ | exact zr_and _ _ | exact zr_or _ _ | exact zr_shl _ _) (by first | omega | exact zr_b _ | exact zr_and _ _ | exact zr_or _ _ | exact zr_shl _ _) ?_
        refine z_if_lt 52 50 dX10_soon_47 (by decide) rfl (by exact zcmp_r _ _) (fun c47 => ?_) (fun c47 => ?_)
        · refine z_iinc 55 dX10_soon_52 rfl (by decide) rfl ?_
          refine z_goto 32 dX10_soon_55 (by decide) ?_
          exact ih
        · exfalso; have := (zcmp_lt (znum (D p) (G p) i) v).mpr h1'; omega
  have w112 := hW.c112
  dsimp only [zMO, zMS.C, zMS.l, zMS.n, zMS.R, zMS.TR, zMS.DI, zMS.ac, zMS.nx, zMS.KP, zMS.IK, zMS.SW, zMS.ST, zMS.sn, zMS.sd, zMS.TI, zMS.WH, zMS.BG, zMS.OD, zMS.WO, zMS.MA, zMS.rp, zMS.RD, zMS.rs, zMS.rm, zMS.rw, zMS.uC, zMS.ul, zMS.un, zMS.uR, zMS.uTR, zMS.uDI, zMS.uac, zMS.unx, zMS.uKP, zMS.uIK, zMS.uSW, zMS.uST, zMS.usn, zMS.usd, zMS.uTI, zMS.uWH, zMS.uBG, zMS.uOD, zMS.uWO, zMS.uMA, zMS.urp, zMS.uRD, zMS.urs, zMS.urm, zMS.urw] at w112
  refine zC.of zpl_X10 (Nat.le_of_ble_eq_true rfl) ?_
  refine z_aload_n 1 dX10_soon_0 rfl rfl ?_
  refine z_iload_n 2 dX10_soon_1 rfl rfl ?_
  refine z_cV1 5 dX10_soon_2 rfl kX10_isPerson zw_939 (Nat.le_of_ble_eq_true rfl) ⟨Nat.le_refl _, Nat.le_refl _⟩ (by first | with_reducible assumption | with_reducible exact zup_same _ _ _) ?_
  refine c_X10_isPerson hW.c112 (by show 1 ≤ ((N + 1 : Nat) : Int) ∧ ((N + 1 : Nat) : Int) ≤ 8; omega) (by omega) ?_
  rw [zb_t (by show 0 ≤ (p : Int) ∧ p < ((N + 1 : Nat) : Int); omega)]
  refine z_if_ne 10 8 dX10_soon_5 (by decide) rfl (by first | omega | exact zr_b _ | exact zr_and _ _ | exact zr_or _ _ | exact zr_shl _ _) (fun c5 => ?_) (fun c5 => ?_)
  · try replace c5 := zb_1 c5
    refine z_iload_n 11 dX10_soon_10 rfl rfl ?_
    refine z_i2l 12 dX10_soon_11 rfl (by first | omega | exact zr_b _ | exact zr_and _ _ | exact zr_or _ _ | exact zr_shl _ _) ?_
    refine z_lconst 13 dX10_soon_12 rfl ?_
    refine z_ldc2 (x := 99999) 16 dX10_soon_13 rfl zw_1033 ?_
    refine z_cS3 19 dX10_soon_16 rfl kX10_in zw_846 (Nat.le_of_ble_eq_true rfl) ⟨Nat.le_refl _, Nat.le_refl _⟩ ?_
    refine c_X10_in (a := 1) (by omega) (by omega) (by omega) ?_
    rw [zb_t (by omega)]
    refine z_if_ne 25 22 dX10_soon_19 (by decide) rfl (by first | omega | exact zr_b _ | exact zr_and _ _ | exact zr_or _ _ | exact zr_shl _ _) (fun c19 => ?_) (fun c19 => ?_)
    · try replace c19 := zb_1 c19
      refine z_aload_n 26 dX10_soon_25 rfl rfl ?_
      refine z_iload_n 27 dX10_soon_26 rfl rfl ?_
      refine z_cV1 30 dX10_soon_27 rfl kX10_layMany zw_1025 (Nat.le_of_ble_eq_true rfl) ⟨Nat.le_refl _, Nat.le_refl _⟩ (by first | with_reducible assumption | with_reducible exact zup_same _ _ _) ?_
      refine c_X10_layMany hW.c112 hW.c114 hW.c126 hR hO (by omega) (fun MA' hMA => ?_)
      refine z_iconst 31 dX10_soon_30 rfl ?_
      refine z_istore_n 32 dX10_soon_31 rfl (by decide) ?_
      exact key MA' hMA 0 (Nat.zero_le _)
    · exact absurd c19 (by decide)
  · exact absurd c5 (by decide)
end MNUM
