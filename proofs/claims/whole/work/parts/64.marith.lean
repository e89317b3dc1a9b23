/-! THE MODEL: counting, fractions, who knows -/
def zfN : Nat → Int
  | 0 => 1
  | n + 1 => zfN n * ((n + 1 : Nat) : Int)
theorem zfN_fac : ∀ n : Nat, n < 9 → zfN n = zfac n := by decide +kernel
/-- who knows, where letters to L are lost, of the first i of THE PLAN -/
def zknL (E P : Int → Int) (L : Int) : Nat → Int
  | 0 => 1
  | i + 1 => if zkb L (P i) = false ∧ zkb (zknL E P L i) (E (P i)) = true then zor (zknL E P L i) (zshl 1 (P i)) else zknL E P L i
theorem zknL_r (E P : Int → Int) (L : Int) : ∀ n : Nat, -2147483648 ≤ zknL E P L n ∧ zknL E P L n ≤ 2147483647
  | 0 => by unfold zknL; omega
  | n + 1 => by
    unfold zknL
    split
    · exact zr_or _ _
    · exact zknL_r E P L n
section MARITH
variable {d : Nat} {h : zH} {Q : Option zV → zH → Prop} {C : Int → Int} {l : Int} {N M : Nat} {D G E P R DI : Int → Int} {ac nx : Int} {KP IK SW ST : Int → Int} {sn sd : Int} {s : zMS}
theorem c_X10_ones {x : Int} (hQ : Q (some (vI (zones x 8))) h) : zC d mX10_ones 0 0 [vI x] h Q := by
  have key : ∀ i : Nat, i ≤ 8 → Z d mX10_ones zo 4 [some (vI x), some (vI (zones x i)), some (vI i)] [] h Q := by
    refine z_loop 8 ?_ ?_
    · refine z_iload_n 5 dX10_ones_4 rfl rfl ?_
      refine z_bipush 7 dX10_ones_5 rfl (by decide) ?_
      refine z_icmp_ge 24 10 dX10_ones_7 (by decide) rfl (by first | omega | exact zr_b _ | exact zr_and _ _ | exact zr_or _ _ | exact zr_shl _ _) (by first | omega | exact zr_b _ | exact zr_and _ _ | exact zr_or _ _ | exact zr_shl _ _) (fun c7 => ?_) (fun c7 => ?_)
      · refine z_iload_n 25 dX10_ones_24 rfl rfl ?_
        refine z_ret dX10_ones_25 (by first | exact True.intro | exact Or.inl rfl | exact Or.inr rfl | exact zb_01 _ | assumption | (show _ ∨ _; omega)) ⟨Nat.le_refl _, Nat.le_refl _⟩ ?_
        exact hQ
      · exfalso; omega
    · intro i hi ih
      refine z_iload_n 5 dX10_ones_4 rfl rfl ?_
      refine z_bipush 7 dX10_ones_5 rfl (by decide) ?_
      refine z_icmp_ge 24 10 dX10_ones_7 (by decide) rfl (by first | omega | exact zr_b _ | exact zr_and _ _ | exact zr_or _ _ | exact zr_shl _ _) (by first | omega | exact zr_b _ | exact zr_and _ _ | exact zr_or _ _ | exact zr_shl _ _) (fun c7 => ?_) (fun c7 => ?_)
      · exfalso; omega
      · refine z_iload_n 11 dX10_ones_10 rfl rfl ?_
        refine z_iload_n 12 dX10_ones_11 rfl rfl ?_
        refine z_iload_n 13 dX10_ones_12 rfl rfl ?_
        refine z_ishr 14 dX10_ones_13 rfl ?_
        refine z_iconst 15 dX10_ones_14 rfl ?_
        refine z_iand 16 dX10_ones_15 rfl ?_
        refine z_iadd 17 dX10_ones_16 rfl ?_
        refine z_istore_n 18 dX10_ones_17 rfl (by decide) ?_
        refine z_iinc 21 dX10_ones_18 rfl (by decide) rfl ?_
        refine z_goto 4 dX10_ones_21 (by decide) ?_
        exact ih
  refine zC.of zpl_X10 (Nat.le_of_ble_eq_true rfl) ?_
  refine z_iconst 1 dX10_ones_0 rfl ?_
  refine z_istore_n 2 dX10_ones_1 rfl (by decide) ?_
  refine z_iconst 3 dX10_ones_2 rfl ?_
  refine z_istore_n 4 dX10_ones_3 rfl (by decide) ?_
  exact key 0 (Nat.zero_le _)
theorem c_X10_factorial {n : Nat} (hn : n < 9) (hQ : Q (some (vI (zfac n))) h) : zC d mX10_factorial 0 0 [vI n] h Q := by
  rw [← zfN_fac n hn] at hQ
  cases n with
  | zero =>
    refine zC.of zpl_X10 (Nat.le_of_ble_eq_true rfl) ?_
    refine z_iconst 1 dX10_factorial_0 rfl ?_
    refine z_istore_n 2 dX10_factorial_1 rfl (by decide) ?_
    refine z_iconst 3 dX10_factorial_2 rfl ?_
    refine z_istore_n 4 dX10_factorial_3 rfl (by decide) ?_
    refine z_iload_n 5 dX10_factorial_4 rfl rfl ?_
    refine z_iload_n 6 dX10_factorial_5 rfl rfl ?_
    refine z_icmp_gt 19 9 dX10_factorial_6 (by decide) rfl (by first | omega | exact zr_b _ | exact zr_and _ _ | exact zr_or _ _ | exact zr_shl _ _) (by first | omega | exact zr_b _ | exact zr_and _ _ | exact zr_or _ _ | exact zr_shl _ _) (fun c6 => ?_) (fun c6 => ?_)
    · refine z_iload_n 20 dX10_factorial_19 rfl rfl ?_
      refine z_ret dX10_factorial_20 (by first | exact True.intro | exact Or.inl rfl | exact Or.inr rfl | exact zb_01 _ | assumption | (show _ ∨ _; omega)) ⟨Nat.le_refl _, Nat.le_refl _⟩ ?_
      exact hQ
    · exfalso; omega
  | succ n =>
    have key : ∀ i : Nat, i ≤ n → Z d mX10_factorial zo 4 [some (vI ((n + 1 : Nat) : Int)), some (vI (zfN (i + 1))), some (vI ((i + 2 : Nat) : Int))] [] h Q := by
      refine z_loop n ?_ ?_
      · refine z_iload_n 5 dX10_factorial_4 rfl rfl ?_
        refine z_iload_n 6 dX10_factorial_5 rfl rfl ?_
        refine z_icmp_gt 19 9 dX10_factorial_6 (by decide) rfl (by first | omega | exact zr_b _ | exact zr_and _ _ | exact zr_or _ _ | exact zr_shl _ _) (by first | omega | exact zr_b _ | exact zr_and _ _ | exact zr_or _ _ | exact zr_shl _ _) (fun c6 => ?_) (fun c6 => ?_)
        · refine z_iload_n 20 dX10_factorial_19 rfl rfl ?_
          refine z_ret dX10_factorial_20 (by first | exact True.intro | exact Or.inl rfl | exact Or.inr rfl | exact zb_01 _ | assumption | (show _ ∨ _; omega)) ⟨Nat.le_refl _, Nat.le_refl _⟩ ?_
          exact hQ
        · exfalso; omega
      · intro i hi ih
        refine z_iload_n 5 dX10_factorial_4 rfl rfl ?_
        refine z_iload_n 6 dX10_factorial_5 rfl rfl ?_
        refine z_icmp_gt 19 9 dX10_factorial_6 (by decide) rfl (by first | omega | exact zr_b _ | exact zr_and _ _ | exact zr_or _ _ | exact zr_shl _ _) (by first | omega | exact zr_b _ | exact zr_and _ _ | exact zr_or _ _ | exact zr_shl _ _) (fun c6 => ?_) (fun c6 => ?_)
        · exfalso; omega
        · refine z_iload_n 10 dX10_factorial_9 rfl rfl ?_
          refine z_iload_n 11 dX10_factorial_10 rfl rfl ?_
          refine z_imul 12 dX10_factorial_11 rfl ?_
          refine z_istore_n 13 dX10_factorial_12 rfl (by decide) ?_
          refine z_iinc 16 dX10_factorial_13 rfl (by decide) rfl ?_
          refine z_goto 4 dX10_factorial_16 (by decide) ?_
          exact ih
    refine zC.of zpl_X10 (Nat.le_of_ble_eq_true rfl) ?_
    refine z_iconst 1 dX10_factorial_0 rfl ?_
    refine z_istore_n 2 dX10_factorial_1 rfl (by decide) ?_
    refine z_iconst 3 dX10_factorial_2 rfl ?_
    refine z_istore_n 4 dX10_factorial_3 rfl (by decide) ?_
    exact key 0 (Nat.zero_le _)
theorem c_X10_fraction {a b : Nat} {up : Int} (ha : a ≤ 2147483647) (hb : 1 ≤ b ∧ b ≤ 2147483647) (hup : up = 0 ∨ up = 1) (hQ : Q (some (vI (zpart a b up))) h) : zC d mX10_fraction 0 0 [vI a, vI b, vI up] h Q := by
  have hg : 0 < Nat.gcd a b := Nat.gcd_pos_of_pos_right a (by omega)
  have hgb : Nat.gcd a b ≤ b := Nat.gcd_le_right a (by omega)
  have e1 : (a : Int) / (Nat.gcd a b : Nat) = ((a / Nat.gcd a b : Nat) : Int) := by simp
  have e2 : (b : Int) / (Nat.gcd a b : Nat) = ((b / Nat.gcd a b : Nat) : Int) := by simp
  unfold zpart at hQ
  have hz : (zeu a b 62).2 = 0 := by
    have h31 : (2 : Nat) ^ 31 = 2147483648 := by decide
    exact zeu_end 31 a b (by omega)
  have fin : ∀ o5 : Option zV, Z d mX10_fraction zo 35 [some (vI a), some (vI b), some (vI up), some (vI (Nat.gcd a b : Nat)), some (vI 0), o5] [] h Q := by
    intro o5
    refine z_iload_n 36 dX10_fraction_35 rfl rfl ?_
    refine z_if_eq 45 39 dX10_fraction_36 (by decide) rfl (by first | omega | exact zr_b _ | exact zr_and _ _ | exact zr_or _ _ | exact zr_shl _ _) (fun c36 => ?_) (fun c36 => ?_)
    · try replace c36 := zb_0 c36
      rw [if_neg (fun q => q c36)] at hQ
      refine z_iload_n 46 dX10_fraction_45 rfl rfl ?_
      refine z_iload_n 47 dX10_fraction_46 rfl rfl ?_
      refine z_idiv 48 dX10_fraction_47 rfl (by omega) (by omega) ?_
      refine z_ret dX10_fraction_48 (by first | exact True.intro | exact Or.inl rfl | exact Or.inr rfl | exact zb_01 _ | assumption | (show _ ∨ _; omega)) ⟨Nat.le_refl _, Nat.le_refl _⟩ ?_
      first | (rw [e1]; exact hQ) | (rw [e2]; exact hQ)
    · try replace c36 := zb_1 c36
      rw [if_pos c36] at hQ
      refine z_iload_n 40 dX10_fraction_39 rfl rfl ?_
      refine z_iload_n 41 dX10_fraction_40 rfl rfl ?_
      refine z_idiv 42 dX10_fraction_41 rfl (by omega) (by omega) ?_
      refine z_goto 48 dX10_fraction_42 (by decide) ?_
      refine z_ret dX10_fraction_48 (by first | exact True.intro | exact Or.inl rfl | exact Or.inr rfl | exact zb_01 _ | assumption | (show _ ∨ _; omega)) ⟨Nat.le_refl _, Nat.le_refl _⟩ ?_
      first | (rw [e1]; exact hQ) | (rw [e2]; exact hQ)
  have key : ∀ i : Nat, i ≤ 62 → ∀ o5 : Option zV, Z d mX10_fraction zo 14 [some (vI a), some (vI b), some (vI up), some (vI ((zeu a b i).1 : Nat)), some (vI ((zeu a b i).2 : Nat)), o5] [] h Q := by
    refine z_loop 62 ?_ ?_
    · intro o5
      have hg := zeu_gcd a b 62
      rw [hz, Nat.gcd_zero_right] at hg
      rw [hg, hz]
      refine z_iload 16 dX10_fraction_14 rfl rfl ?_
      refine z_if_eq 35 19 dX10_fraction_16 (by decide) rfl (by first | omega | exact zr_b _ | exact zr_and _ _ | exact zr_or _ _ | exact zr_shl _ _) (fun c16 => ?_) (fun c16 => ?_)
      · try replace c16 := zb_0 c16
        exact fin _
      · exact absurd rfl c16
    · intro i hi ih o5
      have hle := zeu_le a b i
      by_cases e : (zeu a b i).2 = 0
      · have hg := zeu_gcd a b i
        rw [e, Nat.gcd_zero_right] at hg
        rw [hg, e]
        refine z_iload 16 dX10_fraction_14 rfl rfl ?_
        refine z_if_eq 35 19 dX10_fraction_16 (by decide) rfl (by first | omega | exact zr_b _ | exact zr_and _ _ | exact zr_or _ _ | exact zr_shl _ _) (fun c16 => ?_) (fun c16 => ?_)
        · try replace c16 := zb_0 c16
          exact fin _
        · exact absurd rfl c16
      · have e1 : zeu a b (i + 1) = ((zeu a b i).2, (zeu a b i).1 % (zeu a b i).2) := if_neg e
        rw [e1] at ih
        generalize zeu a b i = S at *
        refine z_iload 16 dX10_fraction_14 rfl rfl ?_
        refine z_if_eq 35 19 dX10_fraction_16 (by decide) rfl (by first | omega | exact zr_b _ | exact zr_and _ _ | exact zr_or _ _ | exact zr_shl _ _) (fun c16 => ?_) (fun c16 => ?_)
        · exfalso; omega
        · try replace c16 := zb_1 c16
          refine z_iload_n 20 dX10_fraction_19 rfl rfl ?_
          refine z_iload 22 dX10_fraction_20 rfl rfl ?_
          refine z_irem 23 dX10_fraction_22 rfl (by first | omega | exact zr_b _ | exact zr_and _ _ | exact zr_or _ _ | exact zr_shl _ _) (by first | omega | exact zr_b _ | exact zr_and _ _ | exact zr_or _ _ | exact zr_shl _ _) ?_
          refine z_istore 25 dX10_fraction_23 rfl (by decide) ?_
          refine z_iload 27 dX10_fraction_25 rfl rfl ?_
          refine z_istore_n 28 dX10_fraction_27 rfl (by decide) ?_
          refine z_iload 30 dX10_fraction_28 rfl rfl ?_
          refine z_istore 32 dX10_fraction_30 rfl (by decide) ?_
          refine z_goto 14 dX10_fraction_32 (by decide) ?_
          exact ih _
  refine zC.of zpl_X10 (Nat.le_of_ble_eq_true rfl) ?_
  refine z_iload_n 1 dX10_fraction_0 rfl rfl ?_
  refine z_if_ge 9 4 dX10_fraction_1 (by decide) rfl (by first | omega | exact zr_b _ | exact zr_and _ _ | exact zr_or _ _ | exact zr_shl _ _) (fun c1 => ?_) (fun c1 => ?_)
  · refine z_iload_n 10 dX10_fraction_9 rfl rfl ?_
    refine z_istore_n 11 dX10_fraction_10 rfl (by decide) ?_
    refine z_iload_n 12 dX10_fraction_11 rfl rfl ?_
    refine z_istore 14 dX10_fraction_12 rfl (by decide) ?_
    exact key 0 (Nat.zero_le _) _
  · exfalso; omega
theorem zRo.com (hR : zRo N M D G E P R) (hN : N ≤ 7) {w : Int} {F : Int → Int} (h1 : ∀ q : Int, 0 ≤ q → q ≤ N → F (1 + q) = zcom D w q) (h2 : ∀ q : Int, 0 ≤ q → q < 33 → (q < 1 ∨ 9 ≤ q) → F q = R q) : zRo N M (zcom D w) G E P F := by
  obtain ⟨r0, r1, r2, r3⟩ := hR
  refine ⟨?_, fun q q0 q1 => ⟨h1 q q0 q1, ?_⟩, fun q q0 q1 => ?_, fun k hk => ?_⟩
  · rw [h2 _ (by omega) (by omega) (by omega)]; exact r0
  · rw [h2 _ (by omega) (by omega) (by omega)]; exact (r1 q q0 q1).2
  · rw [h2 _ (by omega) (by omega) (by omega)]; exact r2 q q0 q1
  · rw [h2 _ (by omega) (by omega) (by omega)]; exact r3 k hk
theorem c_X10_lastBy {w : Int} {TR TI WH BG OD WO MA RD : Int → Int} {rp rs rm rw : Int} (hW : zMW h (C, l, ((N + 1 : Nat) : Int), R, TR, DI, ac, nx, KP, IK, SW, ST, sn, sd, TI, WH, BG, OD, WO, MA, rp, RD, rs, rm, rw)) (hR : zRo N M D G E P R) (hO : zOK 9 N D G E P) (hM : M ≤ 3) (hw : -2147483648 ≤ w ∧ w ≤ 2147483647)
    (hQ : ∀ (h' : zH) (TR' TI' : Int → Int), zMW h' (C, l, ((N + 1 : Nat) : Int), R, TR', DI, ac, nx, KP, IK, SW, ST, sn, sd, TI', WH, BG, OD, WO, MA, rp, RD, rs, rm, rw) → zMod 112 127 h h' → Q (some (vI (zLC D G E P N M w))) h') : zC (d + 4) mX10_lastBy 0 0 [vR 112, vI w] h Q := by
  have hN := hO.1
  have hO' : zOK 9 N (zcom D w) G E P := zcom_ok hO
  have key : ∀ i : Nat, i ≤ N + 1 → ∀ F : Int → Int, (∀ q : Int, 0 ≤ q → q < i → F (1 + q) = zcom D w q) → (∀ q : Int, 0 ≤ q → q < 33 → (q < 1 ∨ 9 ≤ q) → F q = R q) → Z (d + 4) mX10_lastBy zo 13 [some (vR 112), some (vI w), some (vI i)] [] (zup h 115 (zI 33 F)) Q := by
    refine z_loop (N + 1) ?_ ?_
    · intro F k1 k2
      have hW2 := hW.s115 F
      have w112 := hW2.c112
      dsimp only [zMO, zMS.C, zMS.l, zMS.n, zMS.R, zMS.TR, zMS.DI, zMS.ac, zMS.nx, zMS.KP, zMS.IK, zMS.SW, zMS.ST, zMS.sn, zMS.sd, zMS.TI, zMS.WH, zMS.BG, zMS.OD, zMS.WO, zMS.MA, zMS.rp, zMS.RD, zMS.rs, zMS.rm, zMS.rw, zMS.uC, zMS.ul, zMS.un, zMS.uR, zMS.uTR, zMS.uDI, zMS.uac, zMS.unx, zMS.uKP, zMS.uIK, zMS.uSW, zMS.uST, zMS.usn, zMS.usd, zMS.uTI, zMS.uWH, zMS.uBG, zMS.uOD, zMS.uWO, zMS.uMA, zMS.urp, zMS.uRD, zMS.urs, zMS.urm, zMS.urw] at w112
      have w115 := hW2.c115
      dsimp only [zMO, zMS.C, zMS.l, zMS.n, zMS.R, zMS.TR, zMS.DI, zMS.ac, zMS.nx, zMS.KP, zMS.IK, zMS.SW, zMS.ST, zMS.sn, zMS.sd, zMS.TI, zMS.WH, zMS.BG, zMS.OD, zMS.WO, zMS.MA, zMS.rp, zMS.RD, zMS.rs, zMS.rm, zMS.rw, zMS.uC, zMS.ul, zMS.un, zMS.uR, zMS.uTR, zMS.uDI, zMS.uac, zMS.unx, zMS.uKP, zMS.uIK, zMS.uSW, zMS.uST, zMS.usn, zMS.usd, zMS.uTI, zMS.uWH, zMS.uBG, zMS.uOD, zMS.uWO, zMS.uMA, zMS.urp, zMS.uRD, zMS.urs, zMS.urm, zMS.urw] at w115
      refine z_iload_n 14 dX10_lastBy_13 rfl rfl ?_
      refine z_aload_n 15 dX10_lastBy_14 rfl rfl ?_
      refine z_getf (ci := 10) 18 dX10_lastBy_15 rfl rfl zin_10 2 (by decide) zw_766 (by first | with_reducible assumption | with_reducible exact zup_same _ _ _) rfl ?_
      refine z_icmp_ge 55 21 dX10_lastBy_18 (by decide) rfl (by first | omega | exact zr_b _ | exact zr_and _ _ | exact zr_or _ _ | exact zr_shl _ _) (by first | omega | exact zr_b _ | exact zr_and _ _ | exact zr_or _ _ | exact zr_shl _ _) (fun c18 => ?_) (fun c18 => ?_)
      · refine z_aload_n 56 dX10_lastBy_55 rfl rfl ?_
        refine z_aload_n 57 dX10_lastBy_56 rfl rfl ?_
        refine z_getf (ci := 10) 60 dX10_lastBy_57 rfl rfl zin_10 4 (by decide) zw_768 (by first | with_reducible assumption | with_reducible exact zup_same _ _ _) rfl ?_
        refine z_cV1 63 dX10_lastBy_60 rfl kX10_lastOf zw_883 (Nat.le_of_ble_eq_true rfl) ⟨Nat.le_refl _, Nat.le_refl _⟩ (by first | with_reducible assumption | with_reducible exact zup_same _ _ _) ?_
        refine c_X10_lastOf hW2.c112 rfl w115 (by decide) hW2.c121 (hR.com hN (w := w) (F := F) (fun q a b => k1 q a (by omega)) k2) hO' (by decide) hM (fun T1 => ?_)
        refine z_ret dX10_lastBy_63 (by first | exact True.intro | exact Or.inl rfl | exact Or.inr rfl | exact zb_01 _ | assumption | (show _ ∨ _; omega)) ⟨Nat.le_refl _, Nat.le_refl _⟩ ?_
        exact hQ _ _ _ (hW2.s121 T1) (((zMod.rf _ _ h).up _ (by omega)).up _ (by omega))
      · exfalso; omega
    · intro i hi ih F k1 k2
      have hW2 := hW.s115 F
      have w112 := hW2.c112
      dsimp only [zMO, zMS.C, zMS.l, zMS.n, zMS.R, zMS.TR, zMS.DI, zMS.ac, zMS.nx, zMS.KP, zMS.IK, zMS.SW, zMS.ST, zMS.sn, zMS.sd, zMS.TI, zMS.WH, zMS.BG, zMS.OD, zMS.WO, zMS.MA, zMS.rp, zMS.RD, zMS.rs, zMS.rm, zMS.rw, zMS.uC, zMS.ul, zMS.un, zMS.uR, zMS.uTR, zMS.uDI, zMS.uac, zMS.unx, zMS.uKP, zMS.uIK, zMS.uSW, zMS.uST, zMS.usn, zMS.usd, zMS.uTI, zMS.uWH, zMS.uBG, zMS.uOD, zMS.uWO, zMS.uMA, zMS.urp, zMS.uRD, zMS.urs, zMS.urm, zMS.urw] at w112
      have w114 := hW2.c114
      dsimp only [zMO, zMS.C, zMS.l, zMS.n, zMS.R, zMS.TR, zMS.DI, zMS.ac, zMS.nx, zMS.KP, zMS.IK, zMS.SW, zMS.ST, zMS.sn, zMS.sd, zMS.TI, zMS.WH, zMS.BG, zMS.OD, zMS.WO, zMS.MA, zMS.rp, zMS.RD, zMS.rs, zMS.rm, zMS.rw, zMS.uC, zMS.ul, zMS.un, zMS.uR, zMS.uTR, zMS.uDI, zMS.uac, zMS.unx, zMS.uKP, zMS.uIK, zMS.uSW, zMS.uST, zMS.usn, zMS.usd, zMS.uTI, zMS.uWH, zMS.uBG, zMS.uOD, zMS.uWO, zMS.uMA, zMS.urp, zMS.uRD, zMS.urs, zMS.urm, zMS.urw] at w114
      have w115 := hW2.c115
      dsimp only [zMO, zMS.C, zMS.l, zMS.n, zMS.R, zMS.TR, zMS.DI, zMS.ac, zMS.nx, zMS.KP, zMS.IK, zMS.SW, zMS.ST, zMS.sn, zMS.sd, zMS.TI, zMS.WH, zMS.BG, zMS.OD, zMS.WO, zMS.MA, zMS.rp, zMS.RD, zMS.rs, zMS.rm, zMS.rw, zMS.uC, zMS.ul, zMS.un, zMS.uR, zMS.uTR, zMS.uDI, zMS.uac, zMS.unx, zMS.uKP, zMS.uIK, zMS.uSW, zMS.uST, zMS.usn, zMS.usd, zMS.uTI, zMS.uWH, zMS.uBG, zMS.uOD, zMS.uWO, zMS.uMA, zMS.urp, zMS.uRD, zMS.urs, zMS.urm, zMS.urw] at w115
      have e1 := (hR.2.1 i (by omega) (by omega)).1
      have nx : ∀ v : Int, v = zcom D w i → Z (d + 4) mX10_lastBy zo 13 [some (vR 112), some (vI w), some (vI ((i : Int) + 1))] [] (zup (zup h 115 (zI 33 F)) 115 (zI 33 (zst F (1 + i) v))) Q := fun v hv => by
        rw [zup_zup]
        refine ih _ (fun q a b => ?_) (fun q a b c => ?_)
        · by_cases e : q = i
          · subst e; rw [zst_same]; exact hv
          · rw [zst_ne _ _ (by omega)]; exact k1 q a (by omega)
        · rw [zst_ne _ _ (by omega)]; exact k2 q a b c
      refine z_iload_n 14 dX10_lastBy_13 rfl rfl ?_
      refine z_aload_n 15 dX10_lastBy_14 rfl rfl ?_
      refine z_getf (ci := 10) 18 dX10_lastBy_15 rfl rfl zin_10 2 (by decide) zw_766 (by first | with_reducible assumption | with_reducible exact zup_same _ _ _) rfl ?_
      refine z_icmp_ge 55 21 dX10_lastBy_18 (by decide) rfl (by first | omega | exact zr_b _ | exact zr_and _ _ | exact zr_or _ _ | exact zr_shl _ _) (by first | omega | exact zr_b _ | exact zr_and _ _ | exact zr_or _ _ | exact zr_shl _ _) (fun c18 => ?_) (fun c18 => ?_)
      · exfalso; omega
      · refine z_aload_n 22 dX10_lastBy_21 rfl rfl ?_
        refine z_getf (ci := 10) 25 dX10_lastBy_22 rfl rfl zin_10 4 (by decide) zw_768 (by first | with_reducible assumption | with_reducible exact zup_same _ _ _) rfl ?_
        refine z_iconst 26 dX10_lastBy_25 rfl ?_
        refine z_iload_n 27 dX10_lastBy_26 rfl rfl ?_
        refine z_iadd 28 dX10_lastBy_27 rfl ?_
        refine z_iload_n 29 dX10_lastBy_28 rfl rfl ?_
        refine z_iload_n 30 dX10_lastBy_29 rfl rfl ?_
        refine z_cS2 33 dX10_lastBy_30 rfl kX10_has zw_873 (Nat.le_of_ble_eq_true rfl) ⟨Nat.le_refl _, Nat.le_refl _⟩ ?_
        refine c_X10_has hw (by omega) ?_
        refine z_if_eq 47 36 dX10_lastBy_33 (by decide) rfl (by first | omega | exact zr_b _ | exact zr_and _ _ | exact zr_or _ _ | exact zr_shl _ _) (fun c33 => ?_) (fun c33 => ?_)
        · try replace c33 := zb_0 c33
          have ec : (1 : Int) = zcom D w i := by unfold zcom; rw [if_neg c33]
          refine z_iconst 48 dX10_lastBy_47 rfl ?_
          refine z_iast 49 dX10_lastBy_48 rfl (by omega) (by first | with_reducible assumption | with_reducible exact zup_same _ _ _) (by omega) (by first | omega | exact zr_b _ | exact zr_and _ _ | exact zr_or _ _ | exact zr_shl _ _) ?_
          refine z_iinc 52 dX10_lastBy_49 rfl (by decide) rfl ?_
          refine z_goto 13 dX10_lastBy_52 (by decide) ?_
          exact nx _ ec
        · try replace c33 := zb_1 c33
          have ec : D i = zcom D w i := by unfold zcom; rw [if_pos c33]
          refine z_aload_n 37 dX10_lastBy_36 rfl rfl ?_
          refine z_getf (ci := 10) 40 dX10_lastBy_37 rfl rfl zin_10 3 (by decide) zw_767 (by first | with_reducible assumption | with_reducible exact zup_same _ _ _) rfl ?_
          refine z_iconst 41 dX10_lastBy_40 rfl ?_
          refine z_iload_n 42 dX10_lastBy_41 rfl rfl ?_
          refine z_iadd 43 dX10_lastBy_42 rfl ?_
          refine z_iald 44 dX10_lastBy_43 rfl (by first | with_reducible assumption | with_reducible exact zup_same _ _ _) (by omega) (by first | omega | exact zr_b _ | exact zr_and _ _ | exact zr_or _ _ | exact zr_shl _ _) ?_
          rw [e1]
          refine z_goto 48 dX10_lastBy_44 (by decide) ?_
          refine z_iast 49 dX10_lastBy_48 rfl (by omega) (by first | with_reducible assumption | with_reducible exact zup_same _ _ _) (by omega) (by first | omega | exact zr_b _ | exact zr_and _ _ | exact zr_or _ _ | exact zr_shl _ _) ?_
          refine z_iinc 52 dX10_lastBy_49 rfl (by decide) rfl ?_
          refine z_goto 13 dX10_lastBy_52 (by decide) ?_
          exact nx _ ec
  have w112 := hW.c112
  dsimp only [zMO, zMS.C, zMS.l, zMS.n, zMS.R, zMS.TR, zMS.DI, zMS.ac, zMS.nx, zMS.KP, zMS.IK, zMS.SW, zMS.ST, zMS.sn, zMS.sd, zMS.TI, zMS.WH, zMS.BG, zMS.OD, zMS.WO, zMS.MA, zMS.rp, zMS.RD, zMS.rs, zMS.rm, zMS.rw, zMS.uC, zMS.ul, zMS.un, zMS.uR, zMS.uTR, zMS.uDI, zMS.uac, zMS.unx, zMS.uKP, zMS.uIK, zMS.uSW, zMS.uST, zMS.usn, zMS.usd, zMS.uTI, zMS.uWH, zMS.uBG, zMS.uOD, zMS.uWO, zMS.uMA, zMS.urp, zMS.uRD, zMS.urs, zMS.urm, zMS.urw] at w112
  have w114 := hW.c114
  dsimp only [zMO, zMS.C, zMS.l, zMS.n, zMS.R, zMS.TR, zMS.DI, zMS.ac, zMS.nx, zMS.KP, zMS.IK, zMS.SW, zMS.ST, zMS.sn, zMS.sd, zMS.TI, zMS.WH, zMS.BG, zMS.OD, zMS.WO, zMS.MA, zMS.rp, zMS.RD, zMS.rs, zMS.rm, zMS.rw, zMS.uC, zMS.ul, zMS.un, zMS.uR, zMS.uTR, zMS.uDI, zMS.uac, zMS.unx, zMS.uKP, zMS.uIK, zMS.uSW, zMS.uST, zMS.usn, zMS.usd, zMS.uTI, zMS.uWH, zMS.uBG, zMS.uOD, zMS.uWO, zMS.uMA, zMS.urp, zMS.uRD, zMS.urs, zMS.urm, zMS.urw] at w114
  have w115 := hW.c115
  dsimp only [zMO, zMS.C, zMS.l, zMS.n, zMS.R, zMS.TR, zMS.DI, zMS.ac, zMS.nx, zMS.KP, zMS.IK, zMS.SW, zMS.ST, zMS.sn, zMS.sd, zMS.TI, zMS.WH, zMS.BG, zMS.OD, zMS.WO, zMS.MA, zMS.rp, zMS.RD, zMS.rs, zMS.rm, zMS.rw, zMS.uC, zMS.ul, zMS.un, zMS.uR, zMS.uTR, zMS.uDI, zMS.uac, zMS.unx, zMS.uKP, zMS.uIK, zMS.uSW, zMS.uST, zMS.usn, zMS.usd, zMS.uTI, zMS.uWH, zMS.uBG, zMS.uOD, zMS.uWO, zMS.uMA, zMS.urp, zMS.uRD, zMS.urs, zMS.urm, zMS.urw] at w115
  refine zC.of zpl_X10 (Nat.le_of_ble_eq_true rfl) ?_
  refine z_aload_n 1 dX10_lastBy_0 rfl rfl ?_
  refine z_getf (ci := 10) 4 dX10_lastBy_1 rfl rfl zin_10 3 (by decide) zw_767 (by first | with_reducible assumption | with_reducible exact zup_same _ _ _) rfl ?_
  refine z_aload_n 5 dX10_lastBy_4 rfl rfl ?_
  refine z_getf (ci := 10) 8 dX10_lastBy_5 rfl rfl zin_10 4 (by decide) zw_768 (by first | with_reducible assumption | with_reducible exact zup_same _ _ _) rfl ?_
  refine z_cS2 11 dX10_lastBy_8 rfl kX10_copy zw_880 (Nat.le_of_ble_eq_true rfl) ⟨Nat.le_refl _, Nat.le_refl _⟩ ?_
  refine c_X10_copy (by decide) w114 w115 (fun F' hF' => ?_)
  refine z_iconst 12 dX10_lastBy_11 rfl ?_
  refine z_istore_n 13 dX10_lastBy_12 rfl (by decide) ?_
  exact key 0 (Nat.zero_le _) F' (fun q a b => by exfalso; omega) (fun q a b _ => hF' q a b)
theorem c_X10_knowing {L : Int} (hob : h.1 112 = some (zMO s)) (hn : s.n = ((N + 1 : Nat) : Int)) (hr : h.1 114 = some (zI 33 R)) (hR : zRo N M D G E P R) (hO : zOK 9 N D G E P) (hL : -2147483648 ≤ L ∧ L ≤ 2147483647) (hQ : Q (some (vI (zones (zknL E P L N) 8))) h) : zC (d + 2) mX10_knowing 0 0 [vR 112, vI L] h Q := by
  have hN := hO.1
  have key : ∀ i : Nat, i ≤ N → ∀ o4 : Option zV, Z (d + 2) mX10_knowing zo 4 [some (vR 112), some (vI L), some (vI (zknL E P L i)), some (vI i), o4] [] h Q := by
    refine z_loop N ?_ ?_
    · intro o4
      refine z_iload_n 5 dX10_knowing_4 rfl rfl ?_
      refine z_aload_n 6 dX10_knowing_5 rfl rfl ?_
      refine z_getf (ci := 10) 9 dX10_knowing_6 rfl rfl zin_10 2 (by decide) zw_766 (by first | with_reducible assumption | with_reducible exact zup_same _ _ _) rfl ?_
      rw [hn]
      refine z_iconst 10 dX10_knowing_9 rfl ?_
      refine z_isub 11 dX10_knowing_10 rfl ?_
      refine z_icmp_ge 68 14 dX10_knowing_11 (by decide) rfl (by first | omega | exact zr_b _ | exact zr_and _ _ | exact zr_or _ _ | exact zr_shl _ _) (by first | omega | exact zr_b _ | exact zr_and _ _ | exact zr_or _ _ | exact zr_shl _ _) (fun c11 => ?_) (fun c11 => ?_)
      · refine z_iload_n 69 dX10_knowing_68 rfl rfl ?_
        refine z_cS1 72 dX10_knowing_69 rfl kX10_ones zw_1073 (Nat.le_of_ble_eq_true rfl) ⟨Nat.le_refl _, Nat.le_refl _⟩ ?_
        refine c_X10_ones ?_
        refine z_ret dX10_knowing_72 (by first | exact True.intro | exact Or.inl rfl | exact Or.inr rfl | exact zb_01 _ | assumption | (show _ ∨ _; omega)) ⟨Nat.le_refl _, Nat.le_refl _⟩ ?_
        exact hQ
      · exfalso; omega
    · intro i hi ih o4
      have e25 := hR.2.2.2 i hi
      have hq := hO.2.2.1 i hi
      have v8 := hO.v8 i hi
      have e17 := hR.2.2.1 (P i) hq.1 hq.2
      have hb := zknL_r E P L i
      refine z_iload_n 5 dX10_knowing_4 rfl rfl ?_
      refine z_aload_n 6 dX10_knowing_5 rfl rfl ?_
      refine z_getf (ci := 10) 9 dX10_knowing_6 rfl rfl zin_10 2 (by decide) zw_766 (by first | with_reducible assumption | with_reducible exact zup_same _ _ _) rfl ?_
      rw [hn]
      refine z_iconst 10 dX10_knowing_9 rfl ?_
      refine z_isub 11 dX10_knowing_10 rfl ?_
      refine z_icmp_ge 68 14 dX10_knowing_11 (by decide) rfl (by first | omega | exact zr_b _ | exact zr_and _ _ | exact zr_or _ _ | exact zr_shl _ _) (by first | omega | exact zr_b _ | exact zr_and _ _ | exact zr_or _ _ | exact zr_shl _ _) (fun c11 => ?_) (fun c11 => ?_)
      · exfalso; omega
      · refine z_aload_n 15 dX10_knowing_14 rfl rfl ?_
        refine z_getf (ci := 10) 18 dX10_knowing_15 rfl rfl zin_10 3 (by decide) zw_767 (by first | with_reducible assumption | with_reducible exact zup_same _ _ _) rfl ?_
        refine z_bipush 20 dX10_knowing_18 rfl (by decide) ?_
        refine z_iload_n 21 dX10_knowing_20 rfl rfl ?_
        refine z_iadd 22 dX10_knowing_21 rfl ?_
        refine z_iald 23 dX10_knowing_22 rfl (by first | with_reducible assumption | with_reducible exact zup_same _ _ _) (by omega) (by first | omega | exact zr_b _ | exact zr_and _ _ | exact zr_or _ _ | exact zr_shl _ _) ?_
        rw [e25]
        refine z_istore 25 dX10_knowing_23 rfl (by decide) ?_
        refine z_iload_n 26 dX10_knowing_25 rfl rfl ?_
        refine z_iload_n 27 dX10_knowing_26 rfl rfl ?_
        refine z_iload 29 dX10_knowing_27 rfl rfl ?_
        refine z_cS2 32 dX10_knowing_29 rfl kX10_has zw_873 (Nat.le_of_ble_eq_true rfl) ⟨Nat.le_refl _, Nat.le_refl _⟩ ?_
        refine c_X10_has hL (by omega) ?_
        refine z_if_ne 59 35 dX10_knowing_32 (by decide) rfl (by first | omega | exact zr_b _ | exact zr_and _ _ | exact zr_or _ _ | exact zr_shl _ _) (fun c32 => ?_) (fun c32 => ?_)
        · try replace c32 := zb_1 c32
          rw [show zknL E P L (i + 1) = zknL E P L i from if_neg (fun q => by rw [q.1] at c32; exact absurd c32 (by decide))] at ih
          refine z_iconst 60 dX10_knowing_59 rfl ?_
          refine z_ior 61 dX10_knowing_60 rfl ?_
          refine z_istore_n 62 dX10_knowing_61 rfl (by decide) ?_
          refine z_iinc 65 dX10_knowing_62 rfl (by decide) rfl ?_
          refine z_goto 4 dX10_knowing_65 (by decide) ?_
          try rw [zor_z hb]
          exact ih _
        · try replace c32 := zb_0 c32
          refine z_iload_n 36 dX10_knowing_35 rfl rfl ?_
          refine z_aload_n 37 dX10_knowing_36 rfl rfl ?_
          refine z_getf (ci := 10) 40 dX10_knowing_37 rfl rfl zin_10 3 (by decide) zw_767 (by first | with_reducible assumption | with_reducible exact zup_same _ _ _) rfl ?_
          refine z_bipush 42 dX10_knowing_40 rfl (by decide) ?_
          refine z_iload 44 dX10_knowing_42 rfl rfl ?_
          refine z_iadd 45 dX10_knowing_44 rfl ?_
          refine z_iald 46 dX10_knowing_45 rfl (by first | with_reducible assumption | with_reducible exact zup_same _ _ _) (by omega) (by first | omega | exact zr_b _ | exact zr_and _ _ | exact zr_or _ _ | exact zr_shl _ _) ?_
          rw [e17]
          refine z_cS2 49 dX10_knowing_46 rfl kX10_has zw_873 (Nat.le_of_ble_eq_true rfl) ⟨Nat.le_refl _, Nat.le_refl _⟩ ?_
          refine c_X10_has hb (by omega) ?_
          refine z_if_eq 59 52 dX10_knowing_49 (by decide) rfl (by first | omega | exact zr_b _ | exact zr_and _ _ | exact zr_or _ _ | exact zr_shl _ _) (fun c49 => ?_) (fun c49 => ?_)
          · try replace c49 := zb_0 c49
            rw [show zknL E P L (i + 1) = zknL E P L i from if_neg (fun q => c49 q.2)] at ih
            refine z_iconst 60 dX10_knowing_59 rfl ?_
            refine z_ior 61 dX10_knowing_60 rfl ?_
            refine z_istore_n 62 dX10_knowing_61 rfl (by decide) ?_
            refine z_iinc 65 dX10_knowing_62 rfl (by decide) rfl ?_
            refine z_goto 4 dX10_knowing_65 (by decide) ?_
            try rw [zor_z hb]
            exact ih _
          · try replace c49 := zb_1 c49
            rw [show zknL E P L (i + 1) = zor (zknL E P L i) (zshl 1 (P i)) from if_pos ⟨by simpa using c32, c49⟩] at ih
            refine z_iconst 53 dX10_knowing_52 rfl ?_
            refine z_iload 55 dX10_knowing_53 rfl rfl ?_
            refine z_ishl 56 dX10_knowing_55 rfl ?_
            refine z_goto 60 dX10_knowing_56 (by decide) ?_
            refine z_ior 61 dX10_knowing_60 rfl ?_
            refine z_istore_n 62 dX10_knowing_61 rfl (by decide) ?_
            refine z_iinc 65 dX10_knowing_62 rfl (by decide) rfl ?_
            refine z_goto 4 dX10_knowing_65 (by decide) ?_
            try rw [zor_z hb]
            exact ih _
  refine zC.of zpl_X10 (Nat.le_of_ble_eq_true rfl) ?_
  refine z_iconst 1 dX10_knowing_0 rfl ?_
  refine z_istore_n 2 dX10_knowing_1 rfl (by decide) ?_
  refine z_iconst 3 dX10_knowing_2 rfl ?_
  refine z_istore_n 4 dX10_knowing_3 rfl (by decide) ?_
  exact key 0 (Nat.zero_le _) _
end MARITH
