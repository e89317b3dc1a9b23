/-! THE MODEL: share -/
theorem z8_or0 : ∀ n : Nat, n < 9 → ∀ s : Nat, s < 256 → ∀ p : Nat, p < 8 → (s < 2 ^ n ∧ p < n) → 0 ≤ zor s (zshl 1 p) ∧ zor s (zshl 1 p) < ((2 ^ n : Nat) : Int) := by decide +kernel
theorem z8_or (n : Nat) (hn : n < 9) (s : Nat) (hs : s < 256) (h2 : s < 2 ^ n) (p : Nat) (hp : p < 8) (hpn : p < n) : 0 ≤ zor s (zshl 1 p) ∧ zor s (zshl 1 p) < ((2 ^ n : Nat) : Int) := z8_or0 n hn s hs p hp ⟨h2, hpn⟩
theorem z8_shl : ∀ n : Nat, n < 9 → zshl 1 n = ((2 ^ n : Nat) : Int) ∧ 2 ^ n ≤ 256 := by decide +kernel
theorem zones_s (s : Nat) {k : Nat} (hk : k < 8) : zones (s : Int) (k + 1) = zones (s : Int) k + if zkb (s : Int) k = true then 1 else 0 := by
  show _ + zand (zshr (s : Int) (k : Int)) 1 = _
  rw [z_has (by omega)]
theorem zones_p {s p : Nat} (hp : zkb (s : Int) p = false) : ∀ k : Nat, k ≤ 8 → 0 ≤ zones (s : Int) k ∧ zones (s : Int) k + (if p < k then 1 else 0) ≤ k
  | 0, _ => by rw [if_neg (by omega)]; show (0 : Int) ≤ 0 ∧ (0 : Int) + 0 ≤ 0; omega
  | k + 1, hk => by
    have ih := zones_p hp k (by omega)
    rw [zones_s s (by omega)]
    by_cases e : k = p
    · subst e
      rw [if_neg (show ¬ k < k by omega)] at ih
      rw [if_neg (show ¬ zkb (s : Int) k = true by rw [hp]; decide), if_pos (show k < k + 1 by omega)]; omega
    · split at ih <;> split <;> split <;> omega
theorem zones_hi {s n : Nat} (hs : s < 2 ^ n) (hn : n ≤ 8) : ∀ e : Nat, n + e ≤ 8 → zones (s : Int) (n + e) = zones (s : Int) n
  | 0, _ => rfl
  | e + 1, he => by
    have h8 : 2 ^ n ≤ 2 ^ 8 := Nat.pow_le_pow_right (by omega) hn
    have hle : 2 ^ n ≤ 2 ^ (n + e) := Nat.pow_le_pow_right (by omega) (by omega)
    rw [← zones_hi hs hn e (by omega), ← Nat.add_assoc, zones_s s (by omega), z8_div s (by omega) (n + e) (by omega), Nat.div_eq_of_lt (by omega)]
    simp
theorem zones_N {s n p : Nat} (hs : s < 2 ^ n) (hn : n ≤ 8) (hp : p < n) (hk : zkb (s : Int) p = false) : 0 ≤ zones (s : Int) 8 ∧ zones (s : Int) 8 ≤ (n : Int) - 1 := by
  have h := zones_hi hs hn (8 - n) (by omega)
  rw [show n + (8 - n) = 8 by omega] at h
  rw [h]
  have := zones_p hk n hn
  rw [if_pos hp] at this
  omega
theorem zpart_eq {a b c d : Nat} (hb : 0 < b) (hd : 0 < d) (h : a * d = c * b) (up : Int) : zpart a b up = zpart c d up := by
  have hg1 : a / Nat.gcd a b = c / Nat.gcd c d := by
    rw [← Nat.mul_div_mul_right a (Nat.gcd a b) hd, ← Nat.gcd_mul_right, ← Nat.mul_div_mul_right c (Nat.gcd c d) hb, ← Nat.gcd_mul_right, h, Nat.mul_comm b d]
  have hg2 : b / Nat.gcd a b = d / Nat.gcd c d := by
    rw [← Nat.mul_div_mul_right b (Nat.gcd a b) hd, ← Nat.gcd_mul_right, ← Nat.mul_div_mul_right d (Nat.gcd c d) hb, ← Nat.gcd_mul_right, h, Nat.mul_comm b d]
  unfold zpart
  rw [hg1, hg2]
section MSHARE
variable {d : Nat} {h : zH} {Q : Option zV → zH → Prop} {C : Int → Int} {l : Int} {N M : Nat} {D G E P R DI : Int → Int} {ac nx : Int} {KP IK SW ST : Int → Int} {sn sd : Int} {s : zMS}
theorem zgM_b (hO : zOK 9 N D G E P) (hM : M ≤ 3) {p : Nat} (hp : p ≤ N) {i : Nat} (hi : i < 2 ^ (N + 1)) : 0 ≤ zgM (zLC D G E P N M) N p i ∧ zgM (zLC D G E P N M) N p i ≤ 4233600 := by
  have hN := hO.1
  unfold zgM
  split
  · omega
  · next e =>
    have e' : zkb (i : Int) p = false := by simpa using e
    have hz := zones_N hi (by omega) (show p < N + 1 by omega) e'
    have l1 := zLC_b hO hM (i : Int)
    have l2 := zLC_b hO hM (zor i (zshl 1 p))
    have l3 := zLC_m (M := M) hO hM (w := i) (p := p) (by omega)
    have hf := z_fac77 N (by omega) (zones (i : Int) 8).toNat (by omega)
    rw [show (((zones (i : Int) 8).toNat : Nat) : Int) = zones (i : Int) 8 by omega] at hf
    generalize zfac (zones (i : Int) 8) * zfac ((N : Int) - zones (i : Int) 8) = f at hf ⊢
    have hx : 0 ≤ zLC D G E P N M (zor i (zshl 1 p)) - zLC D G E P N M i ∧ zLC D G E P N M (zor i (zshl 1 p)) - zLC D G E P N M i ≤ 840 := by omega
    generalize zLC D G E P N M (zor i (zshl 1 p)) - zLC D G E P N M i = x at hx ⊢
    have m1 : 0 ≤ f * x := Int.mul_nonneg (by omega) hx.1
    have m2 : f * x ≤ 5040 * 840 := Int.mul_le_mul hf.2 hx.2 hx.1 (by omega)
    omega
theorem m_share_no {p up : Int} (hW : zMC h C l ((N + 1 : Nat) : Int) R DI ac nx KP IK SW ST sn sd) (hN : N ≤ 7) (hp : (-2147483648 ≤ p ∧ p ≤ 2147483647) ∧ ¬ (0 ≤ p ∧ p < N + 1)) (hQ : Q (some (vI (-1))) h) : zC (d + 5) mX10_share 0 0 [vR 112, vI p, vI up] h Q := by
  obtain ⟨TR, TI, WH, BG, OD, WO, MA, RD, rp, rs, rm, rw', hW⟩ := hW
  have w112 := hW.c112
  dsimp only [zMO, zMS.C, zMS.l, zMS.n, zMS.R, zMS.TR, zMS.DI, zMS.ac, zMS.nx, zMS.KP, zMS.IK, zMS.SW, zMS.ST, zMS.sn, zMS.sd, zMS.TI, zMS.WH, zMS.BG, zMS.OD, zMS.WO, zMS.MA, zMS.rp, zMS.RD, zMS.rs, zMS.rm, zMS.rw, zMS.uC, zMS.ul, zMS.un, zMS.uR, zMS.uTR, zMS.uDI, zMS.uac, zMS.unx, zMS.uKP, zMS.uIK, zMS.uSW, zMS.uST, zMS.usn, zMS.usd, zMS.uTI, zMS.uWH, zMS.uBG, zMS.uOD, zMS.uWO, zMS.uMA, zMS.urp, zMS.uRD, zMS.urs, zMS.urm, zMS.urw] at w112
  refine zC.of zpl_X10 (Nat.le_of_ble_eq_true rfl) ?_
  refine z_aload_n 1 dX10_share_0 rfl rfl ?_
  refine z_iload_n 2 dX10_share_1 rfl rfl ?_
  refine z_cV1 5 dX10_share_2 rfl kX10_isPerson zw_939 (Nat.le_of_ble_eq_true rfl) ⟨Nat.le_refl _, Nat.le_refl _⟩ (by first | with_reducible assumption | with_reducible exact zup_same _ _ _) ?_
  refine c_X10_isPerson hW.c112 (by show 1 ≤ ((N + 1 : Nat) : Int) ∧ ((N + 1 : Nat) : Int) ≤ 8; omega) (by omega) ?_
  rw [zb_f (by show ¬ (0 ≤ (p : Int) ∧ p < ((N + 1 : Nat) : Int)); omega)]
  refine z_if_ne 10 8 dX10_share_5 (by decide) rfl (by first | omega | exact zr_b _ | exact zr_and _ _ | exact zr_or _ _ | exact zr_shl _ _) (fun c5 => ?_) (fun c5 => ?_)
  · try replace c5 := zb_1 c5
    exact absurd rfl c5
  · try replace c5 := zb_0 c5
    refine z_iconst 9 dX10_share_8 rfl ?_
    refine z_ret dX10_share_9 (by first | exact True.intro | exact Or.inl rfl | exact Or.inr rfl | exact zb_01 _ | assumption | (show _ ∨ _; omega)) ⟨Nat.le_refl _, Nat.le_refl _⟩ ?_
    exact hQ
theorem c_X10_share {p : Nat} {up : Int} (hW : zMC h C l ((N + 1 : Nat) : Int) R DI ac nx KP IK SW ST sn sd) (hR : zRo N M D G E P R) (hO : zOK 9 N D G E P) (hM : M ≤ 3) (hp : p ≤ N) (hup : up = 0 ∨ up = 1) (hQ : ∀ h' : zH, zMC h' C l ((N + 1 : Nat) : Int) R DI ac nx KP IK SW ST sn sd → zMod 112 127 h h' → Q (some (vI (zpart (zsm (zgM (zLC D G E P N M) N p) (2 ^ (N + 1))).toNat (zfac ((N + 1 : Nat) : Int)).toNat up))) h') : zC (d + 5) mX10_share 0 0 [vR 112, vI p, vI up] h Q := by
  have hN := hO.1
  obtain ⟨hK, hK2⟩ := z8_shl (N + 1) (by omega)
  have hK8 := z8_or (N + 1) (by omega)
  have hsb := zsm_b (f := zgM (zLC D G E P N M) N p) (c := 4233600) (n := 2 ^ (N + 1)) (fun i hi => zgM_b hO hM hp hi)
  have hKN : ∀ (s : Nat), s < 2 ^ (N + 1) → zkb (s : Int) p = false → 0 ≤ zones (s : Int) 8 ∧ zones (s : Int) 8 ≤ N := fun s hs hk => by have := zones_N hs (by omega) (show p < N + 1 by omega) hk; omega
  have hgb := fun i hi => zgM_b (i := i) hO hM hp hi
  have hfN := zfac_8 (N + 1) (by omega)
  generalize hKK : 2 ^ (N + 1) = K at hK hK2 hK8 hsb hQ hKN hgb
  obtain ⟨TR, TI, WH, BG, OD, WO, MA, RD, rp, rs, rm, rw', hW⟩ := hW
  have two : ∀ (h1 : zH) (TRx TIx WOx : Int → Int), zMW h1 (C, l, ((N + 1 : Nat) : Int), R, TRx, DI, ac, nx, KP, IK, SW, ST, sn, sd, TIx, WH, BG, OD, WOx, MA, rp, RD, rs, rm, rw') → zMod 112 127 h h1 → (∀ j : Nat, j < K → WOx j = zLC D G E P N M j) → ∀ i : Nat, i ≤ K → ∀ o5 : Option zV, Z (d + 5) mX10_share zo 44 [some (vR 112), some (vI p), some (vI up), some (vI (zsm (zgM (zLC D G E P N M) N p) i)), some (vI i), o5] [] h1 Q := by
    intro h1 TRx TIx WOx hW1 hF1 hWO
    have w112 := hW1.c112
    dsimp only [zMO, zMS.C, zMS.l, zMS.n, zMS.R, zMS.TR, zMS.DI, zMS.ac, zMS.nx, zMS.KP, zMS.IK, zMS.SW, zMS.ST, zMS.sn, zMS.sd, zMS.TI, zMS.WH, zMS.BG, zMS.OD, zMS.WO, zMS.MA, zMS.rp, zMS.RD, zMS.rs, zMS.rm, zMS.rw, zMS.uC, zMS.ul, zMS.un, zMS.uR, zMS.uTR, zMS.uDI, zMS.uac, zMS.unx, zMS.uKP, zMS.uIK, zMS.uSW, zMS.uST, zMS.usn, zMS.usd, zMS.uTI, zMS.uWH, zMS.uBG, zMS.uOD, zMS.uWO, zMS.uMA, zMS.urp, zMS.uRD, zMS.urs, zMS.urm, zMS.urw] at w112
    have w125 := hW1.c125
    dsimp only [zMO, zMS.C, zMS.l, zMS.n, zMS.R, zMS.TR, zMS.DI, zMS.ac, zMS.nx, zMS.KP, zMS.IK, zMS.SW, zMS.ST, zMS.sn, zMS.sd, zMS.TI, zMS.WH, zMS.BG, zMS.OD, zMS.WO, zMS.MA, zMS.rp, zMS.RD, zMS.rs, zMS.rm, zMS.rw, zMS.uC, zMS.ul, zMS.un, zMS.uR, zMS.uTR, zMS.uDI, zMS.uac, zMS.unx, zMS.uKP, zMS.uIK, zMS.uSW, zMS.uST, zMS.usn, zMS.usd, zMS.uTI, zMS.uWH, zMS.uBG, zMS.uOD, zMS.uWO, zMS.uMA, zMS.urp, zMS.uRD, zMS.urs, zMS.urm, zMS.urw] at w125
    refine z_loop K ?_ ?_
    · intro o5
      refine z_iload 46 dX10_share_44 rfl rfl ?_
      refine z_iconst 47 dX10_share_46 rfl ?_
      refine z_aload_n 48 dX10_share_47 rfl rfl ?_
      refine z_getf (ci := 10) 51 dX10_share_48 rfl rfl zin_10 2 (by decide) zw_766 (by first | with_reducible assumption | with_reducible exact zup_same _ _ _) rfl ?_
      refine z_ishl 52 dX10_share_51 rfl ?_
      rw [hK]
      refine z_icmp_ge 118 55 dX10_share_52 (by decide) rfl (by first | omega | exact zr_b _ | exact zr_and _ _ | exact zr_or _ _ | exact zr_shl _ _) (by first | omega | exact zr_b _ | exact zr_and _ _ | exact zr_or _ _ | exact zr_shl _ _) (fun c52 => ?_) (fun c52 => ?_)
      · refine z_iload_n 119 dX10_share_118 rfl rfl ?_
        refine z_aload_n 120 dX10_share_119 rfl rfl ?_
        refine z_getf (ci := 10) 123 dX10_share_120 rfl rfl zin_10 2 (by decide) zw_766 (by first | with_reducible assumption | with_reducible exact zup_same _ _ _) rfl ?_
        refine z_cS1 126 dX10_share_123 rfl kX10_factorial zw_1076 (Nat.le_of_ble_eq_true rfl) ⟨Nat.le_refl _, Nat.le_refl _⟩ ?_
        refine c_X10_factorial (by omega) ?_
        refine z_iload_n 127 dX10_share_126 rfl rfl ?_
        refine z_cS3 130 dX10_share_127 rfl kX10_fraction zw_1079 (Nat.le_of_ble_eq_true rfl) ⟨Nat.le_refl _, Nat.le_refl _⟩ ?_
        have e1 : zsm (zgM (zLC D G E P N M) N p) K = (((zsm (zgM (zLC D G E P N M) N p) K).toNat : Nat) : Int) := by omega
        have e2 : zfac ((N + 1 : Nat) : Int) = (((zfac ((N + 1 : Nat) : Int)).toNat : Nat) : Int) := by omega
        rw [e1, e2]
        refine c_X10_fraction (by omega) (by omega) hup ?_
        rw [← e1]
        refine z_ret dX10_share_130 (by first | exact True.intro | exact Or.inl rfl | exact Or.inr rfl | exact zb_01 _ | assumption | (show _ ∨ _; omega)) ⟨Nat.le_refl _, Nat.le_refl _⟩ ?_
        exact hQ _ hW1.mc hF1
      · exfalso; omega
    · intro i hi ih o5
      have hi8 : i < 256 := by omega
      refine z_iload 46 dX10_share_44 rfl rfl ?_
      refine z_iconst 47 dX10_share_46 rfl ?_
      refine z_aload_n 48 dX10_share_47 rfl rfl ?_
      refine z_getf (ci := 10) 51 dX10_share_48 rfl rfl zin_10 2 (by decide) zw_766 (by first | with_reducible assumption | with_reducible exact zup_same _ _ _) rfl ?_
      refine z_ishl 52 dX10_share_51 rfl ?_
      rw [hK]
      refine z_icmp_ge 118 55 dX10_share_52 (by decide) rfl (by first | omega | exact zr_b _ | exact zr_and _ _ | exact zr_or _ _ | exact zr_shl _ _) (by first | omega | exact zr_b _ | exact zr_and _ _ | exact zr_or _ _ | exact zr_shl _ _) (fun c52 => ?_) (fun c52 => ?_)
      · exfalso; omega
      · refine z_iload 57 dX10_share_55 rfl rfl ?_
        refine z_iload_n 58 dX10_share_57 rfl rfl ?_
        refine z_cS2 61 dX10_share_58 rfl kX10_has zw_873 (Nat.le_of_ble_eq_true rfl) ⟨Nat.le_refl _, Nat.le_refl _⟩ ?_
        refine c_X10_has (by omega) (by omega) ?_
        refine z_if_ne 112 64 dX10_share_61 (by decide) rfl (by first | omega | exact zr_b _ | exact zr_and _ _ | exact zr_or _ _ | exact zr_shl _ _) (fun c61 => ?_) (fun c61 => ?_)
        · try replace c61 := zb_1 c61
          rw [show zsm (zgM (zLC D G E P N M) N p) (i + 1) = zsm (zgM (zLC D G E P N M) N p) i from by show _ + zgM _ _ _ _ = _; unfold zgM; rw [if_pos c61, Int.add_zero]] at ih
          refine z_iinc 115 dX10_share_112 rfl (by decide) rfl ?_
          refine z_goto 44 dX10_share_115 (by decide) ?_
          exact ih _
        · try replace c61 := zb_0 c61
          have c61' : zkb (i : Int) p = false := by simpa using c61
          have hz := hKN i hi c61'
          have hor := hK8 i hi8 (by omega) p (by omega) (by omega)
          have w1 := hWO i hi
          have w2 := hWO (zor i (zshl 1 p)).toNat (by omega)
          rw [Int.toNat_of_nonneg hor.1] at w2
          rw [show zsm (zgM (zLC D G E P N M) N p) (i + 1) = zsm (zgM (zLC D G E P N M) N p) i + zfac (zones (i : Int) 8) * zfac ((N : Int) - zones (i : Int) 8) * (zLC D G E P N M (zor i (zshl 1 p)) - zLC D G E P N M i) from by show _ + zgM _ _ _ _ = _; unfold zgM; rw [if_neg c61]] at ih
          refine z_iload 66 dX10_share_64 rfl rfl ?_
          refine z_cS1 69 dX10_share_66 rfl kX10_ones zw_1073 (Nat.le_of_ble_eq_true rfl) ⟨Nat.le_refl _, Nat.le_refl _⟩ ?_
          refine c_X10_ones ?_
          generalize zones (i : Int) 8 = oo at hz ih ⊢
          obtain ⟨a, rfl⟩ : ∃ a : Nat, oo = (a : Int) := ⟨oo.toNat, by omega⟩
          refine z_istore 71 dX10_share_69 rfl (by decide) ?_
          refine z_iload_n 72 dX10_share_71 rfl rfl ?_
          refine z_iload 74 dX10_share_72 rfl rfl ?_
          refine z_cS1 77 dX10_share_74 rfl kX10_factorial zw_1076 (Nat.le_of_ble_eq_true rfl) ⟨Nat.le_refl _, Nat.le_refl _⟩ ?_
          refine c_X10_factorial (by omega) ?_
          refine z_aload_n 78 dX10_share_77 rfl rfl ?_
          refine z_getf (ci := 10) 81 dX10_share_78 rfl rfl zin_10 2 (by decide) zw_766 (by first | with_reducible assumption | with_reducible exact zup_same _ _ _) rfl ?_
          refine z_iconst 82 dX10_share_81 rfl ?_
          refine z_isub 83 dX10_share_82 rfl ?_
          refine z_iload 85 dX10_share_83 rfl rfl ?_
          refine z_isub 86 dX10_share_85 rfl ?_
          rw [show ((N + 1 : Nat) : Int) - 1 - (a : Int) = ((N - a : Nat) : Int) by omega]
          refine z_cS1 89 dX10_share_86 rfl kX10_factorial zw_1076 (Nat.le_of_ble_eq_true rfl) ⟨Nat.le_refl _, Nat.le_refl _⟩ ?_
          refine c_X10_factorial (by omega) ?_
          rw [show ((N - a : Nat) : Int) = (N : Int) - a by omega]
          refine z_imul 90 dX10_share_89 rfl ?_
          refine z_aload_n 91 dX10_share_90 rfl rfl ?_
          refine z_getf (ci := 10) 94 dX10_share_91 rfl rfl zin_10 18 (by decide) zw_782 (by first | with_reducible assumption | with_reducible exact zup_same _ _ _) rfl ?_
          refine z_iload 96 dX10_share_94 rfl rfl ?_
          refine z_iconst 97 dX10_share_96 rfl ?_
          refine z_iload_n 98 dX10_share_97 rfl rfl ?_
          refine z_ishl 99 dX10_share_98 rfl ?_
          refine z_ior 100 dX10_share_99 rfl ?_
          refine z_iald 101 dX10_share_100 rfl (by first | with_reducible assumption | with_reducible exact zup_same _ _ _) (by omega) (by first | omega | exact zr_b _ | exact zr_and _ _ | exact zr_or _ _ | exact zr_shl _ _) ?_
          rw [w2]
          refine z_aload_n 102 dX10_share_101 rfl rfl ?_
          refine z_getf (ci := 10) 105 dX10_share_102 rfl rfl zin_10 18 (by decide) zw_782 (by first | with_reducible assumption | with_reducible exact zup_same _ _ _) rfl ?_
          refine z_iload 107 dX10_share_105 rfl rfl ?_
          refine z_iald 108 dX10_share_107 rfl (by first | with_reducible assumption | with_reducible exact zup_same _ _ _) (by omega) (by first | omega | exact zr_b _ | exact zr_and _ _ | exact zr_or _ _ | exact zr_shl _ _) ?_
          rw [w1]
          refine z_isub 109 dX10_share_108 rfl ?_
          refine z_imul 110 dX10_share_109 rfl ?_
          refine z_iadd 111 dX10_share_110 rfl ?_
          refine z_istore_n 112 dX10_share_111 rfl (by decide) ?_
          refine z_iinc 115 dX10_share_112 rfl (by decide) rfl ?_
          refine z_goto 44 dX10_share_115 (by decide) ?_
          exact ih _
  have one : ∀ i : Nat, i ≤ K → ∀ (h1 : zH) (TRx TIx WOx : Int → Int) (o4 o5 : Option zV), zMW h1 (C, l, ((N + 1 : Nat) : Int), R, TRx, DI, ac, nx, KP, IK, SW, ST, sn, sd, TIx, WH, BG, OD, WOx, MA, rp, RD, rs, rm, rw') → zMod 112 127 h h1 → (∀ j : Nat, j < i → WOx j = zLC D G E P N M j) → Z (d + 5) mX10_share zo 12 [some (vR 112), some (vI p), some (vI up), some (vI i), o4, o5] [] h1 Q := by
    refine z_loop K ?_ ?_
    · intro h1 TRx TIx WOx o4 o5 hW1 hF1 hWO
      have w112 := hW1.c112
      dsimp only [zMO, zMS.C, zMS.l, zMS.n, zMS.R, zMS.TR, zMS.DI, zMS.ac, zMS.nx, zMS.KP, zMS.IK, zMS.SW, zMS.ST, zMS.sn, zMS.sd, zMS.TI, zMS.WH, zMS.BG, zMS.OD, zMS.WO, zMS.MA, zMS.rp, zMS.RD, zMS.rs, zMS.rm, zMS.rw, zMS.uC, zMS.ul, zMS.un, zMS.uR, zMS.uTR, zMS.uDI, zMS.uac, zMS.unx, zMS.uKP, zMS.uIK, zMS.uSW, zMS.uST, zMS.usn, zMS.usd, zMS.uTI, zMS.uWH, zMS.uBG, zMS.uOD, zMS.uWO, zMS.uMA, zMS.urp, zMS.uRD, zMS.urs, zMS.urm, zMS.urw] at w112
      refine z_iload_n 13 dX10_share_12 rfl rfl ?_
      refine z_iconst 14 dX10_share_13 rfl ?_
      refine z_aload_n 15 dX10_share_14 rfl rfl ?_
      refine z_getf (ci := 10) 18 dX10_share_15 rfl rfl zin_10 2 (by decide) zw_766 (by first | with_reducible assumption | with_reducible exact zup_same _ _ _) rfl ?_
      refine z_ishl 19 dX10_share_18 rfl ?_
      rw [hK]
      refine z_icmp_ge 39 22 dX10_share_19 (by decide) rfl (by first | omega | exact zr_b _ | exact zr_and _ _ | exact zr_or _ _ | exact zr_shl _ _) (by first | omega | exact zr_b _ | exact zr_and _ _ | exact zr_or _ _ | exact zr_shl _ _) (fun c19 => ?_) (fun c19 => ?_)
      · refine z_iconst 40 dX10_share_39 rfl ?_
        refine z_istore_n 41 dX10_share_40 rfl (by decide) ?_
        refine z_iconst 42 dX10_share_41 rfl ?_
        refine z_istore 44 dX10_share_42 rfl (by decide) ?_
        exact two h1 TRx TIx WOx hW1 hF1 hWO 0 (Nat.zero_le _) _
      · exfalso; omega
    · intro i hi ih h1 TRx TIx WOx o4 o5 hW1 hF1 hWO
      have w112 := hW1.c112
      dsimp only [zMO, zMS.C, zMS.l, zMS.n, zMS.R, zMS.TR, zMS.DI, zMS.ac, zMS.nx, zMS.KP, zMS.IK, zMS.SW, zMS.ST, zMS.sn, zMS.sd, zMS.TI, zMS.WH, zMS.BG, zMS.OD, zMS.WO, zMS.MA, zMS.rp, zMS.RD, zMS.rs, zMS.rm, zMS.rw, zMS.uC, zMS.ul, zMS.un, zMS.uR, zMS.uTR, zMS.uDI, zMS.uac, zMS.unx, zMS.uKP, zMS.uIK, zMS.uSW, zMS.uST, zMS.usn, zMS.usd, zMS.uTI, zMS.uWH, zMS.uBG, zMS.uOD, zMS.uWO, zMS.uMA, zMS.urp, zMS.uRD, zMS.urs, zMS.urm, zMS.urw] at w112
      refine z_iload_n 13 dX10_share_12 rfl rfl ?_
      refine z_iconst 14 dX10_share_13 rfl ?_
      refine z_aload_n 15 dX10_share_14 rfl rfl ?_
      refine z_getf (ci := 10) 18 dX10_share_15 rfl rfl zin_10 2 (by decide) zw_766 (by first | with_reducible assumption | with_reducible exact zup_same _ _ _) rfl ?_
      refine z_ishl 19 dX10_share_18 rfl ?_
      rw [hK]
      refine z_icmp_ge 39 22 dX10_share_19 (by decide) rfl (by first | omega | exact zr_b _ | exact zr_and _ _ | exact zr_or _ _ | exact zr_shl _ _) (by first | omega | exact zr_b _ | exact zr_and _ _ | exact zr_or _ _ | exact zr_shl _ _) (fun c19 => ?_) (fun c19 => ?_)
      · exfalso; omega
      · refine z_aload_n 23 dX10_share_22 rfl rfl ?_
        refine z_getf (ci := 10) 26 dX10_share_23 rfl rfl zin_10 18 (by decide) zw_782 (by first | with_reducible assumption | with_reducible exact zup_same _ _ _) rfl ?_
        refine z_iload_n 27 dX10_share_26 rfl rfl ?_
        refine z_aload_n 28 dX10_share_27 rfl rfl ?_
        refine z_iload_n 29 dX10_share_28 rfl rfl ?_
        refine z_cV1 32 dX10_share_29 rfl kX10_lastBy zw_1069 (Nat.le_of_ble_eq_true rfl) ⟨Nat.le_refl _, Nat.le_refl _⟩ (by first | with_reducible assumption | with_reducible exact zup_same _ _ _) ?_
        refine c_X10_lastBy hW1 hR hO hM (by omega) (fun h2 TR2 TI2 hW2 hF2 => ?_)
        have w125 := hW2.c125
        dsimp only [zMO, zMS.C, zMS.l, zMS.n, zMS.R, zMS.TR, zMS.DI, zMS.ac, zMS.nx, zMS.KP, zMS.IK, zMS.SW, zMS.ST, zMS.sn, zMS.sd, zMS.TI, zMS.WH, zMS.BG, zMS.OD, zMS.WO, zMS.MA, zMS.rp, zMS.RD, zMS.rs, zMS.rm, zMS.rw, zMS.uC, zMS.ul, zMS.un, zMS.uR, zMS.uTR, zMS.uDI, zMS.uac, zMS.unx, zMS.uKP, zMS.uIK, zMS.uSW, zMS.uST, zMS.usn, zMS.usd, zMS.uTI, zMS.uWH, zMS.uBG, zMS.uOD, zMS.uWO, zMS.uMA, zMS.urp, zMS.uRD, zMS.urs, zMS.urm, zMS.urw] at w125
        refine z_iast 33 dX10_share_32 rfl (by omega) (by first | with_reducible assumption | with_reducible exact zup_same _ _ _) (by omega) (by first | omega | exact zr_b _ | exact zr_and _ _ | exact zr_or _ _ | exact zr_shl _ _) ?_
        refine z_iinc 36 dX10_share_33 rfl (by decide) rfl ?_
        refine z_goto 12 dX10_share_36 (by decide) ?_
        refine ih _ _ _ _ _ _ (hW2.s125 _) ((hF1.tr hF2).up _ (by omega)) (fun j hj => ?_)
        by_cases e : j = i
        · subst e; exact zst_same _ _ _
        · show zst WOx i _ j = _
          rw [zst_ne _ _ (by omega)]; exact hWO j (by omega)
  have w112 := hW.c112
  dsimp only [zMO, zMS.C, zMS.l, zMS.n, zMS.R, zMS.TR, zMS.DI, zMS.ac, zMS.nx, zMS.KP, zMS.IK, zMS.SW, zMS.ST, zMS.sn, zMS.sd, zMS.TI, zMS.WH, zMS.BG, zMS.OD, zMS.WO, zMS.MA, zMS.rp, zMS.RD, zMS.rs, zMS.rm, zMS.rw, zMS.uC, zMS.ul, zMS.un, zMS.uR, zMS.uTR, zMS.uDI, zMS.uac, zMS.unx, zMS.uKP, zMS.uIK, zMS.uSW, zMS.uST, zMS.usn, zMS.usd, zMS.uTI, zMS.uWH, zMS.uBG, zMS.uOD, zMS.uWO, zMS.uMA, zMS.urp, zMS.uRD, zMS.urs, zMS.urm, zMS.urw] at w112
  refine zC.of zpl_X10 (Nat.le_of_ble_eq_true rfl) ?_
  refine z_aload_n 1 dX10_share_0 rfl rfl ?_
  refine z_iload_n 2 dX10_share_1 rfl rfl ?_
  refine z_cV1 5 dX10_share_2 rfl kX10_isPerson zw_939 (Nat.le_of_ble_eq_true rfl) ⟨Nat.le_refl _, Nat.le_refl _⟩ (by first | with_reducible assumption | with_reducible exact zup_same _ _ _) ?_
  refine c_X10_isPerson hW.c112 (by show 1 ≤ ((N + 1 : Nat) : Int) ∧ ((N + 1 : Nat) : Int) ≤ 8; omega) (by omega) ?_
  rw [zb_t (by show 0 ≤ (p : Int) ∧ (p : Int) < ((N + 1 : Nat) : Int); omega)]
  refine z_if_ne 10 8 dX10_share_5 (by decide) rfl (by first | omega | exact zr_b _ | exact zr_and _ _ | exact zr_or _ _ | exact zr_shl _ _) (fun c5 => ?_) (fun c5 => ?_)
  · try replace c5 := zb_1 c5
    refine z_iconst 11 dX10_share_10 rfl ?_
    refine z_istore_n 12 dX10_share_11 rfl (by decide) ?_
    exact one 0 (Nat.zero_le _) _ _ _ _ _ _ hW (zMod.rf _ _ h) (fun j hj => absurd hj (by omega))
  · exact absurd c5 (by decide)
theorem m_share_0 {p up : Int} (hW : zMC h C l ((N + 1 : Nat) : Int) R DI ac nx KP IK SW ST sn sd) (hR : zRo N M D G E P R) (hO : zOK 9 N D G E P) (hM : M ≤ 3) (hp : 0 ≤ p ∧ p ≤ N) (hup : up = 0 ∨ up = 1) (hz : zand (zwty D E P N (N + 1)) (zshl 1 p) = 0) (hQ : ∀ h' : zH, zMC h' C l ((N + 1 : Nat) : Int) R DI ac nx KP IK SW ST sn sd → zMod 112 127 h h' → Q (some (vI (zpart 0 1 up))) h') : zC (d + 5) mX10_share 0 0 [vR 112, vI p, vI up] h Q := by
  obtain ⟨p, rfl⟩ : ∃ q : Nat, p = (q : Int) := ⟨p.toNat, by omega⟩
  have hN := hO.1
  refine c_X10_share hW hR hO hM (by omega) hup (fun h' hW' hF => ?_)
  have hf := zfac_8 (N + 1) (by omega)
  rw [zshare_0 hO (by omega) hz, zpart_eq (c := 0) (d := 1) (by omega) (by omega) (by simp)]
  exact hQ h' hW' hF
theorem m_share {p up : Int} (hW : zMC h C l ((N + 1 : Nat) : Int) R DI ac nx KP IK SW ST sn sd) (hR : zRo N M D G E P R) (hO : zOK 9 N D G E P) (hM : M ≤ 3) (hp : 0 ≤ p ∧ p ≤ N) (hup : up = 0 ∨ up = 1) (hQ : ∀ h' : zH, zMC h' C l ((N + 1 : Nat) : Int) R DI ac nx KP IK SW ST sn sd → zMod 112 127 h h' → Q (some (vI (zpart (zshA D G E P N M p).toNat (zfac (zones (zoth D E P N p) 8 + 1)).toNat up))) h') : zC (d + 5) mX10_share 0 0 [vR 112, vI p, vI up] h Q := by
  obtain ⟨p, rfl⟩ : ∃ q : Nat, p = (q : Int) := ⟨p.toNat, by omega⟩
  have hN := hO.1
  refine c_X10_share hW hR hO hM (by omega) hup (fun h' hW' hF => ?_)
  have hf := zfac_8 (N + 1) (by omega)
  have hb := zoth_b (D := D) (E := E) (P := P) hN hp
  have hf2 := zfac_8 ((zones (zoth D E P N p) 8 + 1).toNat) (by omega)
  rw [show (((zones (zoth D E P N p) 8 + 1).toNat : Nat) : Int) = zones (zoth D E P N p) 8 + 1 by omega] at hf2
  have h1 := zsm_b (f := zgM (zLC D G E P N M) N p) (c := 4233600) (n := 2 ^ (N + 1)) (fun i hi => zgM_b hO hM (by omega) hi)
  have h2 := zshs_b (M := M) hO hM hp ((zoth D E P N p).toNat + 1) (by omega)
  have e := zshare_eq (M := M) hO (p := p) (by omega)
  have h2 : 0 ≤ zshA D G E P N M p := h2.1
  rw [zpart_eq (c := (zshA D G E P N M p).toNat) (d := (zfac (zones (zoth D E P N p) 8 + 1)).toNat) (by omega) (by omega) ?_]
  · exact hQ h' hW' hF
  · generalize zsm (zgM (zLC D G E P N M) N p) (2 ^ (N + 1)) = u at *
    generalize zfac (zones (zoth D E P N p) 8 + 1) = v at *
    generalize zshA D G E P N M p = w at *
    generalize zfac ((N + 1 : Nat) : Int) = x at *
    rw [← Int.toNat_mul h1.1 (by omega), ← Int.toNat_mul h2 (by omega), e]
end MSHARE
