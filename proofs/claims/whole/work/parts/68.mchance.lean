/-! CHANCES: over the sets of those whose letters are lost, and along THE PLAN -/
def zSL (x : Int) (g : Int → Int) : List Int → Int → Int
  | [], L => g L
  | q :: l, L => (10 - x) * zSL x g l L + x * zSL x g l (zor L (zshl 1 q))
theorem zor_ac (a b c : Int) : zor (zor a b) c = zor (zor a c) b := by
  refine zt_ext (zr_or _ _) (zr_or _ _) (fun i _ => ?_)
  rw [zt_or, zt_or, zt_or, zt_or, Bool.or_assoc, Bool.or_assoc, Bool.or_comm (zt b i)]
theorem zSL_perm {x : Int} {g : Int → Int} {l l' : List Int} (h : l.Perm l') : ∀ L : Int, zSL x g l L = zSL x g l' L := by
  induction h with
  | nil => intro L; rfl
  | cons q _ ih => intro L; unfold zSL; rw [ih, ih]
  | swap q r l =>
    intro L
    unfold zSL
    unfold zSL
    rw [zor_ac L (zshl 1 r) (zshl 1 q)]
    generalize zSL x g l L = a
    generalize zSL x g l (zor L (zshl 1 q)) = b
    generalize zSL x g l (zor L (zshl 1 r)) = c
    generalize zSL x g l (zor (zor L (zshl 1 q)) (zshl 1 r)) = e
    grind
  | trans _ _ ih1 ih2 => intro L; rw [ih1, ih2]
def zdn : Nat → List Int
  | 0 => []
  | k + 1 => ((k + 1 : Nat) : Int) :: zdn k
theorem zdn_perm : ∀ k : Nat, (zdn k).Perm (z1N k)
  | 0 => List.Perm.refl _
  | k + 1 => by
    unfold zdn
    rw [z1N_s]
    refine List.Perm.trans ((zdn_perm k).cons _) ?_
    exact (List.perm_append_comm (l₁ := [((k + 1 : Nat) : Int)]) (l₂ := z1N k))
theorem z8_dbl : ∀ s : Nat, s < 128 → ∀ k : Nat, k < 7 → s % 2 ^ (k + 1) = 0 → ((2 * (s + 2 ^ k) : Nat) : Int) = zor ((2 * s : Nat) : Int) (zshl 1 ((k + 1 : Nat) : Int)) := by decide +kernel
/-- a term of the model's sum -/
def zgH (g : Int → Int) (x : Int) (N : Nat) (s : Nat) : Int := g ((2 * s : Nat) : Int) * (x ^ (zones s 8).toNat * (10 - x) ^ (N - (zones s 8).toNat))
theorem zgH_tree {g : Int → Int} {x : Int} {N : Nat} (hN : N ≤ 7) : ∀ (k s a b : Nat), k ≤ N → s % 2 ^ k = 0 → s < 2 ^ N → (k = 0 ∨ s + 2 ^ k ≤ 2 ^ N) → zones (s : Int) 8 = a → a + b + k = N → zsm (fun i => zgH g x N (s + i)) (2 ^ k) = x ^ a * (10 - x) ^ b * zSL x g (zdn k) ((2 * s : Nat) : Int)
  | 0, s, a, b, _, _, hs, _, ha, hab => by
    show 0 + zgH g x N (s + 0) = _
    unfold zgH zSL
    rw [Nat.add_zero, ha, show ((a : Int)).toNat = a by omega, show N - a = b by omega, Int.zero_add, Int.mul_comm]
    rfl
  | k + 1, s, a, b, hk, hm, hs, hsk, ha, hab => by
    have hpp : 2 ^ (k + 1) = 2 ^ k + 2 ^ k := by rw [Nat.pow_succ]; omega
    have hp0 : 0 < 2 ^ k := Nat.pow_pos (by omega)
    have h7 : 2 ^ N ≤ 2 ^ 7 := Nat.pow_le_pow_right (by omega) hN
    have hm0 : s % 2 ^ k = 0 := by
      have : 2 ^ k ∣ s := Nat.dvd_trans ⟨2, by rw [Nat.pow_succ]⟩ (Nat.dvd_of_mod_eq_zero hm)
      exact Nat.mod_eq_zero_of_dvd this
    have hm1 : (s + 2 ^ k) % 2 ^ k = 0 := by rw [Nat.add_mod_right]; exact hm0
    obtain ⟨u1, u2, u3⟩ := z8_up s (by omega) k (by omega) hm
    have hd := z8_dbl s (by omega) k (by omega) hm
    rw [zsm_2, zgH_tree hN k s a (b + 1) (by omega) hm0 hs (by omega) ha (by omega), zgH_tree hN k (s + 2 ^ k) (a + 1) b (by omega) hm1 (by omega) (by omega) (by rw [u2, ha]; omega) (by omega)]
    show _ = x ^ a * (10 - x) ^ b * ((10 - x) * zSL x g (zdn k) _ + x * zSL x g (zdn k) _)
    rw [hd, Int.pow_succ, Int.pow_succ]
    generalize zSL x g (zdn k) ((2 * s : Nat) : Int) = u
    generalize zSL x g (zdn k) (zor ((2 * s : Nat) : Int) (zshl 1 ((k + 1 : Nat) : Int))) = v
    generalize x ^ a = y
    generalize (10 - x) ^ b = z
    grind
section CHMATH
variable {B v x : Int} {N : Nat} {D G E P : Int → Int}
def zgv1 (E P : Int → Int) (v : Int) (N : Nat) (L : Int) : Int := if v ≤ zones (zknL E P L N) 8 then 1 else 0
theorem zknL_cg {L L' : Int} : ∀ i : Nat, (∀ j : Nat, j < i → zkb L (P j) = zkb L' (P j)) → zknL E P L i = zknL E P L' i
  | 0, _ => rfl
  | i + 1, h => by unfold zknL; rw [zknL_cg i (fun j hj => h j (by omega)), h i (by omega)]
theorem zSL_chf (hO : zOK B N D G E P) : ∀ (k i : Nat), i + k = N → ∀ L : Int, (∀ j : Nat, i ≤ j → j < N → zkb L (P j) = false) → zSL x (zgv1 E P v N) ((zpl P N).drop i) L = zchf E P v x k i (zknL E P L i)
  | 0, i, hik, L, hL => by
    rw [List.drop_eq_nil_of_le (by rw [zpl_len]; omega)]
    show zgv1 E P v N L = zchf E P v x 0 i _
    unfold zgv1 zchf
    rw [show N = i by omega]
  | k + 1, i, hik, L, hL => by
    have hN := hO.1
    have v8 := hO.v8 i (by omega)
    have hPi : ∀ j : Nat, j < N → j ≠ i → zkb (zor L (zshl 1 (P i))) (P j) = zkb L (P j) := fun j hj hne => by
      have h8 := hO.v8 j hj
      rw [zkb_or (by omega) (by omega), decide_eq_false (fun e => hne (hO.2.2.2.1 j i hj (by omega) e)), Bool.or_false]
    have hLi : zkb (zor L (zshl 1 (P i))) (P i) = true := (zkb_orT (by omega) (by omega)).mpr (Or.inr rfl)
    have h0 := hL i (Nat.le_refl _) (by omega)
    have e1 := zSL_chf hO k (i + 1) (by omega) L (fun j h1 h2 => hL j (by omega) h2)
    have e2 := zSL_chf hO k (i + 1) (by omega) (zor L (zshl 1 (P i))) (fun j h1 h2 => by rw [hPi j h2 (by omega)]; exact hL j (by omega) h2)
    have ec : zknL E P (zor L (zshl 1 (P i))) i = zknL E P L i := zknL_cg i (fun j hj => hPi j (by omega) (by omega))
    rw [zpl_drop P (by omega)]
    show (10 - x) * zSL x _ _ L + x * zSL x _ _ (zor L (zshl 1 (P i))) = _
    rw [e1, e2]
    have f2 : zknL E P (zor L (zshl 1 (P i))) (i + 1) = zknL E P L i := by
      show (if zkb (zor L (zshl 1 (P i))) (P i) = false ∧ _ then _ else _) = _
      rw [if_neg (fun q => by rw [hLi] at q; exact absurd q.1 (by decide)), ec]
    rw [f2]
    have ez : zchf E P v x (k + 1) i (zknL E P L i) = if zkb (zknL E P L i) (E (P i)) = false then 10 * zchf E P v x k ((i : Int) + 1) (zknL E P L i) else x * zchf E P v x k ((i : Int) + 1) (zknL E P L i) + (10 - x) * zchf E P v x k ((i : Int) + 1) (zor (zknL E P L i) (zshl 1 (P i))) := rfl
    rw [ez]
    by_cases c : zkb (zknL E P L i) (E (P i)) = false
    · have f1 : zknL E P L (i + 1) = zknL E P L i := if_neg (fun q => by rw [c] at q; exact absurd q.2 (by decide))
      rw [f1, if_pos c, show ((i + 1 : Nat) : Int) = (i : Int) + 1 by omega]
      rw [Int.sub_mul]
      omega
    · have f1 : zknL E P L (i + 1) = zor (zknL E P L i) (zshl 1 (P i)) := if_pos ⟨h0, by simpa using c⟩
      rw [f1, if_neg c, show ((i + 1 : Nat) : Int) = (i : Int) + 1 by omega]
      omega
theorem zchance_eq (hO : zOK B N D G E P) : zsm (zgH (zgv1 E P v N) x N) (2 ^ N) = zchf E P v x N 0 1 := by
  have hN := hO.1
  have t := zgH_tree (g := zgv1 E P v N) (x := x) hN N 0 0 0 (Nat.le_refl _) (by simp) (Nat.pow_pos (by omega)) (by omega) (by decide) (by omega)
  have p := zSL_perm (x := x) (g := zgv1 E P v N) ((zdn_perm N).trans hO.perm.symm) 0
  have c := zSL_chf (v := v) (x := x) hO N 0 (by omega) 0 (fun j _ _ => zt_0 _)
  simp only [Nat.zero_add, Int.pow_zero, Int.one_mul] at t
  rw [show zsm (zgH (zgv1 E P v N) x N) (2 ^ N) = _ from t]
  rw [show ((2 * 0 : Nat) : Int) = 0 from rfl, p]
  exact c
end CHMATH
theorem zones_r (x : Int) : ∀ k : Nat, k ≤ 31 → 0 ≤ zones x k ∧ zones x k ≤ k
  | 0, _ => by show (0 : Int) ≤ 0 ∧ (0 : Int) ≤ 0; omega
  | k + 1, hk => by
    have ih := zones_r x k (by omega)
    show 0 ≤ zones x k + zand (zshr x (k : Int)) 1 ∧ zones x k + zand (zshr x (k : Int)) 1 ≤ _
    rw [z_has (by omega)]
    split <;> omega
section MCHANCE
variable {d : Nat} {h : zH} {Q : Option zV → zH → Prop} {C : Int → Int} {l : Int} {N M : Nat} {D G E P R DI : Int → Int} {ac nx : Int} {KP IK SW ST : Int → Int} {sn sd : Int} {s : zMS}
theorem m_chance_bad {v x up : Int} (hv : (-2147483648 ≤ v ∧ v ≤ 2147483647) ∧ (-2147483648 ≤ x ∧ x ≤ 2147483647)) (hbad : v < 0 ∨ 8 < v ∨ x < 0 ∨ 10 < x) (hQ : Q (some (vI (-2))) h) : zC (d + 14) mX10_chance 0 0 [vR 112, vI v, vI x, vI up] h Q := by
  refine zC.of zpl_X10 (Nat.le_of_ble_eq_true rfl) ?_
  refine z_iload_n 1 dX10_chance_0 rfl rfl ?_
  refine z_i2l 2 dX10_chance_1 rfl (by first | omega | exact zr_b _ | exact zr_and _ _ | exact zr_or _ _ | exact zr_shl _ _) ?_
  refine z_lconst 3 dX10_chance_2 rfl ?_
  refine z_ldc2 (x := 8) 6 dX10_chance_3 rfl zw_866 ?_
  refine z_cS3 9 dX10_chance_6 rfl kX10_in zw_846 (Nat.le_of_ble_eq_true rfl) ⟨Nat.le_refl _, Nat.le_refl _⟩ ?_
  refine c_X10_in (a := 0) (by omega) (by omega) (by omega) ?_
  refine z_if_eq 24 12 dX10_chance_9 (by decide) rfl (by first | omega | exact zr_b _ | exact zr_and _ _ | exact zr_or _ _ | exact zr_shl _ _) (fun c9 => ?_) (fun c9 => ?_)
  · try replace c9 := zb_0 c9
    refine z_bipush 26 dX10_chance_24 rfl (by decide) ?_
    refine z_ret dX10_chance_26 (by first | exact True.intro | exact Or.inl rfl | exact Or.inr rfl | exact zb_01 _ | assumption | (show _ ∨ _; omega)) ⟨Nat.le_refl _, Nat.le_refl _⟩ ?_
    exact hQ
  · try replace c9 := zb_1 c9
    refine z_iload_n 13 dX10_chance_12 rfl rfl ?_
    refine z_i2l 14 dX10_chance_13 rfl (by first | omega | exact zr_b _ | exact zr_and _ _ | exact zr_or _ _ | exact zr_shl _ _) ?_
    refine z_lconst 15 dX10_chance_14 rfl ?_
    refine z_ldc2 (x := 10) 18 dX10_chance_15 rfl zw_1086 ?_
    refine z_cS3 21 dX10_chance_18 rfl kX10_in zw_846 (Nat.le_of_ble_eq_true rfl) ⟨Nat.le_refl _, Nat.le_refl _⟩ ?_
    refine c_X10_in (a := 0) (by omega) (by omega) (by omega) ?_
    refine z_if_ne 27 24 dX10_chance_21 (by decide) rfl (by first | omega | exact zr_b _ | exact zr_and _ _ | exact zr_or _ _ | exact zr_shl _ _) (fun c21 => ?_) (fun c21 => ?_)
    · try replace c21 := zb_1 c21
      exfalso; omega
    · try replace c21 := zb_0 c21
      refine z_bipush 26 dX10_chance_24 rfl (by decide) ?_
      refine z_ret dX10_chance_26 (by first | exact True.intro | exact Or.inl rfl | exact Or.inr rfl | exact zb_01 _ | assumption | (show _ ∨ _; omega)) ⟨Nat.le_refl _, Nat.le_refl _⟩ ?_
      exact hQ
theorem m_chance {v x up : Int} (hW : zMC h C l ((N + 1 : Nat) : Int) R DI ac nx KP IK SW ST sn sd) (hR : zRo N M D G E P R) (hO : zOK 9 N D G E P) (hv : 0 ≤ v ∧ v ≤ 8) (hx : 0 ≤ x ∧ x ≤ 10) (hup : up = 0 ∨ up = 1) (hQ : Q (some (vI (zpart (zchf E P v x N 0 1).toNat (10 ^ N) up))) h) : zC (d + 14) mX10_chance 0 0 [vR 112, vI v, vI x, vI up] h Q := by
  have hN := hO.1
  obtain ⟨hK, hK2⟩ := z8_shl N (by omega)
  have hcb := zchf_b (E := E) (P := P) (v := v) hx N 0 1
  have hce := zchance_eq (v := v) (x := x) hO
  have h10 : 1 ≤ 10 ^ N ∧ 10 ^ N ≤ 10000000 := by
    rcases (show N = 0 ∨ N = 1 ∨ N = 2 ∨ N = 3 ∨ N = 4 ∨ N = 5 ∨ N = 6 ∨ N = 7 by omega) with e | e | e | e | e | e | e | e <;> rw [e] <;> decide
  have hzN : ∀ s : Nat, s < 2 ^ N → 0 ≤ zones (s : Int) 8 ∧ zones (s : Int) 8 ≤ N := fun s hs => by
    have h7 : 2 ^ N ≤ 2 ^ 7 := Nat.pow_le_pow_right (by omega) hN
    have hpp : 2 ^ (N + 1) = 2 ^ N + 2 ^ N := by rw [Nat.pow_succ]; omega
    have := zones_N (n := N + 1) (p := N) (s := s) (by omega) (by omega) (by omega) (by rw [z8_div s (by omega) N (by omega), Nat.div_eq_of_lt hs]; rfl)
    omega
  generalize hKK : 2 ^ N = K at hK hK2 hce hzN
  have hK7 : K ≤ 128 := by
    have h7 : 2 ^ N ≤ 2 ^ 7 := Nat.pow_le_pow_right (by omega) hN
    omega
  obtain ⟨TR, TI, WH, BG, OD, WO, MA, RD, rp, rs, rm, rw', hW⟩ := hW
  have w112 := hW.c112
  dsimp only [zMO, zMS.C, zMS.l, zMS.n, zMS.R, zMS.TR, zMS.DI, zMS.ac, zMS.nx, zMS.KP, zMS.IK, zMS.SW, zMS.ST, zMS.sn, zMS.sd, zMS.TI, zMS.WH, zMS.BG, zMS.OD, zMS.WO, zMS.MA, zMS.rp, zMS.RD, zMS.rs, zMS.rm, zMS.rw, zMS.uC, zMS.ul, zMS.un, zMS.uR, zMS.uTR, zMS.uDI, zMS.uac, zMS.unx, zMS.uKP, zMS.uIK, zMS.uSW, zMS.uST, zMS.usn, zMS.usd, zMS.uTI, zMS.uWH, zMS.uBG, zMS.uOD, zMS.uWO, zMS.uMA, zMS.urp, zMS.uRD, zMS.urs, zMS.urm, zMS.urw] at w112
  have w114 := hW.c114
  dsimp only [zMO, zMS.C, zMS.l, zMS.n, zMS.R, zMS.TR, zMS.DI, zMS.ac, zMS.nx, zMS.KP, zMS.IK, zMS.SW, zMS.ST, zMS.sn, zMS.sd, zMS.TI, zMS.WH, zMS.BG, zMS.OD, zMS.WO, zMS.MA, zMS.rp, zMS.RD, zMS.rs, zMS.rm, zMS.rw, zMS.uC, zMS.ul, zMS.un, zMS.uR, zMS.uTR, zMS.uDI, zMS.uac, zMS.unx, zMS.uKP, zMS.uIK, zMS.uSW, zMS.uST, zMS.usn, zMS.usd, zMS.uTI, zMS.uWH, zMS.uBG, zMS.uOD, zMS.uWO, zMS.uMA, zMS.urp, zMS.uRD, zMS.urs, zMS.urm, zMS.urw] at w114
  have key : ∀ i : Nat, i ≤ K → ∀ o7 : Option zV, Z (d + 14) mX10_chance zo 41 [some (vR 112), some (vI v), some (vI x), some (vI up), some (vI N), some (vI (zsm (zgH (zgv1 E P v N) x N) i)), some (vI i), o7] [] h Q := by
    refine z_loop K ?_ ?_
    · intro o7
      refine z_iload 43 dX10_chance_41 rfl rfl ?_
      refine z_iconst 44 dX10_chance_43 rfl ?_
      refine z_iload 46 dX10_chance_44 rfl rfl ?_
      refine z_ishl 47 dX10_chance_46 rfl ?_
      rw [hK]
      refine z_icmp_ge 103 50 dX10_chance_47 (by decide) rfl (by first | omega | exact zr_b _ | exact zr_and _ _ | exact zr_or _ _ | exact zr_shl _ _) (by first | omega | exact zr_b _ | exact zr_and _ _ | exact zr_or _ _ | exact zr_shl _ _) (fun c47 => ?_) (fun c47 => ?_)
      · refine z_iload 105 dX10_chance_103 rfl rfl ?_
        refine z_bipush 107 dX10_chance_105 rfl (by decide) ?_
        refine z_iload 109 dX10_chance_107 rfl rfl ?_
        refine z_cS2 112 dX10_chance_109 rfl kX10_power zw_1091 (Nat.le_of_ble_eq_true rfl) ⟨Nat.le_refl _, Nat.le_refl _⟩ ?_
        refine c_X10_power (by omega) ?_
        refine z_iload_n 113 dX10_chance_112 rfl rfl ?_
        refine z_cS3 116 dX10_chance_113 rfl kX10_fraction zw_1079 (Nat.le_of_ble_eq_true rfl) ⟨Nat.le_refl _, Nat.le_refl _⟩ ?_
        have e1 : zsm (zgH (zgv1 E P v N) x N) K = (((zchf E P v x N 0 1).toNat : Nat) : Int) := by rw [hce]; omega
        have e2 : (10 : Int) ^ N = ((10 ^ N : Nat) : Int) := by rw [Int.natCast_pow]; rfl
        rw [e1, e2]
        refine c_X10_fraction (by omega) (by omega) hup ?_
        refine z_ret dX10_chance_116 (by first | exact True.intro | exact Or.inl rfl | exact Or.inr rfl | exact zb_01 _ | assumption | (show _ ∨ _; omega)) ⟨Nat.le_refl _, Nat.le_refl _⟩ ?_
        exact hQ
      · exfalso; omega
    · intro i hi ih o7
      have hz := hzN i hi
      have eu : zsm (zgH (zgv1 E P v N) x N) (i + 1) = zsm (zgH (zgv1 E P v N) x N) i + zgv1 E P v N ((2 * i : Nat) : Int) * (x ^ (zones (i : Int) 8).toNat * (10 - x) ^ (N - (zones (i : Int) 8).toNat)) := rfl
      have e2i : 2 * (i : Int) = ((2 * i : Nat) : Int) := by omega
      have hz8 := zones_r (zknL E P ((2 * i : Nat) : Int) N) 8 (by omega)
      refine z_iload 43 dX10_chance_41 rfl rfl ?_
      refine z_iconst 44 dX10_chance_43 rfl ?_
      refine z_iload 46 dX10_chance_44 rfl rfl ?_
      refine z_ishl 47 dX10_chance_46 rfl ?_
      rw [hK]
      refine z_icmp_ge 103 50 dX10_chance_47 (by decide) rfl (by first | omega | exact zr_b _ | exact zr_and _ _ | exact zr_or _ _ | exact zr_shl _ _) (by first | omega | exact zr_b _ | exact zr_and _ _ | exact zr_or _ _ | exact zr_shl _ _) (fun c47 => ?_) (fun c47 => ?_)
      · exfalso; omega
      · refine z_iload 52 dX10_chance_50 rfl rfl ?_
        refine z_cS1 55 dX10_chance_52 rfl kX10_ones zw_1073 (Nat.le_of_ble_eq_true rfl) ⟨Nat.le_refl _, Nat.le_refl _⟩ ?_
        refine c_X10_ones ?_
        generalize zones (i : Int) 8 = oo at hz ih eu ⊢
        obtain ⟨a, rfl⟩ : ∃ a : Nat, oo = (a : Int) := ⟨oo.toNat, by omega⟩
        rw [show ((a : Int)).toNat = a by omega] at eu
        refine z_istore 57 dX10_chance_55 rfl (by decide) ?_
        refine z_iload 59 dX10_chance_57 rfl rfl ?_
        refine z_aload_n 60 dX10_chance_59 rfl rfl ?_
        refine z_iconst 61 dX10_chance_60 rfl ?_
        refine z_iload 63 dX10_chance_61 rfl rfl ?_
        refine z_imul 64 dX10_chance_63 rfl ?_
        rw [e2i]
        refine z_cV1 67 dX10_chance_64 rfl kX10_knowing zw_1087 (Nat.le_of_ble_eq_true rfl) ⟨Nat.le_refl _, Nat.le_refl _⟩ (by first | with_reducible assumption | with_reducible exact zup_same _ _ _) ?_
        refine c_X10_knowing hW.c112 rfl w114 hR hO (by omega) ?_
        refine z_iload_n 68 dX10_chance_67 rfl rfl ?_
        refine z_icmp_lt 93 71 dX10_chance_68 (by decide) rfl (by first | omega | exact zr_b _ | exact zr_and _ _ | exact zr_or _ _ | exact zr_shl _ _) (by first | omega | exact zr_b _ | exact zr_and _ _ | exact zr_or _ _ | exact zr_shl _ _) (fun c68 => ?_) (fun c68 => ?_)
        · have e0 : zgv1 E P v N ((2 * i : Nat) : Int) = 0 := if_neg (by omega)
          refine z_iconst 94 dX10_chance_93 rfl ?_
          refine z_iadd 95 dX10_chance_94 rfl ?_
          first | (rw [e0, Int.zero_mul] at eu; rw [← eu]) | (rw [e0, Int.one_mul] at eu; rw [← eu])
          refine z_istore 97 dX10_chance_95 rfl (by decide) ?_
          refine z_iinc 100 dX10_chance_97 rfl (by decide) rfl ?_
          refine z_goto 41 dX10_chance_100 (by decide) ?_
          exact ih _
        · have e0 : zgv1 E P v N ((2 * i : Nat) : Int) = 1 := if_pos (by omega)
          refine z_iload_n 72 dX10_chance_71 rfl rfl ?_
          refine z_iload 74 dX10_chance_72 rfl rfl ?_
          refine z_cS2 77 dX10_chance_74 rfl kX10_power zw_1091 (Nat.le_of_ble_eq_true rfl) ⟨Nat.le_refl _, Nat.le_refl _⟩ ?_
          refine c_X10_power (by omega) ?_
          refine z_bipush 79 dX10_chance_77 rfl (by decide) ?_
          refine z_iload_n 80 dX10_chance_79 rfl rfl ?_
          refine z_isub 81 dX10_chance_80 rfl ?_
          refine z_iload 83 dX10_chance_81 rfl rfl ?_
          refine z_iload 85 dX10_chance_83 rfl rfl ?_
          refine z_isub 86 dX10_chance_85 rfl ?_
          rw [show (N : Int) - (a : Int) = ((N - a : Nat) : Int) by omega]
          refine z_cS2 89 dX10_chance_86 rfl kX10_power zw_1091 (Nat.le_of_ble_eq_true rfl) ⟨Nat.le_refl _, Nat.le_refl _⟩ ?_
          refine c_X10_power (by omega) ?_
          refine z_imul 90 dX10_chance_89 rfl ?_
          refine z_goto 94 dX10_chance_90 (by decide) ?_
          refine z_iadd 95 dX10_chance_94 rfl ?_
          first | (rw [e0, Int.zero_mul] at eu; rw [← eu]) | (rw [e0, Int.one_mul] at eu; rw [← eu])
          refine z_istore 97 dX10_chance_95 rfl (by decide) ?_
          refine z_iinc 100 dX10_chance_97 rfl (by decide) rfl ?_
          refine z_goto 41 dX10_chance_100 (by decide) ?_
          exact ih _
  refine zC.of zpl_X10 (Nat.le_of_ble_eq_true rfl) ?_
  refine z_iload_n 1 dX10_chance_0 rfl rfl ?_
  refine z_i2l 2 dX10_chance_1 rfl (by first | omega | exact zr_b _ | exact zr_and _ _ | exact zr_or _ _ | exact zr_shl _ _) ?_
  refine z_lconst 3 dX10_chance_2 rfl ?_
  refine z_ldc2 (x := 8) 6 dX10_chance_3 rfl zw_866 ?_
  refine z_cS3 9 dX10_chance_6 rfl kX10_in zw_846 (Nat.le_of_ble_eq_true rfl) ⟨Nat.le_refl _, Nat.le_refl _⟩ ?_
  refine c_X10_in (a := 0) (by omega) (by omega) (by omega) ?_
  rw [zb_t (by omega)]
  refine z_if_eq 24 12 dX10_chance_9 (by decide) rfl (by first | omega | exact zr_b _ | exact zr_and _ _ | exact zr_or _ _ | exact zr_shl _ _) (fun c9 => ?_) (fun c9 => ?_)
  · exact absurd c9 (by decide)
  · try replace c9 := zb_1 c9
    refine z_iload_n 13 dX10_chance_12 rfl rfl ?_
    refine z_i2l 14 dX10_chance_13 rfl (by first | omega | exact zr_b _ | exact zr_and _ _ | exact zr_or _ _ | exact zr_shl _ _) ?_
    refine z_lconst 15 dX10_chance_14 rfl ?_
    refine z_ldc2 (x := 10) 18 dX10_chance_15 rfl zw_1086 ?_
    refine z_cS3 21 dX10_chance_18 rfl kX10_in zw_846 (Nat.le_of_ble_eq_true rfl) ⟨Nat.le_refl _, Nat.le_refl _⟩ ?_
    refine c_X10_in (a := 0) (by omega) (by omega) (by omega) ?_
    rw [zb_t (by omega)]
    refine z_if_ne 27 24 dX10_chance_21 (by decide) rfl (by first | omega | exact zr_b _ | exact zr_and _ _ | exact zr_or _ _ | exact zr_shl _ _) (fun c21 => ?_) (fun c21 => ?_)
    · try replace c21 := zb_1 c21
      refine z_aload_n 28 dX10_chance_27 rfl rfl ?_
      refine z_getf (ci := 10) 31 dX10_chance_28 rfl rfl zin_10 2 (by decide) zw_766 (by first | with_reducible assumption | with_reducible exact zup_same _ _ _) rfl ?_
      refine z_iconst 32 dX10_chance_31 rfl ?_
      refine z_isub 33 dX10_chance_32 rfl ?_
      rw [show ((N + 1 : Nat) : Int) - 1 = (N : Int) by omega]
      refine z_istore 35 dX10_chance_33 rfl (by decide) ?_
      refine z_iconst 36 dX10_chance_35 rfl ?_
      refine z_istore 38 dX10_chance_36 rfl (by decide) ?_
      refine z_iconst 39 dX10_chance_38 rfl ?_
      refine z_istore 41 dX10_chance_39 rfl (by decide) ?_
      exact key 0 (Nat.zero_le _) _
    · exact absurd c21 (by decide)
end MCHANCE
