/-! LateLetters: judge, drawn, telling, about, person -/
/-- what is so behind the first i doings -/
def zXs (N M : Nat) (G : Int → Int) (dg : Nat → Int) (X : zX) : Nat → zX
  | 0 => X
  | i + 1 => (zcan N M G (dg i / 100) (dg i / 10 % 10) (dg i % 10) (zXs N M G dg X i)).2
theorem zXs_ok {N M : Nat} {G : Int → Int} {dg : Nat → Int} {X : zX} (hO : zOK 9 N X.1 G X.2.1 X.2.2) : ∀ i : Nat, zOK 9 N (zXs N M G dg X i).1 G (zXs N M G dg X i).2.1 (zXs N M G dg X i).2.2
  | 0 => hO
  | i + 1 => zcan_ok (zXs_ok hO i)
/-- THE SEED, drawn from -/
def zsd (sd : Int) : Nat → Int
  | 0 => sd
  | k + 1 => zsd sd k * 6364136223846793005 + 1442695040888963407
def zvv (sd : Int) : Int := zl2i (zlushr sd 33)
def zr9 (v : Int) : Nat → Int
  | 0 => v
  | k + 1 => zr9 v k / 9
def zdl (v : Int) : Int → Int := fun p => 1 + zr9 v p.toNat % 9
theorem zr9_b {v : Int} (h : 0 ≤ v ∧ v ≤ 2147483647) : ∀ k : Nat, 0 ≤ zr9 v k ∧ zr9 v k ≤ 2147483647
  | 0 => h
  | k + 1 => by have := zr9_b h k; unfold zr9; omega
theorem zvv_b (sd : Int) : 0 ≤ zvv sd ∧ zvv sd ≤ 2147483647 := by
  unfold zvv zl2i zlushr
  rw [Int64.ofInt_toInt]
  generalize (Int64.ofInt sd).toUInt64 = u
  have e33 : ((Int32.ofInt 33).toInt64.toUInt64 &&& Int64.toUInt64 63) = UInt64.ofNat 33 := by decide
  rw [e33]
  have hb : (u >>> UInt64.ofNat 33).toNat < 2147483648 := by
    rw [UInt64.toNat_shiftRight]
    have hu := u.toNat_lt
    rw [show (UInt64.ofNat 33).toNat % 64 = 33 by decide, Nat.shiftRight_eq_div_pow]
    have : (2 : Nat) ^ 33 = 8589934592 := by decide
    omega
  have e1 : (u >>> UInt64.ofNat 33).toInt64 = Int64.ofInt ((u >>> UInt64.ofNat 33).toNat : Int) := by
    rw [Int64.ofInt_eq_ofNat]
    apply Int64.toBitVec_inj.mp
    apply BitVec.eq_of_toNat_eq
    show (u >>> UInt64.ofNat 33).toBitVec.toNat = (BitVec.ofNat 64 _).toNat
    rw [BitVec.toNat_ofNat, Nat.mod_eq_of_lt (by omega)]
    rfl
  rw [e1]
  have := zl2i_small (x := ((u >>> UInt64.ofNat 33).toNat : Int)) (by omega)
  unfold zl2i at this
  rw [this]
  omega
/-- delays as they are laid, of the first k -/
def zdd (D : Int → Int) (v : Int) : Nat → (Int → Int)
  | 0 => D
  | k + 1 => zst (zdd D v k) k (1 + zr9 v k % 9)
theorem zdd_at {D : Int → Int} {v : Int} : ∀ {k : Nat} {j : Nat}, j < k → zdd D v k j = zdl v j
  | k + 1, j, hj => by
    unfold zdd
    by_cases e : j = k
    · subst e; rw [zst_same]; unfold zdl; simp
    · rw [zst_ne _ _ (by omega)]; exact zdd_at (by omega)
/-- DRAWN, added up -/
def zdrn (G E P : Int → Int) (N M : Nat) (sd : Int) : Nat → Int
  | 0 => 0
  | k + 1 => zdrn G E P N M sd k + zLAST (zdl (zvv (zsd sd (k + 1)))) G E P N M
theorem zdl_ok {B v : Int} {N : Nat} {D G E P : Int → Int} (hO : zOK B N D G E P) : zOK 9 N (zdl v) G E P := by
  obtain ⟨h1, h2, h3⟩ := hO
  refine ⟨h1, fun q a b => ?_, h3⟩
  have := h2 q a b
  unfold zdl; omega
section TOLD
variable {d : Nat} {h : zH} {Q : Option zV → zH → Prop} {N M : Nat} {D G E P : Int → Int} {T U : zTD} {C : Int → Int} {l fi ct : Int} {S : Nat → zTD} {fl : Int} {Kp : Nat → zTD} {W Kt : Int → Int} {c sd : Int} {O : Int → Int}
theorem c_X9_judge_bad {n row : Int} (hW : zCW h T U C l fi ct S fl Kp W Kt c sd O) (hn : -2147483648 ≤ n ∧ n ≤ 2147483647) (hr : -9223372036854775808 ≤ row ∧ row ≤ 9223372036854775807) (hbad : n < 1 ∨ 4 < n ∨ row < 0 ∨ zrs row n.toNat ≠ 0) (hQ : ∀ (h' : zH) (O' : Int → Int), zCW h' T U C l fi ct S fl Kp W Kt c sd O' → zMod 2 111 h h' → Q (some (vI (-2))) h') : zC (d + 6) mX9_judge 0 0 [vR 2, vI n, vJ row] h Q := by
  have zo2 := hW.ob
  have self := zMod.rf 2 111 h
  refine zC.of zpl_X9 (Nat.le_of_ble_eq_true rfl) ?_
  refine z_iload_n 1 dX9_judge_0 rfl rfl ?_
  refine z_iconst 2 dX9_judge_1 rfl ?_
  refine z_icmp_lt 25 5 dX9_judge_2 (by decide) rfl (by first | omega | exact zr_b _ | exact zr_and _ _ | exact zr_or _ _ | exact zr_shl _ _) (by first | omega | exact zr_b _ | exact zr_and _ _ | exact zr_or _ _ | exact zr_shl _ _) (fun c2 => ?_) (fun c2 => ?_)
  · refine z_bipush 27 dX9_judge_25 rfl (by decide) ?_
    refine z_ret dX9_judge_27 (by first | exact True.intro | exact Or.inl rfl | exact Or.inr rfl | exact zb_01 _ | assumption | (show _ ∨ _; omega)) ⟨Nat.le_refl _, Nat.le_refl _⟩ ?_
    first | exact hQ _ _ hW self | exact hQ _ _ hW' hF
  · refine z_iload_n 6 dX9_judge_5 rfl rfl ?_
    refine z_iconst 7 dX9_judge_6 rfl ?_
    refine z_icmp_gt 25 10 dX9_judge_7 (by decide) rfl (by first | omega | exact zr_b _ | exact zr_and _ _ | exact zr_or _ _ | exact zr_shl _ _) (by first | omega | exact zr_b _ | exact zr_and _ _ | exact zr_or _ _ | exact zr_shl _ _) (fun c7 => ?_) (fun c7 => ?_)
    · refine z_bipush 27 dX9_judge_25 rfl (by decide) ?_
      refine z_ret dX9_judge_27 (by first | exact True.intro | exact Or.inl rfl | exact Or.inr rfl | exact zb_01 _ | assumption | (show _ ∨ _; omega)) ⟨Nat.le_refl _, Nat.le_refl _⟩ ?_
      first | exact hQ _ _ hW self | exact hQ _ _ hW' hF
    · refine z_lload_n 11 dX9_judge_10 rfl rfl ?_
      refine z_lconst 12 dX9_judge_11 rfl ?_
      refine z_lcmp 13 dX9_judge_12 rfl (by first | omega | exact zr_b _ | exact zr_and _ _ | exact zr_or _ _ | exact zr_shl _ _) (by first | omega | exact zr_b _ | exact zr_and _ _ | exact zr_or _ _ | exact zr_shl _ _) ?_
      refine z_if_lt 25 16 dX9_judge_13 (by decide) rfl (by first | omega | (unfold zcmp; split; omega; split <;> omega)) (fun c13 => ?_) (fun c13 => ?_)
      · refine z_bipush 27 dX9_judge_25 rfl (by decide) ?_
        refine z_ret dX9_judge_27 (by first | exact True.intro | exact Or.inl rfl | exact Or.inr rfl | exact zb_01 _ | assumption | (show _ ∨ _; omega)) ⟨Nat.le_refl _, Nat.le_refl _⟩ ?_
        first | exact hQ _ _ hW self | exact hQ _ _ hW' hF
      · have hr0 : 0 ≤ row := by
          unfold zcmp at c13
          by_cases e : row < 0
          · rw [if_neg (show ¬ ((((0 : Fin 2).val : Nat) : Int) < row) by simp; omega), if_neg (show ¬ row = (((0 : Fin 2).val : Nat) : Int) by simp; omega)] at c13; omega
          · omega
        refine z_aload_n 17 dX9_judge_16 rfl rfl ?_
        refine z_iload_n 18 dX9_judge_17 rfl rfl ?_
        refine z_lload_n 19 dX9_judge_18 rfl rfl ?_
        refine z_cV2 22 dX9_judge_19 rfl kX9_readDoings zw_634 (Nat.le_of_ble_eq_true rfl) ⟨Nat.le_refl _, Nat.le_refl _⟩ (by first | with_reducible assumption | with_reducible exact zup_same _ _ _) ?_
        obtain ⟨n0, rfl⟩ : ∃ n0 : Nat, n = (n0 : Int) := ⟨n.toNat, by omega⟩
        rw [show ((n0 : Int)).toNat = n0 by omega] at hbad
        refine c_X9_readDoings hW (by omega) (by omega) (fun h' O' hW' hD hF => ?_)
        refine z_if_ne 28 25 dX9_judge_22 (by decide) rfl (by first | omega | exact zr_b _ | exact zr_and _ _ | exact zr_or _ _ | exact zr_shl _ _) (fun c22 => ?_) (fun c22 => ?_)
        · exact absurd (zb_1 c22) (by omega)
        · try replace c22 := zb_0 c22
          refine z_bipush 27 dX9_judge_25 rfl (by decide) ?_
          refine z_ret dX9_judge_27 (by first | exact True.intro | exact Or.inl rfl | exact Or.inr rfl | exact zb_01 _ | assumption | (show _ ∨ _; omega)) ⟨Nat.le_refl _, Nat.le_refl _⟩ ?_
          first | exact hQ _ _ hW self | exact hQ _ _ hW' hF
theorem c_X9_judge {n r : Nat} {row : Int} (hW : zCW h (N, M, D, G, E, P) U C l fi ct S fl Kp W Kt c sd O) (hO : zOK 9 N D G E P) (hM : 1 ≤ M ∧ M ≤ 3) (hn : 1 ≤ n ∧ n ≤ 4) (hr : 0 ≤ row ∧ row ≤ 9223372036854775807) (hz : zrs row n = 0) (hrn : r ≤ n)
    (h1 : ∀ i : Nat, i < r → (zcan N M G ((zrs row (n - 1 - i) % 1000) / 100) ((zrs row (n - 1 - i) % 1000) / 10 % 10) ((zrs row (n - 1 - i) % 1000) % 10) (zXs N M G (fun i => zrs row (n - 1 - i) % 1000) (D, E, P) i)).1 = true) (h2 : r < n → (zcan N M G ((zrs row (n - 1 - r) % 1000) / 100) ((zrs row (n - 1 - r) % 1000) / 10 % 10) ((zrs row (n - 1 - r) % 1000) % 10) (zXs N M G (fun i => zrs row (n - 1 - i) % 1000) (D, E, P) r)).1 = false)
    (hQ : ∀ (h' : zH) (U' : zTD) (O' : Int → Int), zCW h' (N, M, D, G, E, P) U' C l fi ct S fl Kp W Kt c sd O' → zMod 2 111 h h' → Q (some (vI (if r < n then (r : Int) else -9))) h') : zC (d + 6) mX9_judge 0 0 [vR 2, vI n, vJ row] h Q := by
  obtain ⟨dg, hdg⟩ : ∃ dg : Nat → Int, dg = fun i => zrs row (n - 1 - i) % 1000 := ⟨_, rfl⟩
  have hdb : ∀ i : Nat, 0 ≤ dg i ∧ dg i < 1000 := fun i => by rw [hdg]; have := zrs_b hr (n - 1 - i); dsimp only; omega
  have h1' : ∀ i : Nat, i < r → (zcan N M G (dg i / 100) (dg i / 10 % 10) (dg i % 10) (zXs N M G dg (D, E, P) i)).1 = true := by rw [hdg]; exact h1
  have h2' : r < n → (zcan N M G (dg r / 100) (dg r / 10 % 10) (dg r % 10) (zXs N M G dg (D, E, P) r)).1 = false := by rw [hdg]; exact h2
  have key : ∀ (O' : Int → Int), (∀ i : Nat, i < n → O' i = dg i) → ∀ i : Nat, i ≤ r → ∀ (h' : zH) (w : Option zV), zCW h' (N, M, D, G, E, P) (N, M, (zXs N M G dg (D, E, P) i).1, G, (zXs N M G dg (D, E, P) i).2.1, (zXs N M G dg (D, E, P) i).2.2) C l fi ct S fl Kp W Kt c sd O' → zMod 2 111 h h' → Z (d + 6) mX9_judge zo 42 [some (vR 2), some (vI n), some (vJ row), none, some (vI i), w] [] h' Q := by
    intro O' hO4
    refine z_loop r ?_ ?_
    · intro h' w hW' hF
      have e2 := hQ _ _ _ hW' hF
      by_cases e : r < n
      · rw [if_pos e] at e2
        have hd1 := hdb r
        have hOr := zXs_ok (M := M) (dg := dg) (X := (D, E, P)) hO r
        have zo2 := hW'.ob
        refine z_iload 44 dX9_judge_42 rfl rfl ?_
        refine z_iload_n 45 dX9_judge_44 rfl rfl ?_
        refine z_icmp_ge 93 48 dX9_judge_45 (by decide) rfl (by first | omega | exact zr_b _ | exact zr_and _ _ | exact zr_or _ _ | exact zr_shl _ _) (by first | omega | exact zr_b _ | exact zr_and _ _ | exact zr_or _ _ | exact zr_shl _ _) (fun c45 => ?_) (fun c45 => ?_)
        · exfalso; omega
        · refine z_aload_n 49 dX9_judge_48 rfl rfl ?_
          refine z_getf (ci := 9) 52 dX9_judge_49 rfl rfl zin_9 9 (by decide) zw_233 (by first | with_reducible assumption | with_reducible exact zup_same _ _ _) rfl ?_
          refine z_iload 54 dX9_judge_52 rfl rfl ?_
          refine z_cS2 57 dX9_judge_54 rfl kX9_at zw_640 (Nat.le_of_ble_eq_true rfl) ⟨Nat.le_refl _, Nat.le_refl _⟩ ?_
          refine c_X9_at hW'.do_ (by decide) (by omega) ?_
          rw [hO4 r e]
          refine z_istore 59 dX9_judge_57 rfl (by decide) ?_
          refine z_aload_n 60 dX9_judge_59 rfl rfl ?_
          refine z_iload 62 dX9_judge_60 rfl rfl ?_
          refine z_bipush 64 dX9_judge_62 rfl (by decide) ?_
          refine z_idiv 65 dX9_judge_64 rfl (by first | omega | exact zr_b _ | exact zr_and _ _ | exact zr_or _ _ | exact zr_shl _ _) (by first | omega | exact zr_b _ | exact zr_and _ _ | exact zr_or _ _ | exact zr_shl _ _) ?_
          refine z_iload 67 dX9_judge_65 rfl rfl ?_
          refine z_bipush 69 dX9_judge_67 rfl (by decide) ?_
          refine z_idiv 70 dX9_judge_69 rfl (by first | omega | exact zr_b _ | exact zr_and _ _ | exact zr_or _ _ | exact zr_shl _ _) (by first | omega | exact zr_b _ | exact zr_and _ _ | exact zr_or _ _ | exact zr_shl _ _) ?_
          refine z_bipush 72 dX9_judge_70 rfl (by decide) ?_
          refine z_irem 73 dX9_judge_72 rfl (by first | omega | exact zr_b _ | exact zr_and _ _ | exact zr_or _ _ | exact zr_shl _ _) (by first | omega | exact zr_b _ | exact zr_and _ _ | exact zr_or _ _ | exact zr_shl _ _) ?_
          refine z_iload 75 dX9_judge_73 rfl rfl ?_
          refine z_bipush 77 dX9_judge_75 rfl (by decide) ?_
          refine z_irem 78 dX9_judge_77 rfl (by first | omega | exact zr_b _ | exact zr_and _ _ | exact zr_or _ _ | exact zr_shl _ _) (by first | omega | exact zr_b _ | exact zr_and _ _ | exact zr_or _ _ | exact zr_shl _ _) ?_
          refine z_cV3 81 dX9_judge_78 rfl kX9_canBe zw_641 (Nat.le_of_ble_eq_true rfl) ⟨Nat.le_refl _, Nat.le_refl _⟩ (by first | with_reducible assumption | with_reducible exact zup_same _ _ _) ?_
          refine c_X9_canBe hW' hOr hM (by omega) (by omega) (by omega) (fun h3 hW3 hF3 => ?_)
          rw [h2' e]
          have hQ3 := hQ _ _ _ hW3 (hF.tr hF3)
          rw [if_pos e] at hQ3
          refine z_if_ne 87 84 dX9_judge_81 (by decide) rfl (by first | omega | exact zr_b _ | exact zr_and _ _ | exact zr_or _ _ | exact zr_shl _ _) (fun c81 => ?_) (fun c81 => ?_)
          · exact absurd rfl c81
          · try replace c81 := zb_0 c81
            refine z_iload 86 dX9_judge_84 rfl rfl ?_
            refine z_ret dX9_judge_86 (by first | exact True.intro | exact Or.inl rfl | exact Or.inr rfl | exact zb_01 _ | assumption | (show _ ∨ _; omega)) ⟨Nat.le_refl _, Nat.le_refl _⟩ ?_
            exact hQ3
      · rw [if_neg e] at e2
        refine z_iload 44 dX9_judge_42 rfl rfl ?_
        refine z_iload_n 45 dX9_judge_44 rfl rfl ?_
        refine z_icmp_ge 93 48 dX9_judge_45 (by decide) rfl (by first | omega | exact zr_b _ | exact zr_and _ _ | exact zr_or _ _ | exact zr_shl _ _) (by first | omega | exact zr_b _ | exact zr_and _ _ | exact zr_or _ _ | exact zr_shl _ _) (fun c45 => ?_) (fun c45 => ?_)
        · refine z_bipush 95 dX9_judge_93 rfl (by decide) ?_
          refine z_ret dX9_judge_95 (by first | exact True.intro | exact Or.inl rfl | exact Or.inr rfl | exact zb_01 _ | assumption | (show _ ∨ _; omega)) ⟨Nat.le_refl _, Nat.le_refl _⟩ ?_
          exact e2
        · exfalso; omega
    · intro i hi ih h' w hW' hF
      have hd1 := hdb i
      have hOi := zXs_ok (M := M) (dg := dg) (X := (D, E, P)) hO i
      have zo2 := hW'.ob
      refine z_iload 44 dX9_judge_42 rfl rfl ?_
      refine z_iload_n 45 dX9_judge_44 rfl rfl ?_
      refine z_icmp_ge 93 48 dX9_judge_45 (by decide) rfl (by first | omega | exact zr_b _ | exact zr_and _ _ | exact zr_or _ _ | exact zr_shl _ _) (by first | omega | exact zr_b _ | exact zr_and _ _ | exact zr_or _ _ | exact zr_shl _ _) (fun c45 => ?_) (fun c45 => ?_)
      · exfalso; omega
      · refine z_aload_n 49 dX9_judge_48 rfl rfl ?_
        refine z_getf (ci := 9) 52 dX9_judge_49 rfl rfl zin_9 9 (by decide) zw_233 (by first | with_reducible assumption | with_reducible exact zup_same _ _ _) rfl ?_
        refine z_iload 54 dX9_judge_52 rfl rfl ?_
        refine z_cS2 57 dX9_judge_54 rfl kX9_at zw_640 (Nat.le_of_ble_eq_true rfl) ⟨Nat.le_refl _, Nat.le_refl _⟩ ?_
        refine c_X9_at hW'.do_ (by decide) (by omega) ?_
        rw [hO4 i (by omega)]
        refine z_istore 59 dX9_judge_57 rfl (by decide) ?_
        refine z_aload_n 60 dX9_judge_59 rfl rfl ?_
        refine z_iload 62 dX9_judge_60 rfl rfl ?_
        refine z_bipush 64 dX9_judge_62 rfl (by decide) ?_
        refine z_idiv 65 dX9_judge_64 rfl (by first | omega | exact zr_b _ | exact zr_and _ _ | exact zr_or _ _ | exact zr_shl _ _) (by first | omega | exact zr_b _ | exact zr_and _ _ | exact zr_or _ _ | exact zr_shl _ _) ?_
        refine z_iload 67 dX9_judge_65 rfl rfl ?_
        refine z_bipush 69 dX9_judge_67 rfl (by decide) ?_
        refine z_idiv 70 dX9_judge_69 rfl (by first | omega | exact zr_b _ | exact zr_and _ _ | exact zr_or _ _ | exact zr_shl _ _) (by first | omega | exact zr_b _ | exact zr_and _ _ | exact zr_or _ _ | exact zr_shl _ _) ?_
        refine z_bipush 72 dX9_judge_70 rfl (by decide) ?_
        refine z_irem 73 dX9_judge_72 rfl (by first | omega | exact zr_b _ | exact zr_and _ _ | exact zr_or _ _ | exact zr_shl _ _) (by first | omega | exact zr_b _ | exact zr_and _ _ | exact zr_or _ _ | exact zr_shl _ _) ?_
        refine z_iload 75 dX9_judge_73 rfl rfl ?_
        refine z_bipush 77 dX9_judge_75 rfl (by decide) ?_
        refine z_irem 78 dX9_judge_77 rfl (by first | omega | exact zr_b _ | exact zr_and _ _ | exact zr_or _ _ | exact zr_shl _ _) (by first | omega | exact zr_b _ | exact zr_and _ _ | exact zr_or _ _ | exact zr_shl _ _) ?_
        refine z_cV3 81 dX9_judge_78 rfl kX9_canBe zw_641 (Nat.le_of_ble_eq_true rfl) ⟨Nat.le_refl _, Nat.le_refl _⟩ (by first | with_reducible assumption | with_reducible exact zup_same _ _ _) ?_
        refine c_X9_canBe hW' hOi hM (by omega) (by omega) (by omega) (fun h3 hW3 hF3 => ?_)
        rw [h1' i hi]
        refine z_if_ne 87 84 dX9_judge_81 (by decide) rfl (by first | omega | exact zr_b _ | exact zr_and _ _ | exact zr_or _ _ | exact zr_shl _ _) (fun c81 => ?_) (fun c81 => ?_)
        · try replace c81 := zb_1 c81
          refine z_iinc 90 dX9_judge_87 rfl (by decide) rfl ?_
          refine z_goto 42 dX9_judge_90 (by decide) ?_
          exact ih h3 _ hW3 (hF.tr hF3)
        · exfalso; exact absurd c81 (by decide)
  obtain ⟨N0, M0, D0, G0, E0, P0⟩ := U
  have zo2 := hW.ob
  have zo3 := hW.nw.2.1
  have zo8 := hW.su.2.1
  refine zC.of zpl_X9 (Nat.le_of_ble_eq_true rfl) ?_
  refine z_iload_n 1 dX9_judge_0 rfl rfl ?_
  refine z_iconst 2 dX9_judge_1 rfl ?_
  refine z_icmp_lt 25 5 dX9_judge_2 (by decide) rfl (by first | omega | exact zr_b _ | exact zr_and _ _ | exact zr_or _ _ | exact zr_shl _ _) (by first | omega | exact zr_b _ | exact zr_and _ _ | exact zr_or _ _ | exact zr_shl _ _) (fun c2 => ?_) (fun c2 => ?_)
  · exfalso; omega
  · refine z_iload_n 6 dX9_judge_5 rfl rfl ?_
    refine z_iconst 7 dX9_judge_6 rfl ?_
    refine z_icmp_gt 25 10 dX9_judge_7 (by decide) rfl (by first | omega | exact zr_b _ | exact zr_and _ _ | exact zr_or _ _ | exact zr_shl _ _) (by first | omega | exact zr_b _ | exact zr_and _ _ | exact zr_or _ _ | exact zr_shl _ _) (fun c7 => ?_) (fun c7 => ?_)
    · exfalso; omega
    · refine z_lload_n 11 dX9_judge_10 rfl rfl ?_
      refine z_lconst 12 dX9_judge_11 rfl ?_
      refine z_lcmp 13 dX9_judge_12 rfl (by first | omega | exact zr_b _ | exact zr_and _ _ | exact zr_or _ _ | exact zr_shl _ _) (by first | omega | exact zr_b _ | exact zr_and _ _ | exact zr_or _ _ | exact zr_shl _ _) ?_
      refine z_if_lt 25 16 dX9_judge_13 (by decide) rfl (by first | omega | (unfold zcmp; split; omega; split <;> omega)) (fun c13 => ?_) (fun c13 => ?_)
      · exfalso; unfold zcmp at c13; split at c13; omega; split at c13; omega; next q1 q2 => simp at q1 q2; omega
      · refine z_aload_n 17 dX9_judge_16 rfl rfl ?_
        refine z_iload_n 18 dX9_judge_17 rfl rfl ?_
        refine z_lload_n 19 dX9_judge_18 rfl rfl ?_
        refine z_cV2 22 dX9_judge_19 rfl kX9_readDoings zw_634 (Nat.le_of_ble_eq_true rfl) ⟨Nat.le_refl _, Nat.le_refl _⟩ (by first | with_reducible assumption | with_reducible exact zup_same _ _ _) ?_
        refine c_X9_readDoings hW hn hr (fun h1 O1 hW1 hD1 hF1 => ?_)
        rw [zb_t hz]
        refine z_if_ne 28 25 dX9_judge_22 (by decide) rfl (by first | omega | exact zr_b _ | exact zr_and _ _ | exact zr_or _ _ | exact zr_shl _ _) (fun c22 => ?_) (fun c22 => ?_)
        · try replace c22 := zb_1 c22
          have zo2 := hW1.ob
          have zo3 := hW1.nw.2.1
          have zo8 := hW1.su.2.1
          refine z_aload_n 29 dX9_judge_28 rfl rfl ?_
          refine z_getf (ci := 9) 32 dX9_judge_29 rfl rfl zin_9 1 (by decide) zw_225 (by first | with_reducible assumption | with_reducible exact zup_same _ _ _) rfl ?_
          refine z_aload_n 33 dX9_judge_32 rfl rfl ?_
          refine z_getf (ci := 9) 36 dX9_judge_33 rfl rfl zin_9 0 (by decide) zw_224 (by first | with_reducible assumption | with_reducible exact zup_same _ _ _) rfl ?_
          refine z_cV1 39 dX9_judge_36 rfl kX6_become zw_410 (Nat.le_of_ble_eq_true rfl) ⟨Nat.le_refl _, Nat.le_refl _⟩ (by first | with_reducible assumption | with_reducible exact zup_same _ _ _) ?_
          refine w_bec hW1 (fun h2 hW2 hF2 => ?_)
          refine z_iconst 40 dX9_judge_39 rfl ?_
          refine z_istore 42 dX9_judge_40 rfl (by decide) ?_
          exact key O1 (fun i hi => by rw [hdg]; exact hD1 i hi) 0 (Nat.zero_le _) h2 _ hW2 (hF1.tr hF2)
        · exact absurd c22 (by decide)
end TOLD
