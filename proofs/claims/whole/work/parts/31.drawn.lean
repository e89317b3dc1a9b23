/-! LateLetters: drawn, fault, telling, about, person -/
section DRAWN
variable {d : Nat} {h : zH} {Q : Option zV → zH → Prop} {N M : Nat} {D G E P : Int → Int} {T U : zTD} {C : Int → Int} {l fi ct : Int} {S : Nat → zTD} {fl : Int} {Kp : Nat → zTD} {W Kt : Int → Int} {c sd : Int} {O : Int → Int}
theorem c_X9_drawDelays {v : Int} (hW : zCW h T (N, M, D, G, E, P) C l fi ct S fl Kp W Kt c sd O) (hN : N ≤ 7) (hv : 0 ≤ v ∧ v ≤ 2147483647) (hQ : ∀ h' : zH, zCW h' T (N, M, zdd D v (N + 1), G, E, P) C l fi ct S fl Kp W Kt c sd O → zMod 2 111 h h' → Q none h') : zC (d + 2) mX9_drawDelays 0 0 [vR 2, vI v] h Q := by
  have key : ∀ k : Nat, k ≤ N + 1 → ∀ h' : zH, zCW h' T (N, M, zdd D v k, G, E, P) C l fi ct S fl Kp W Kt c sd O → zMod 2 111 h h' → Z (d + 2) mX9_drawDelays zo 4 [some (vR 2), some (vI v), some (vI (zr9 v k)), some (vI k)] [] h' Q := by
    refine z_loop (N + 1) ?_ ?_
    · intro h' hW' hF
      have zo2 := hW'.ob
      have zo8 := hW'.su.2.1
      refine z_iload_n 5 dX9_drawDelays_4 rfl rfl ?_
      refine z_aload_n 6 dX9_drawDelays_5 rfl rfl ?_
      refine z_getf (ci := 9) 9 dX9_drawDelays_6 rfl rfl zin_9 1 (by decide) zw_225 (by first | with_reducible assumption | with_reducible exact zup_same _ _ _) rfl ?_
      refine z_cV0 12 dX9_drawDelays_9 rfl kX6_people zw_401 (Nat.le_of_ble_eq_true rfl) ⟨Nat.le_refl _, Nat.le_refl _⟩ (by first | with_reducible assumption | with_reducible exact zup_same _ _ _) ?_
      refine c_X6_people hW'.su ?_
      refine z_icmp_ge 40 15 dX9_drawDelays_12 (by decide) rfl (by first | omega | exact zr_b _ | exact zr_and _ _ | exact zr_or _ _ | exact zr_shl _ _) (by first | omega | exact zr_b _ | exact zr_and _ _ | exact zr_or _ _ | exact zr_shl _ _) (fun c12 => ?_) (fun c12 => ?_)
      · refine z_vret dX9_drawDelays_40 (by first | exact True.intro | exact Or.inl rfl | exact Or.inr rfl | exact zb_01 _ | assumption | (show _ ∨ _; omega)) ⟨Nat.le_refl _, Nat.le_refl _⟩ ?_
        exact hQ _ hW' hF
      · exfalso; omega
    · intro k hk ih h' hW' hF
      have hb := zr9_b hv k
      have zo2 := hW'.ob
      have zo8 := hW'.su.2.1
      refine z_iload_n 5 dX9_drawDelays_4 rfl rfl ?_
      refine z_aload_n 6 dX9_drawDelays_5 rfl rfl ?_
      refine z_getf (ci := 9) 9 dX9_drawDelays_6 rfl rfl zin_9 1 (by decide) zw_225 (by first | with_reducible assumption | with_reducible exact zup_same _ _ _) rfl ?_
      refine z_cV0 12 dX9_drawDelays_9 rfl kX6_people zw_401 (Nat.le_of_ble_eq_true rfl) ⟨Nat.le_refl _, Nat.le_refl _⟩ (by first | with_reducible assumption | with_reducible exact zup_same _ _ _) ?_
      refine c_X6_people hW'.su ?_
      refine z_icmp_ge 40 15 dX9_drawDelays_12 (by decide) rfl (by first | omega | exact zr_b _ | exact zr_and _ _ | exact zr_or _ _ | exact zr_shl _ _) (by first | omega | exact zr_b _ | exact zr_and _ _ | exact zr_or _ _ | exact zr_shl _ _) (fun c12 => ?_) (fun c12 => ?_)
      · exfalso; omega
      · refine z_aload_n 16 dX9_drawDelays_15 rfl rfl ?_
        refine z_getf (ci := 9) 19 dX9_drawDelays_16 rfl rfl zin_9 1 (by decide) zw_225 (by first | with_reducible assumption | with_reducible exact zup_same _ _ _) rfl ?_
        refine z_iload_n 20 dX9_drawDelays_19 rfl rfl ?_
        refine z_iconst 21 dX9_drawDelays_20 rfl ?_
        refine z_iload_n 22 dX9_drawDelays_21 rfl rfl ?_
        refine z_bipush 24 dX9_drawDelays_22 rfl (by decide) ?_
        refine z_irem 25 dX9_drawDelays_24 rfl (by first | omega | exact zr_b _ | exact zr_and _ _ | exact zr_or _ _ | exact zr_shl _ _) (by first | omega | exact zr_b _ | exact zr_and _ _ | exact zr_or _ _ | exact zr_shl _ _) ?_
        refine z_iadd 26 dX9_drawDelays_25 rfl ?_
        refine z_cV2 29 dX9_drawDelays_26 rfl kX6_setDelay zw_503 (Nat.le_of_ble_eq_true rfl) ⟨Nat.le_refl _, Nat.le_refl _⟩ (by first | with_reducible assumption | with_reducible exact zup_same _ _ _) ?_
        refine w_setD8 hW' (by omega) (fun h2 hW2 hF2 => ?_)
        refine z_iload_n 30 dX9_drawDelays_29 rfl rfl ?_
        refine z_bipush 32 dX9_drawDelays_30 rfl (by decide) ?_
        refine z_idiv 33 dX9_drawDelays_32 rfl (by first | omega | exact zr_b _ | exact zr_and _ _ | exact zr_or _ _ | exact zr_shl _ _) (by first | omega | exact zr_b _ | exact zr_and _ _ | exact zr_or _ _ | exact zr_shl _ _) ?_
        refine z_istore_n 34 dX9_drawDelays_33 rfl (by decide) ?_
        refine z_iinc 37 dX9_drawDelays_34 rfl (by decide) rfl ?_
        refine z_goto 4 dX9_drawDelays_37 (by decide) ?_
        exact ih h2 hW2 (hF.tr hF2)
  refine zC.of zpl_X9 (Nat.le_of_ble_eq_true rfl) ?_
  refine z_iload_n 1 dX9_drawDelays_0 rfl rfl ?_
  refine z_istore_n 2 dX9_drawDelays_1 rfl (by decide) ?_
  refine z_iconst 3 dX9_drawDelays_2 rfl ?_
  refine z_istore_n 4 dX9_drawDelays_3 rfl (by decide) ?_
  exact key 0 (Nat.zero_le _) h hW (zMod.rf _ _ _)
theorem c_X9_drawn_bad {m : Int} (hm : (-2147483648 ≤ m ∧ m ≤ 2147483647) ∧ ¬ (1 ≤ m ∧ m ≤ 40)) (hQ : Q (some (vI (-2))) h) : zC (d + 4) mX9_drawn 0 0 [vR 2, vI m] h Q := by
  refine zC.of zpl_X9 (Nat.le_of_ble_eq_true rfl) ?_
  refine z_iload_n 1 dX9_drawn_0 rfl rfl ?_
  refine z_iconst 2 dX9_drawn_1 rfl ?_
  refine z_icmp_lt 11 5 dX9_drawn_2 (by decide) rfl (by first | omega | exact zr_b _ | exact zr_and _ _ | exact zr_or _ _ | exact zr_shl _ _) (by first | omega | exact zr_b _ | exact zr_and _ _ | exact zr_or _ _ | exact zr_shl _ _) (fun c2 => ?_) (fun c2 => ?_)
  · refine z_bipush 13 dX9_drawn_11 rfl (by decide) ?_
    refine z_ret dX9_drawn_13 (by first | exact True.intro | exact Or.inl rfl | exact Or.inr rfl | exact zb_01 _ | assumption | (show _ ∨ _; omega)) ⟨Nat.le_refl _, Nat.le_refl _⟩ ?_
    exact hQ
  · refine z_iload_n 6 dX9_drawn_5 rfl rfl ?_
    refine z_bipush 8 dX9_drawn_6 rfl (by decide) ?_
    refine z_icmp_le 14 11 dX9_drawn_8 (by decide) rfl (by first | omega | exact zr_b _ | exact zr_and _ _ | exact zr_or _ _ | exact zr_shl _ _) (by first | omega | exact zr_b _ | exact zr_and _ _ | exact zr_or _ _ | exact zr_shl _ _) (fun c8 => ?_) (fun c8 => ?_)
    · exfalso; omega
    · refine z_bipush 13 dX9_drawn_11 rfl (by decide) ?_
      refine z_ret dX9_drawn_13 (by first | exact True.intro | exact Or.inl rfl | exact Or.inr rfl | exact zb_01 _ | assumption | (show _ ∨ _; omega)) ⟨Nat.le_refl _, Nat.le_refl _⟩ ?_
      exact hQ
theorem zdrn_b {B : Int} {sd : Int} (hO : zOK B N D G E P) (hM : M ≤ 3) : ∀ k : Nat, 0 ≤ zdrn G E P N M sd k ∧ zdrn G E P N M sd k ≤ 840 * k
  | 0 => by unfold zdrn; omega
  | k + 1 => by
    have ih := zdrn_b (sd := sd) hO hM k
    have := zLAST_b (zdl_ok (v := zvv (zsd sd (k + 1))) hO) (by omega) hM
    unfold zdrn; omega
theorem c_X9_drawn {m : Nat} (hW : zCW h (N, M, D, G, E, P) U C l fi ct S fl Kp W Kt c sd O) (hO : zOK 9 N D G E P) (hM : M ≤ 3) (hm : 1 ≤ m ∧ m ≤ 40) (hQ : ∀ (h' : zH) (U' : zTD), zCW h' (N, M, D, G, E, P) U' C l fi ct S fl Kp W Kt c (zsd sd m) O → zMod 2 111 h h' → Q (some (vI (zdrn G E P N M sd m))) h') : zC (d + 4) mX9_drawn 0 0 [vR 2, vI m] h Q := by
  have hN := hO.1
  have key : ∀ k : Nat, k ≤ m → ∀ (h' : zH) (D' : Int → Int), zCW h' (N, M, D, G, E, P) (N, M, D', G, E, P) C l fi ct S fl Kp W Kt c (zsd sd k) O → zMod 2 111 h h' → Z (d + 4) mX9_drawn zo 29 [some (vR 2), some (vI m), some (vI (zdrn G E P N M sd k)), some (vI k)] [] h' Q := by
    refine z_loop m ?_ ?_
    · intro h' D' hW' hF
      refine z_iload_n 30 dX9_drawn_29 rfl rfl ?_
      refine z_iload_n 31 dX9_drawn_30 rfl rfl ?_
      refine z_icmp_ge 82 34 dX9_drawn_31 (by decide) rfl (by first | omega | exact zr_b _ | exact zr_and _ _ | exact zr_or _ _ | exact zr_shl _ _) (by first | omega | exact zr_b _ | exact zr_and _ _ | exact zr_or _ _ | exact zr_shl _ _) (fun c31 => ?_) (fun c31 => ?_)
      · refine z_iload_n 83 dX9_drawn_82 rfl rfl ?_
        refine z_ret dX9_drawn_83 (by first | exact True.intro | exact Or.inl rfl | exact Or.inr rfl | exact zb_01 _ | assumption | (show _ ∨ _; omega)) ⟨Nat.le_refl _, Nat.le_refl _⟩ ?_
        exact hQ _ _ hW' hF
      · exfalso; omega
    · intro k hk ih h' D' hW' hF
      have hv := zvv_b (zsd sd (k + 1))
      have m1 : zMod 2 2 h' (zup h' 2 (zO 9 [vR 3, vR 8, vR 13, vR 16, vR 18, vR 20, vR 22, vR 95, vR 108, vR 111, vJ (zsd sd k * 6364136223846793005 + 1442695040888963407)])) := (zMod.rf _ _ h').up _ (by omega)
      have W1 := hW'.ob_set (sd' := zsd sd (k + 1)) m1 (zup_same _ _ _)
      have hOv : zOK 9 N (zdd D' (zvv (zsd sd (k + 1))) (N + 1)) G E P := by
        obtain ⟨a1, a2, a3⟩ := zdl_ok (v := zvv (zsd sd (k + 1))) hO
        refine ⟨a1, fun q x y => ?_, a3⟩
        have e := zdd_at (D := D') (v := zvv (zsd sd (k + 1))) (k := N + 1) (j := q.toNat) (by omega)
        rw [show ((q.toNat : Nat) : Int) = q by omega] at e
        rw [e]; exact a2 q x y
      have eL : zLAST (zdd D' (zvv (zsd sd (k + 1))) (N + 1)) G E P N M = zLAST (zdl (zvv (zsd sd (k + 1)))) G E P N M := zLAST_cg hOv (fun q x y => ⟨by
        have e := zdd_at (D := D') (v := zvv (zsd sd (k + 1))) (k := N + 1) (j := q.toNat) (by omega)
        rw [show ((q.toNat : Nat) : Int) = q by omega] at e
        exact e, rfl⟩) (fun i hi => ⟨rfl, rfl⟩) M
      have zo2 := hW'.ob
      refine z_iload_n 30 dX9_drawn_29 rfl rfl ?_
      refine z_iload_n 31 dX9_drawn_30 rfl rfl ?_
      refine z_icmp_ge 82 34 dX9_drawn_31 (by decide) rfl (by first | omega | exact zr_b _ | exact zr_and _ _ | exact zr_or _ _ | exact zr_shl _ _) (by first | omega | exact zr_b _ | exact zr_and _ _ | exact zr_or _ _ | exact zr_shl _ _) (fun c31 => ?_) (fun c31 => ?_)
      · exfalso; omega
      · refine z_aload_n 35 dX9_drawn_34 rfl rfl ?_
        refine z_aload_n 36 dX9_drawn_35 rfl rfl ?_
        refine z_getf (ci := 9) 39 dX9_drawn_36 rfl rfl zin_9 10 (by decide) zw_234 (by first | with_reducible assumption | with_reducible exact zup_same _ _ _) rfl ?_
        refine z_ldc2 (x := 6364136223846793005) 42 dX9_drawn_39 rfl zw_734 ?_
        refine z_lmul 43 dX9_drawn_42 rfl ?_
        refine z_ldc2 (x := 1442695040888963407) 46 dX9_drawn_43 rfl zw_735 ?_
        refine z_ladd 47 dX9_drawn_46 rfl ?_
        refine z_putf (ci := 9) 50 dX9_drawn_47 rfl rfl zin_9 tyX9_ok nmX9 10 (by decide) zw_234 rfl (fun _ => ⟨rfl, rfl⟩) (by omega) (by first | with_reducible assumption | with_reducible exact zup_same _ _ _) (Nat.le_of_ble_eq_true rfl) ?_
        change Z _ _ _ _ _ _ (zup h' 2 (zO 9 [vR 3, vR 8, vR 13, vR 16, vR 18, vR 20, vR 22, vR 95, vR 108, vR 111, vJ (zsd sd k * 6364136223846793005 + 1442695040888963407)])) _
        have zo2 := W1.ob
        refine z_aload_n 51 dX9_drawn_50 rfl rfl ?_
        refine z_aload_n 52 dX9_drawn_51 rfl rfl ?_
        refine z_getf (ci := 9) 55 dX9_drawn_52 rfl rfl zin_9 10 (by decide) zw_234 (by first | with_reducible assumption | with_reducible exact zup_same _ _ _) rfl ?_
        refine z_bipush 57 dX9_drawn_55 rfl (by decide) ?_
        refine z_lushr 58 dX9_drawn_57 rfl ?_
        refine z_l2i 59 dX9_drawn_58 rfl ?_
        refine z_cV1 62 dX9_drawn_59 rfl kX9_drawDelays zw_736 (Nat.le_of_ble_eq_true rfl) ⟨Nat.le_refl _, Nat.le_refl _⟩ (by first | with_reducible assumption | with_reducible exact zup_same _ _ _) ?_
        refine c_X9_drawDelays (v := zvv (zsd sd (k + 1))) W1 hN hv (fun h2 hW2 hF2 => ?_)
        have zo2 := hW2.ob
        have zo8 := hW2.su.2.1
        obtain ⟨K, F, hX, hK0⟩ := hW2.ti
        have zo13 := hX.2.1
        refine z_iload_n 63 dX9_drawn_62 rfl rfl ?_
        refine z_aload_n 64 dX9_drawn_63 rfl rfl ?_
        refine z_getf (ci := 9) 67 dX9_drawn_64 rfl rfl zin_9 2 (by decide) zw_226 (by first | with_reducible assumption | with_reducible exact zup_same _ _ _) rfl ?_
        refine z_aload_n 68 dX9_drawn_67 rfl rfl ?_
        refine z_getf (ci := 9) 71 dX9_drawn_68 rfl rfl zin_9 1 (by decide) zw_225 (by first | with_reducible assumption | with_reducible exact zup_same _ _ _) rfl ?_
        refine z_cV1 74 dX9_drawn_71 rfl kX8_follow zw_357 (Nat.le_of_ble_eq_true rfl) ⟨Nat.le_refl _, Nat.le_refl _⟩ (by first | with_reducible assumption | with_reducible exact zup_same _ _ _) ?_
        refine w_fol8 hW2 hOv (by omega) hM (fun h3 K3 F3 hW3 hX3 hT3 hF3 => ?_)
        rw [eL]
        refine z_iadd 75 dX9_drawn_74 rfl ?_
        refine z_istore_n 76 dX9_drawn_75 rfl (by decide) ?_
        refine z_iinc 79 dX9_drawn_76 rfl (by decide) rfl ?_
        refine z_goto 29 dX9_drawn_79 (by decide) ?_
        exact ih h3 _ hW3 (hF.tr ((m1.wd (by omega)).tr (hF2.tr hF3)))
  obtain ⟨N0, M0, D0, G0, E0, P0⟩ := U
  have zo2 := hW.ob
  have zo3 := hW.nw.2.1
  have zo8 := hW.su.2.1
  refine zC.of zpl_X9 (Nat.le_of_ble_eq_true rfl) ?_
  refine z_iload_n 1 dX9_drawn_0 rfl rfl ?_
  refine z_iconst 2 dX9_drawn_1 rfl ?_
  refine z_icmp_lt 11 5 dX9_drawn_2 (by decide) rfl (by first | omega | exact zr_b _ | exact zr_and _ _ | exact zr_or _ _ | exact zr_shl _ _) (by first | omega | exact zr_b _ | exact zr_and _ _ | exact zr_or _ _ | exact zr_shl _ _) (fun c2 => ?_) (fun c2 => ?_)
  · exfalso; omega
  · refine z_iload_n 6 dX9_drawn_5 rfl rfl ?_
    refine z_bipush 8 dX9_drawn_6 rfl (by decide) ?_
    refine z_icmp_le 14 11 dX9_drawn_8 (by decide) rfl (by first | omega | exact zr_b _ | exact zr_and _ _ | exact zr_or _ _ | exact zr_shl _ _) (by first | omega | exact zr_b _ | exact zr_and _ _ | exact zr_or _ _ | exact zr_shl _ _) (fun c8 => ?_) (fun c8 => ?_)
    · refine z_aload_n 15 dX9_drawn_14 rfl rfl ?_
      refine z_getf (ci := 9) 18 dX9_drawn_15 rfl rfl zin_9 1 (by decide) zw_225 (by first | with_reducible assumption | with_reducible exact zup_same _ _ _) rfl ?_
      refine z_aload_n 19 dX9_drawn_18 rfl rfl ?_
      refine z_getf (ci := 9) 22 dX9_drawn_19 rfl rfl zin_9 0 (by decide) zw_224 (by first | with_reducible assumption | with_reducible exact zup_same _ _ _) rfl ?_
      refine z_cV1 25 dX9_drawn_22 rfl kX6_become zw_410 (Nat.le_of_ble_eq_true rfl) ⟨Nat.le_refl _, Nat.le_refl _⟩ (by first | with_reducible assumption | with_reducible exact zup_same _ _ _) ?_
      refine w_bec hW (fun h2 hW2 hF2 => ?_)
      refine z_iconst 26 dX9_drawn_25 rfl ?_
      refine z_istore_n 27 dX9_drawn_26 rfl (by decide) ?_
      refine z_iconst 28 dX9_drawn_27 rfl ?_
      refine z_istore_n 29 dX9_drawn_28 rfl (by decide) ?_
      exact key 0 (Nat.zero_le _) h2 D hW2 hF2
    · exfalso; omega
theorem c_X9_fault_at {k l : Nat} (hW : zCW h T U C l fi ct S fl Kp W Kt c sd O) (hl : l ≤ 60) (hC : ∀ i : Int, 0 ≤ i → i < 60 → 0 ≤ C i ∧ C i ≤ 255) (hk : k < l) (h1 : ∀ j : Nat, j < k → zfits C j = true) (h2 : zfits C k = false) (hQ : Q (some (vI k)) h) : zC (d + 6) mX9_fault 0 0 [vR 2] h Q := by
  have zo2 := hW.ob
  have zo20 := hW.tx.2.1
  refine zC.of zpl_X9 (Nat.le_of_ble_eq_true rfl) ?_
  refine z_aload_n 1 dX9_fault_0 rfl rfl ?_
  refine z_getf (ci := 9) 4 dX9_fault_1 rfl rfl zin_9 5 (by decide) zw_229 (by first | with_reducible assumption | with_reducible exact zup_same _ _ _) rfl ?_
  refine z_cV0 7 dX9_fault_4 rfl kX7_firstFault zw_285 (Nat.le_of_ble_eq_true rfl) ⟨Nat.le_refl _, Nat.le_refl _⟩ (by first | with_reducible assumption | with_reducible exact zup_same _ _ _) ?_
  refine c_X7_firstFault_at hW.tx hl hC hk h1 h2 ?_
  refine z_ret dX9_fault_7 (by first | exact True.intro | exact Or.inl rfl | exact Or.inr rfl | exact zb_01 _ | assumption | (show _ ∨ _; omega)) ⟨Nat.le_refl _, Nat.le_refl _⟩ ?_
  exact hQ
theorem c_X9_fault_all {l : Nat} (hW : zCW h T U C l fi ct S fl Kp W Kt c sd O) (hl : l ≤ 60) (hC : ∀ i : Int, 0 ≤ i → i < 60 → 0 ≤ C i ∧ C i ≤ 255) (h1 : ∀ j : Nat, j < l → zfits C j = true) (hQ : Q (some (vI (if 2 < l ∧ (l : Int) = 3 + 2 * (C 2 - 48) + 3 * (C 2 - 48 - 1) then -9 else l))) h) : zC (d + 6) mX9_fault 0 0 [vR 2] h Q := by
  have zo2 := hW.ob
  have zo20 := hW.tx.2.1
  refine zC.of zpl_X9 (Nat.le_of_ble_eq_true rfl) ?_
  refine z_aload_n 1 dX9_fault_0 rfl rfl ?_
  refine z_getf (ci := 9) 4 dX9_fault_1 rfl rfl zin_9 5 (by decide) zw_229 (by first | with_reducible assumption | with_reducible exact zup_same _ _ _) rfl ?_
  refine z_cV0 7 dX9_fault_4 rfl kX7_firstFault zw_285 (Nat.le_of_ble_eq_true rfl) ⟨Nat.le_refl _, Nat.le_refl _⟩ (by first | with_reducible assumption | with_reducible exact zup_same _ _ _) ?_
  refine c_X7_firstFault_all hW.tx hl hC h1 ?_
  refine z_ret dX9_fault_7 (by first | exact True.intro | exact Or.inl rfl | exact Or.inr rfl | exact zb_01 _ | assumption | (show _ ∨ _; omega)) ⟨Nat.le_refl _, Nat.le_refl _⟩ ?_
  exact hQ
theorem c_X9_telling_at {k l : Nat} (hW : zCW h T U C l fi ct S fl Kp W Kt c sd O) (hl : l ≤ 60) (hC : ∀ i : Int, 0 ≤ i → i < 60 → 0 ≤ C i ∧ C i ≤ 255) (hk : k < l) (h1 : ∀ j : Nat, j < k → zfits C j = true) (h2 : zfits C k = false) (hQ : Q (some (vI (-3))) h) : zC (d + 6) mX9_telling 0 0 [vR 2] h Q := by
  have zo2 := hW.ob
  have zo20 := hW.tx.2.1
  refine zC.of zpl_X9 (Nat.le_of_ble_eq_true rfl) ?_
  refine z_aload_n 1 dX9_telling_0 rfl rfl ?_
  refine z_getf (ci := 9) 4 dX9_telling_1 rfl rfl zin_9 5 (by decide) zw_229 (by first | with_reducible assumption | with_reducible exact zup_same _ _ _) rfl ?_
  refine z_cV0 7 dX9_telling_4 rfl kX7_firstFault zw_285 (Nat.le_of_ble_eq_true rfl) ⟨Nat.le_refl _, Nat.le_refl _⟩ (by first | with_reducible assumption | with_reducible exact zup_same _ _ _) ?_
  refine c_X7_firstFault_at hW.tx hl hC hk h1 h2 ?_
  refine z_bipush 9 dX9_telling_7 rfl (by decide) ?_
  refine z_icmp_eq 15 12 dX9_telling_9 (by decide) rfl (by first | omega | exact zr_b _ | exact zr_and _ _ | exact zr_or _ _ | exact zr_shl _ _) (by first | omega | exact zr_b _ | exact zr_and _ _ | exact zr_or _ _ | exact zr_shl _ _) (fun c9 => ?_) (fun c9 => ?_)
  · exfalso; omega
  · refine z_bipush 14 dX9_telling_12 rfl (by decide) ?_
    refine z_ret dX9_telling_14 (by first | exact True.intro | exact Or.inl rfl | exact Or.inr rfl | exact zb_01 _ | assumption | (show _ ∨ _; omega)) ⟨Nat.le_refl _, Nat.le_refl _⟩ ?_
    exact hQ
theorem c_X9_telling_short {l : Nat} (hW : zCW h T U C l fi ct S fl Kp W Kt c sd O) (hl : l ≤ 60) (hC : ∀ i : Int, 0 ≤ i → i < 60 → 0 ≤ C i ∧ C i ≤ 255) (h1 : ∀ j : Nat, j < l → zfits C j = true) (h2 : ¬ (2 < l ∧ (l : Int) = 3 + 2 * (C 2 - 48) + 3 * (C 2 - 48 - 1))) (hQ : Q (some (vI (-3))) h) : zC (d + 6) mX9_telling 0 0 [vR 2] h Q := by
  have zo2 := hW.ob
  have zo20 := hW.tx.2.1
  refine zC.of zpl_X9 (Nat.le_of_ble_eq_true rfl) ?_
  refine z_aload_n 1 dX9_telling_0 rfl rfl ?_
  refine z_getf (ci := 9) 4 dX9_telling_1 rfl rfl zin_9 5 (by decide) zw_229 (by first | with_reducible assumption | with_reducible exact zup_same _ _ _) rfl ?_
  refine z_cV0 7 dX9_telling_4 rfl kX7_firstFault zw_285 (Nat.le_of_ble_eq_true rfl) ⟨Nat.le_refl _, Nat.le_refl _⟩ (by first | with_reducible assumption | with_reducible exact zup_same _ _ _) ?_
  refine c_X7_firstFault_all hW.tx hl hC h1 ?_
  rw [if_neg h2]
  refine z_bipush 9 dX9_telling_7 rfl (by decide) ?_
  refine z_icmp_eq 15 12 dX9_telling_9 (by decide) rfl (by first | omega | exact zr_b _ | exact zr_and _ _ | exact zr_or _ _ | exact zr_shl _ _) (by first | omega | exact zr_b _ | exact zr_and _ _ | exact zr_or _ _ | exact zr_shl _ _) (fun c9 => ?_) (fun c9 => ?_)
  · exfalso; omega
  · refine z_bipush 14 dX9_telling_12 rfl (by decide) ?_
    refine z_ret dX9_telling_14 (by first | exact True.intro | exact Or.inl rfl | exact Or.inr rfl | exact zb_01 _ | assumption | (show _ ∨ _; omega)) ⟨Nat.le_refl _, Nat.le_refl _⟩ ?_
    exact hQ
/-- what a text that is a TELLING says -/
theorem zte_at {C E P : Int → Int} {st : Int} : ∀ {k : Nat}, (∀ i j : Nat, i < k → j < i → C (st + 3 * i + 1) ≠ C (st + 3 * j + 1)) → ∀ j : Nat, j < k → (zte C st E P k).2 j = C (st + 3 * j + 1) - 48 ∧ (zte C st E P k).1 (C (st + 3 * j + 1) - 48) = C (st + 3 * j + 2) - 48
  | k + 1, hd, j, hj => by
    unfold zte
    by_cases e : j = k
    · subst e; exact ⟨zst_same _ _ _, zst_same _ _ _⟩
    · have ih := zte_at (E := E) (P := P) (k := k) (fun a b ha hb => hd a b (by omega) hb) j (by omega)
      have hne := hd k j (by omega) (by omega)
      dsimp only
      rw [zst_ne _ _ (by omega), zst_ne _ _ (by omega)]
      exact ih
theorem ztd_at {C D : Int → Int} : ∀ {k : Nat} (j : Nat), j < k → ztd C D k j = C (3 + 2 * j) - 48
  | k + 1, j, hj => by
    unfold ztd
    by_cases e : j = k
    · subst e; exact zst_same _ _ _
    · rw [zst_ne _ _ (by omega)]; exact ztd_at j (by omega)
theorem ztg_at {C G : Int → Int} : ∀ {k : Nat} (j : Nat), j < k → ztg C G k j = C (3 + 2 * j + 1) - 48
  | k + 1, j, hj => by
    unfold ztg
    by_cases e : j = k
    · subst e; exact zst_same _ _ _
    · rw [zst_ne _ _ (by omega)]; exact ztg_at j (by omega)
/-- the letters of the plan, one by one -/
theorem zfits_pl {C : Int → Int} {N : Nat} (hq : C 2 - 48 = ((N + 1 : Nat) : Int)) {j : Nat} (hj : j < N) (h1 : zfits C (3 + 2 * ((N + 1 : Nat) : Int) + 3 * j + 1) = true) (h2 : zfits C (3 + 2 * ((N + 1 : Nat) : Int) + 3 * j + 2) = true) :
    (1 ≤ C (3 + 2 * ((N + 1 : Nat) : Int) + 3 * j + 1) - 48 ∧ C (3 + 2 * ((N + 1 : Nat) : Int) + 3 * j + 1) - 48 ≤ N) ∧ zstb C (C (3 + 2 * ((N + 1 : Nat) : Int) + 3 * j + 1) - 48) (3 + 2 * ((N + 1 : Nat) : Int)) j = false ∧ (C (3 + 2 * ((N + 1 : Nat) : Int) + 3 * j + 2) - 48 = 0 ∨ zstb C (C (3 + 2 * ((N + 1 : Nat) : Int) + 3 * j + 2) - 48) (3 + 2 * ((N + 1 : Nat) : Int)) j = true) := by
  unfold zfits at h1 h2
  rw [hq] at h1 h2
  rw [if_neg (by omega), if_neg (by omega), if_neg (by omega), if_neg (by omega), if_pos (by omega), if_neg (by omega), if_pos (by omega), show ((3 + 2 * ((N + 1 : Nat) : Int) + 3 * (j : Int) + 1 - (3 + 2 * ((N + 1 : Nat) : Int))) / 3).toNat = j by omega, Bool.and_eq_true] at h1
  rw [if_neg (by omega), if_neg (by omega), if_neg (by omega), if_neg (by omega), if_pos (by omega), if_neg (by omega), if_neg (by omega), show ((3 + 2 * ((N + 1 : Nat) : Int) + 3 * (j : Int) + 2 - (3 + 2 * ((N + 1 : Nat) : Int))) / 3).toNat = j by omega, Bool.or_eq_true] at h2
  have a := of_decide_eq_true h1.1
  refine ⟨by omega, by simpa using h1.2, ?_⟩
  rcases h2 with q | q
  · exact Or.inl (of_decide_eq_true q)
  · exact Or.inr q
theorem zfits_hd {C : Int → Int} {N : Nat} (hq : C 2 - 48 = ((N + 1 : Nat) : Int)) {p : Nat} (hp : p ≤ N) (h1 : zfits C (3 + 2 * p) = true) (h2 : zfits C (3 + 2 * p + 1) = true) : (1 ≤ C (3 + 2 * p) - 48 ∧ C (3 + 2 * p) - 48 ≤ 9) ∧ (1 ≤ C (3 + 2 * p + 1) - 48 ∧ C (3 + 2 * p + 1) - 48 ≤ 5) := by
  unfold zfits at h1 h2
  rw [hq] at h1 h2
  rw [if_neg (by omega), if_neg (by omega), if_neg (by omega), if_pos (by omega), if_pos (by omega)] at h1
  rw [if_neg (by omega), if_neg (by omega), if_neg (by omega), if_pos (by omega), if_neg (by omega)] at h2
  exact ⟨of_decide_eq_true h1, of_decide_eq_true h2⟩
theorem zparse_ok {C D G E P : Int → Int} {N : Nat} (hN : N ≤ 7) (hq : C 2 - 48 = ((N + 1 : Nat) : Int)) (hf : ∀ j : Nat, (j : Int) < 3 + 2 * ((N + 1 : Nat) : Int) + 3 * N → zfits C j = true) :
    zOK 9 N (ztd C D (N + 1)) (ztg C G (N + 1)) (zte C (3 + 2 * ((N + 1 : Nat) : Int)) E P N).1 (zte C (3 + 2 * ((N + 1 : Nat) : Int)) E P N).2 := by
  have hpl : ∀ j : Nat, j < N → _ := fun j hj => zfits_pl hq hj (by have := hf (3 + 2 * (N + 1) + 3 * j + 1) (by omega); rw [show (((3 + 2 * (N + 1) + 3 * j + 1 : Nat)) : Int) = 3 + 2 * ((N + 1 : Nat) : Int) + 3 * j + 1 by omega] at this; exact this) (by have := hf (3 + 2 * (N + 1) + 3 * j + 2) (by omega); rw [show (((3 + 2 * (N + 1) + 3 * j + 2 : Nat)) : Int) = 3 + 2 * ((N + 1 : Nat) : Int) + 3 * j + 2 by omega] at this; exact this)
  have hdis : ∀ i j : Nat, i < N → j < i → C (3 + 2 * ((N + 1 : Nat) : Int) + 3 * i + 1) ≠ C (3 + 2 * ((N + 1 : Nat) : Int) + 3 * j + 1) := fun i j hi hj e => by
    have := zstb_f (hpl i hi).2.1 j hj
    rw [show (3 + 2 * ((N + 1 : Nat) : Int) + 1 + 3 * (j : Int)) = 3 + 2 * ((N + 1 : Nat) : Int) + 3 * j + 1 by omega] at this
    omega
  have hat := fun j hj => zte_at (E := E) (P := P) (k := N) hdis j hj
  refine ⟨hN, fun p a b => ?_, fun j hj => ?_, fun i j hi hj e => ?_, fun i hi => ?_⟩
  · have e1 := ztd_at (C := C) (D := D) (k := N + 1) p.toNat (by omega)
    have e2 := ztg_at (C := C) (G := G) (k := N + 1) p.toNat (by omega)
    have hh := zfits_hd hq (p := p.toNat) (by omega) (by have := hf (3 + 2 * p.toNat) (by omega); rw [show (((3 + 2 * p.toNat : Nat)) : Int) = 3 + 2 * ((p.toNat : Nat) : Int) by omega] at this; exact this) (by have := hf (3 + 2 * p.toNat + 1) (by omega); rw [show (((3 + 2 * p.toNat + 1 : Nat)) : Int) = 3 + 2 * ((p.toNat : Nat) : Int) + 1 by omega] at this; exact this)
    rw [show ((p.toNat : Nat) : Int) = p by omega] at e1 e2 hh
    rw [e1, e2]; omega
  · rw [(hat j hj).1]; have := (hpl j hj).1; omega
  · rw [(hat i hi).1, (hat j hj).1] at e
    rcases Nat.lt_trichotomy i j with g | g | g
    · exact absurd (by omega) (hdis j i hj g)
    · exact g
    · exact absurd (by omega) (hdis i j hi g)
  · rw [(hat i hi).1, (hat i hi).2]
    rcases (hpl i hi).2.2 with q | q
    · exact Or.inl q
    · obtain ⟨j, hj, e, -⟩ := zstb_t q
      refine Or.inr ⟨j, hj, ?_⟩
      rw [(hat j (by omega)).1, ← e]
      congr 2
      omega
/-- the TELLING that a text says -/
def zptd (C : Int → Int) (T : zTD) (N : Nat) : zTD := (N, (C 1 - 48).toNat, ztd C T.2.2.1 (N + 1), ztg C T.2.2.2.1 (N + 1), (zte C (3 + 2 * ((N + 1 : Nat) : Int)) T.2.2.2.2.1 T.2.2.2.2.2 N).1, (zte C (3 + 2 * ((N + 1 : Nat) : Int)) T.2.2.2.2.1 T.2.2.2.2.2 N).2)
theorem c_X9_telling {l : Nat} (hW : zCW h T U C l fi ct S fl Kp W Kt c sd O) (hl : l ≤ 60) (hC : ∀ i : Int, 0 ≤ i → i < 60 → 0 ≤ C i ∧ C i ≤ 255) (h1 : ∀ j : Nat, j < l → zfits C j = true) (h2 : 2 < l ∧ (l : Int) = 3 + 2 * (C 2 - 48) + 3 * (C 2 - 48 - 1)) {N : Nat} (hq : C 2 - 48 = ((N + 1 : Nat) : Int)) (hQ : ∀ h' : zH, zCW h' (zptd C T N) U C l fi 0 S 0 Kp W Kt c sd O → zMod 2 111 h h' → Q (some (vI (zLAST (zptd C T N).2.2.1 (zptd C T N).2.2.2.1 (zptd C T N).2.2.2.2.1 (zptd C T N).2.2.2.2.2 N (C 1 - 48).toNat))) h') : zC (d + 6) mX9_telling 0 0 [vR 2] h Q := by
  obtain ⟨N0, M0, D0, G0, E0, P0⟩ := T
  have hq8 := zfits_q (h1 2 (by omega))
  have hm := h1 1 (by omega)
  have hm3 : 1 ≤ C 1 - 48 ∧ C 1 - 48 ≤ 3 := by unfold zfits at hm; simpa using hm
  have hok := zparse_ok (D := D0) (G := G0) (E := E0) (P := P0) (show N ≤ 7 by omega) hq (fun j hj => h1 j (by omega))
  have hem : (((C 1 - 48).toNat : Nat) : Int) = C 1 - 48 := by omega
  have zo2 := hW.ob
  have zo3 := hW.nw.2.1
  have zo20 := hW.tx.2.1
  refine zC.of zpl_X9 (Nat.le_of_ble_eq_true rfl) ?_
  refine z_aload_n 1 dX9_telling_0 rfl rfl ?_
  refine z_getf (ci := 9) 4 dX9_telling_1 rfl rfl zin_9 5 (by decide) zw_229 (by first | with_reducible assumption | with_reducible exact zup_same _ _ _) rfl ?_
  refine z_cV0 7 dX9_telling_4 rfl kX7_firstFault zw_285 (Nat.le_of_ble_eq_true rfl) ⟨Nat.le_refl _, Nat.le_refl _⟩ (by first | with_reducible assumption | with_reducible exact zup_same _ _ _) ?_
  refine c_X7_firstFault_all hW.tx hl hC h1 ?_
  rw [if_pos h2]
  refine z_bipush 9 dX9_telling_7 rfl (by decide) ?_
  refine z_icmp_eq 15 12 dX9_telling_9 (by decide) rfl (by first | omega | exact zr_b _ | exact zr_and _ _ | exact zr_or _ _ | exact zr_shl _ _) (by first | omega | exact zr_b _ | exact zr_and _ _ | exact zr_or _ _ | exact zr_shl _ _) (fun c9 => ?_) (fun c9 => ?_)
  · refine z_aload_n 16 dX9_telling_15 rfl rfl ?_
    refine z_getf (ci := 9) 19 dX9_telling_16 rfl rfl zin_9 5 (by decide) zw_229 (by first | with_reducible assumption | with_reducible exact zup_same _ _ _) rfl ?_
    refine z_aload_n 20 dX9_telling_19 rfl rfl ?_
    refine z_getf (ci := 9) 23 dX9_telling_20 rfl rfl zin_9 0 (by decide) zw_224 (by first | with_reducible assumption | with_reducible exact zup_same _ _ _) rfl ?_
    refine z_cV1 26 dX9_telling_23 rfl kX7_tellInto zw_328 (Nat.le_of_ble_eq_true rfl) ⟨Nat.le_refl _, Nat.le_refl _⟩ (by first | with_reducible assumption | with_reducible exact zup_same _ _ _) ?_
    refine c_X7_tellInto hW.tx hW.nw (by omega) hq (by omega) (by omega) (fun j hj => ?_) (fun h' a b => ?_)
    · have := (zfits_pl hq (show j < N by omega) (by have := h1 (3 + 2 * (N + 1) + 3 * j + 1) (by omega); rw [show (((3 + 2 * (N + 1) + 3 * j + 1 : Nat)) : Int) = 3 + 2 * ((N + 1 : Nat) : Int) + 3 * j + 1 by omega] at this; exact this) (by have := h1 (3 + 2 * (N + 1) + 3 * j + 2) (by omega); rw [show (((3 + 2 * (N + 1) + 3 * j + 2 : Nat)) : Int) = 3 + 2 * ((N + 1 : Nat) : Int) + 3 * j + 2 by omega] at this; exact this)).1
      omega
    rw [← hem] at a
    have W1 := hW.nw_set (T' := zptd C (N0, M0, D0, G0, E0, P0) N) b a
    have zo2 := W1.ob
    have zo22 := W1.ac
    refine z_aload_n 27 dX9_telling_26 rfl rfl ?_
    refine z_getf (ci := 9) 30 dX9_telling_27 rfl rfl zin_9 6 (by decide) zw_230 (by first | with_reducible assumption | with_reducible exact zup_same _ _ _) rfl ?_
    refine z_cV0 33 dX9_telling_30 rfl kX0_forgetAll zw_349 (Nat.le_of_ble_eq_true rfl) ⟨Nat.le_refl _, Nat.le_refl _⟩ (by first | with_reducible assumption | with_reducible exact zup_same _ _ _) ?_
    refine c_X0_forgetAll (by decide) W1.ac ?_
    have m2 : zMod 22 22 h' (zup h' 22 (zAO 22 fi 0)) := (zMod.rf _ _ h').up _ (by omega)
    have W2 := W1.ac_set m2 (zup_same _ _ _)
    have zo2 := W2.ob
    have zo95 := W2.sl
    refine z_aload_n 34 dX9_telling_33 rfl rfl ?_
    refine z_getf (ci := 9) 37 dX9_telling_34 rfl rfl zin_9 7 (by decide) zw_231 (by first | with_reducible assumption | with_reducible exact zup_same _ _ _) rfl ?_
    refine z_cV0 40 dX9_telling_37 rfl kX4_forgetAll zw_353 (Nat.le_of_ble_eq_true rfl) ⟨Nat.le_refl _, Nat.le_refl _⟩ (by first | with_reducible assumption | with_reducible exact zup_same _ _ _) ?_
    refine c_X4_forgetAll (by decide) W2.sl ?_
    have m3 : zMod 95 95 (zup h' 22 (zAO 22 fi 0)) (zup (zup h' 22 (zAO 22 fi 0)) 95 (zSO 95 0)) := (zMod.rf _ _ _).up _ (by omega)
    have W3 := W2.sl_set m3 (zup_same _ _ _)
    have zo2 := W3.ob
    have zo3 := W3.nw.2.1
    obtain ⟨K, F, hX, hK0⟩ := W3.ti
    have zo13 := hX.2.1
    refine z_aload_n 41 dX9_telling_40 rfl rfl ?_
    refine z_getf (ci := 9) 44 dX9_telling_41 rfl rfl zin_9 2 (by decide) zw_226 (by first | with_reducible assumption | with_reducible exact zup_same _ _ _) rfl ?_
    refine z_aload_n 45 dX9_telling_44 rfl rfl ?_
    refine z_getf (ci := 9) 48 dX9_telling_45 rfl rfl zin_9 0 (by decide) zw_224 (by first | with_reducible assumption | with_reducible exact zup_same _ _ _) rfl ?_
    refine z_cV1 51 dX9_telling_48 rfl kX8_follow zw_357 (Nat.le_of_ble_eq_true rfl) ⟨Nat.le_refl _, Nat.le_refl _⟩ (by first | with_reducible assumption | with_reducible exact zup_same _ _ _) ?_
    refine w_fol3 W3 hok (by omega) (fun h4 K4 F4 hW4 hX4 hT4 hF4 => ?_)
    refine z_ret dX9_telling_51 (by first | exact True.intro | exact Or.inl rfl | exact Or.inr rfl | exact zb_01 _ | assumption | (show _ ∨ _; omega)) ⟨Nat.le_refl _, Nat.le_refl _⟩ ?_
    exact hQ _ hW4 ((b.wd (by omega)).tr ((m2.wd (by omega)).tr ((m3.wd (by omega)).tr hF4)))
  · exact absurd rfl c9
end DRAWN
