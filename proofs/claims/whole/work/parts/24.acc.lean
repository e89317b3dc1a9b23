/-! LateLetters: what is told of a TELLING -/
theorem zst_self (f : Int → Int) (i : Int) : zst f i (f i) = f := by
  funext j; unfold zst; split
  · next e => rw [e]
  · rfl
theorem zst_zst (f : Int → Int) (i x y : Int) : zst (zst f i x) i y = zst f i y := by funext j; unfold zst; split <;> rfl
section ACC
variable {d : Nat} {h : zH} {Q : Option zV → zH → Prop} {N M : Nat} {D G E P : Int → Int} {T U : zTD} {C : Int → Int} {l fi ct : Int} {S : Nat → zTD} {fl : Int} {Kp : Nat → zTD} {W Kt : Int → Int} {c sd : Int} {O : Int → Int}
/-- times.follow(now), times.follow(supposed), supposed.become(now) in the world -/
theorem w_fol3 (hW : zCW h (N, M, D, G, E, P) U C l fi ct S fl Kp W Kt c sd O) (hO : zOK 9 N D G E P) (hM : M ≤ 3)
    (hQ : ∀ (h' : zH) (K' F' : Int → Int), zCW h' (N, M, D, G, E, P) U C l fi ct S fl Kp W Kt c sd O → zTim h' 13 K' F' → (∀ (p : Int) (k : Nat), 0 ≤ p → p ≤ N → k < M → K' (k * 8 + p) = zTK D G E P N M p k) → zMod 2 111 h h' → Q (some (vI (zLAST D G E P N M))) h') : zC (d + 3) mX8_follow 0 0 [vR 13, vR 3] h Q := by
  obtain ⟨K, F, hX, hK0⟩ := hW.ti
  refine c_follow hX hK0 hW.nw hO (by omega) hM (by omega) (fun h' K' F' a b e f => ?_)
  exact hQ h' K' F' (hW.ti_set (f.wd (by omega)) ⟨K', F', a, b⟩) a e (f.wd (by omega))
theorem w_fol8 {B : Int} (hW : zCW h T (N, M, D, G, E, P) C l fi ct S fl Kp W Kt c sd O) (hO : zOK B N D G E P) (hB : B ≤ 40) (hM : M ≤ 3)
    (hQ : ∀ (h' : zH) (K' F' : Int → Int), zCW h' T (N, M, D, G, E, P) C l fi ct S fl Kp W Kt c sd O → zTim h' 13 K' F' → (∀ (p : Int) (k : Nat), 0 ≤ p → p ≤ N → k < M → K' (k * 8 + p) = zTK D G E P N M p k) → zMod 2 111 h h' → Q (some (vI (zLAST D G E P N M))) h') : zC (d + 3) mX8_follow 0 0 [vR 13, vR 8] h Q := by
  obtain ⟨K, F, hX, hK0⟩ := hW.ti
  refine c_follow hX hK0 hW.su hO hB hM (by omega) (fun h' K' F' a b e f => ?_)
  exact hQ h' K' F' (hW.ti_set (f.wd (by omega)) ⟨K', F', a, b⟩) a e (f.wd (by omega))
theorem w_bec (hW : zCW h T U C l fi ct S fl Kp W Kt c sd O) (hQ : ∀ h' : zH, zCW h' T T C l fi ct S fl Kp W Kt c sd O → zMod 2 111 h h' → Q none h') : zC (d + 1) mX6_become 0 0 [vR 8, vR 3] h Q := by
  obtain ⟨N, M, D, G, E, P⟩ := T
  obtain ⟨N', M', D', G', E', P'⟩ := U
  refine c_X6_become hW.su hW.nw (by omega) (fun h' a b => ?_)
  exact hQ h' (hW.su_set b a) (b.wd (by omega))
theorem w_setD8 {p v : Int} (hW : zCW h T (N, M, D, G, E, P) C l fi ct S fl Kp W Kt c sd O) (hp : 0 ≤ p ∧ p < 8) (hQ : ∀ h' : zH, zCW h' T (N, M, zst D p v, G, E, P) C l fi ct S fl Kp W Kt c sd O → zMod 2 111 h h' → Q none h') : zC (d + 1) mX6_setDelay 0 0 [vR 8, vI p, vI v] h Q := by
  refine c_X6_setDelay hW.su hp ?_
  have hM : zMod 8 12 h (zup h (8 + 1) (zI 8 (zst D p v))) := (zMod.rf _ _ h).up _ (by omega)
  exact hQ _ (hW.su_set hM (hW.su.dl (zst D p v))) (hM.wd (by omega))
theorem c_X9_write_bad {x : Int} (hx : (-2147483648 ≤ x ∧ x ≤ 2147483647) ∧ (x < 0 ∨ 255 < x)) (hQ : Q (some (vI (-2))) h) : zC (d + 2) mX9_write 0 0 [vR 2, vI x] h Q := by
  refine zC.of zpl_X9 (Nat.le_of_ble_eq_true rfl) ?_
  refine z_iload_n 1 dX9_write_0 rfl rfl ?_
  refine z_if_lt 11 4 dX9_write_1 (by decide) rfl (by first | omega | exact zr_b _ | exact zr_and _ _ | exact zr_or _ _ | exact zr_shl _ _) (fun c1 => ?_) (fun c1 => ?_)
  · refine z_bipush 13 dX9_write_11 rfl (by decide) ?_
    refine z_ret dX9_write_13 (by first | exact True.intro | exact Or.inl rfl | exact Or.inr rfl | exact zb_01 _ | assumption | (show _ ∨ _; omega)) ⟨Nat.le_refl _, Nat.le_refl _⟩ ?_
    exact hQ
  · refine z_iload_n 5 dX9_write_4 rfl rfl ?_
    refine z_sipush 8 dX9_write_5 rfl (by decide) ?_
    refine z_icmp_le 14 11 dX9_write_8 (by decide) rfl (by first | omega | exact zr_b _ | exact zr_and _ _ | exact zr_or _ _ | exact zr_shl _ _) (by first | omega | exact zr_b _ | exact zr_and _ _ | exact zr_or _ _ | exact zr_shl _ _) (fun c8 => ?_) (fun c8 => ?_)
    · exfalso; omega
    · refine z_bipush 13 dX9_write_11 rfl (by decide) ?_
      refine z_ret dX9_write_13 (by first | exact True.intro | exact Or.inl rfl | exact Or.inr rfl | exact zb_01 _ | assumption | (show _ ∨ _; omega)) ⟨Nat.le_refl _, Nat.le_refl _⟩ ?_
      exact hQ
theorem c_X9_write_full {x : Int} (hW : zCW h T U C 60 fi ct S fl Kp W Kt c sd O) (hx : 0 ≤ x ∧ x ≤ 255) (hQ : Q (some (vI (-4))) h) : zC (d + 2) mX9_write 0 0 [vR 2, vI x] h Q := by
  have zo2 := hW.ob
  have zo20 := hW.tx.2.1
  refine zC.of zpl_X9 (Nat.le_of_ble_eq_true rfl) ?_
  refine z_iload_n 1 dX9_write_0 rfl rfl ?_
  refine z_if_lt 11 4 dX9_write_1 (by decide) rfl (by first | omega | exact zr_b _ | exact zr_and _ _ | exact zr_or _ _ | exact zr_shl _ _) (fun c1 => ?_) (fun c1 => ?_)
  · exfalso; omega
  · refine z_iload_n 5 dX9_write_4 rfl rfl ?_
    refine z_sipush 8 dX9_write_5 rfl (by decide) ?_
    refine z_icmp_le 14 11 dX9_write_8 (by decide) rfl (by first | omega | exact zr_b _ | exact zr_and _ _ | exact zr_or _ _ | exact zr_shl _ _) (by first | omega | exact zr_b _ | exact zr_and _ _ | exact zr_or _ _ | exact zr_shl _ _) (fun c8 => ?_) (fun c8 => ?_)
    · refine z_aload_n 15 dX9_write_14 rfl rfl ?_
      refine z_getf (ci := 9) 18 dX9_write_15 rfl rfl zin_9 5 (by decide) zw_229 (by first | with_reducible assumption | with_reducible exact zup_same _ _ _) rfl ?_
      refine z_iload_n 19 dX9_write_18 rfl rfl ?_
      refine z_cV1 22 dX9_write_19 rfl kX7_add zw_262 (Nat.le_of_ble_eq_true rfl) ⟨Nat.le_refl _, Nat.le_refl _⟩ (by first | with_reducible assumption | with_reducible exact zup_same _ _ _) ?_
      refine c_X7_add_no hW.tx (by omega) ?_
      refine z_if_eq 35 25 dX9_write_22 (by decide) rfl (by first | omega | exact zr_b _ | exact zr_and _ _ | exact zr_or _ _ | exact zr_shl _ _) (fun c22 => ?_) (fun c22 => ?_)
      · try replace c22 := zb_0 c22
        refine z_bipush 37 dX9_write_35 rfl (by decide) ?_
        refine z_ret dX9_write_37 (by first | exact True.intro | exact Or.inl rfl | exact Or.inr rfl | exact zb_01 _ | assumption | (show _ ∨ _; omega)) ⟨Nat.le_refl _, Nat.le_refl _⟩ ?_
        exact hQ
      · exact absurd rfl c22
    · exfalso; omega
theorem c_X9_write {x : Int} (hW : zCW h T U C l fi ct S fl Kp W Kt c sd O) (hl : 0 ≤ l ∧ l < 60) (hx : 0 ≤ x ∧ x ≤ 255) (hQ : ∀ h' : zH, zCW h' T U (zst C l x) (l + 1) fi ct S fl Kp W Kt c sd O → zMod 2 111 h h' → Q (some (vI (l + 1))) h') : zC (d + 2) mX9_write 0 0 [vR 2, vI x] h Q := by
  have zo2 := hW.ob
  have zo20 := hW.tx.2.1
  have hM : zMod 20 21 h (zup (zup h (20 + 1) (zI 60 (zst C l x))) 20 (zO 7 [vR (20 + 1), vI (l + 1)])) := ((zMod.rf _ _ h).up _ (by omega)).up _ (by omega)
  have hW' := hW.tx_set hM (show zTxt _ 20 (zst C l x) (l + 1) from ⟨by decide, zup_same _ _ _, by rw [zup_ne _ _ (by decide), zup_same]⟩)
  refine zC.of zpl_X9 (Nat.le_of_ble_eq_true rfl) ?_
  refine z_iload_n 1 dX9_write_0 rfl rfl ?_
  refine z_if_lt 11 4 dX9_write_1 (by decide) rfl (by first | omega | exact zr_b _ | exact zr_and _ _ | exact zr_or _ _ | exact zr_shl _ _) (fun c1 => ?_) (fun c1 => ?_)
  · exfalso; omega
  · refine z_iload_n 5 dX9_write_4 rfl rfl ?_
    refine z_sipush 8 dX9_write_5 rfl (by decide) ?_
    refine z_icmp_le 14 11 dX9_write_8 (by decide) rfl (by first | omega | exact zr_b _ | exact zr_and _ _ | exact zr_or _ _ | exact zr_shl _ _) (by first | omega | exact zr_b _ | exact zr_and _ _ | exact zr_or _ _ | exact zr_shl _ _) (fun c8 => ?_) (fun c8 => ?_)
    · refine z_aload_n 15 dX9_write_14 rfl rfl ?_
      refine z_getf (ci := 9) 18 dX9_write_15 rfl rfl zin_9 5 (by decide) zw_229 (by first | with_reducible assumption | with_reducible exact zup_same _ _ _) rfl ?_
      refine z_iload_n 19 dX9_write_18 rfl rfl ?_
      refine z_cV1 22 dX9_write_19 rfl kX7_add zw_262 (Nat.le_of_ble_eq_true rfl) ⟨Nat.le_refl _, Nat.le_refl _⟩ (by first | with_reducible assumption | with_reducible exact zup_same _ _ _) ?_
      refine c_X7_add hW.tx hl ?_
      have zo2 := hW'.ob
      have zo20 := hW'.tx.2.1
      refine z_if_eq 35 25 dX9_write_22 (by decide) rfl (by first | omega | exact zr_b _ | exact zr_and _ _ | exact zr_or _ _ | exact zr_shl _ _) (fun c22 => ?_) (fun c22 => ?_)
      · exfalso; omega
      · try replace c22 := zb_1 c22
        refine z_aload_n 26 dX9_write_25 rfl rfl ?_
        refine z_getf (ci := 9) 29 dX9_write_26 rfl rfl zin_9 5 (by decide) zw_229 (by first | with_reducible assumption | with_reducible exact zup_same _ _ _) rfl ?_
        refine z_cV0 32 dX9_write_29 rfl kX7_length zw_269 (Nat.le_of_ble_eq_true rfl) ⟨Nat.le_refl _, Nat.le_refl _⟩ (by first | with_reducible assumption | with_reducible exact zup_same _ _ _) ?_
        refine c_X7_length hW'.tx ?_
        refine z_goto 37 dX9_write_32 (by decide) ?_
        refine z_ret dX9_write_37 (by first | exact True.intro | exact Or.inl rfl | exact Or.inr rfl | exact zb_01 _ | assumption | (show _ ∨ _; omega)) ⟨Nat.le_refl _, Nat.le_refl _⟩ ?_
        exact hQ _ hW' (hM.wd (by omega))
    · exfalso; omega
theorem c_X9_wipe (hW : zCW h T U C l fi ct S fl Kp W Kt c sd O) (hQ : ∀ h' : zH, zCW h' T U C 0 fi ct S fl Kp W Kt c sd O → zMod 2 111 h h' → Q (some (vI l)) h') : zC (d + 1) mX9_wipe 0 0 [vR 2] h Q := by
  have zo2 := hW.ob
  have zo20 := hW.tx.2.1
  have hM : zMod 20 21 h (zup h 20 (zO 7 [vR (20 + 1), vI 0])) := (zMod.rf _ _ h).up _ (by omega)
  have hW' := hW.tx_set hM (show zTxt _ 20 C 0 from ⟨by decide, zup_same _ _ _, by rw [zup_ne _ _ (by decide)]; exact hW.tx.2.2⟩)
  refine zC.of zpl_X9 (Nat.le_of_ble_eq_true rfl) ?_
  refine z_aload_n 1 dX9_wipe_0 rfl rfl ?_
  refine z_getf (ci := 9) 4 dX9_wipe_1 rfl rfl zin_9 5 (by decide) zw_229 (by first | with_reducible assumption | with_reducible exact zup_same _ _ _) rfl ?_
  refine z_cV0 7 dX9_wipe_4 rfl kX7_length zw_269 (Nat.le_of_ble_eq_true rfl) ⟨Nat.le_refl _, Nat.le_refl _⟩ (by first | with_reducible assumption | with_reducible exact zup_same _ _ _) ?_
  refine c_X7_length hW.tx ?_
  refine z_istore_n 8 dX9_wipe_7 rfl (by decide) ?_
  refine z_aload_n 9 dX9_wipe_8 rfl rfl ?_
  refine z_getf (ci := 9) 12 dX9_wipe_9 rfl rfl zin_9 5 (by decide) zw_229 (by first | with_reducible assumption | with_reducible exact zup_same _ _ _) rfl ?_
  refine z_cV0 15 dX9_wipe_12 rfl kX7_clear zw_277 (Nat.le_of_ble_eq_true rfl) ⟨Nat.le_refl _, Nat.le_refl _⟩ (by first | with_reducible assumption | with_reducible exact zup_same _ _ _) ?_
  refine c_X7_clear hW.tx ?_
  refine z_iload_n 16 dX9_wipe_15 rfl rfl ?_
  refine z_ret dX9_wipe_16 (by first | exact True.intro | exact Or.inl rfl | exact Or.inr rfl | exact zb_01 _ | assumption | (show _ ∨ _; omega)) ⟨Nat.le_refl _, Nat.le_refl _⟩ ?_
  exact hQ _ hW' (hM.wd (by omega))
theorem c_X9_plan_no {i : Int} (hW : zCW h (N, M, D, G, E, P) U C l fi ct S fl Kp W Kt c sd O) (hN : N ≤ 7) (hi : (-2147483648 ≤ i ∧ i ≤ 2147483647) ∧ ¬ (0 ≤ i ∧ i < N)) (hQ : Q (some (vI (-1))) h) : zC (d + 2) mX9_plan 0 0 [vR 2, vI i] h Q := by
  have zo2 := hW.ob
  have zo3 := hW.nw.2.1
  refine zC.of zpl_X9 (Nat.le_of_ble_eq_true rfl) ?_
  refine z_aload_n 1 dX9_plan_0 rfl rfl ?_
  refine z_getf (ci := 9) 4 dX9_plan_1 rfl rfl zin_9 0 (by decide) zw_224 (by first | with_reducible assumption | with_reducible exact zup_same _ _ _) rfl ?_
  refine z_iload_n 5 dX9_plan_4 rfl rfl ?_
  refine z_cV1 8 dX9_plan_5 rfl kX6_hasPlace zw_513 (Nat.le_of_ble_eq_true rfl) ⟨Nat.le_refl _, Nat.le_refl _⟩ (by first | with_reducible assumption | with_reducible exact zup_same _ _ _) ?_
  refine c_X6_hasPlace hW.nw hi.1 (by omega) ?_
  refine z_if_eq 22 11 dX9_plan_8 (by decide) rfl (by first | omega | exact zr_b _ | exact zr_and _ _ | exact zr_or _ _ | exact zr_shl _ _) (fun c8 => ?_) (fun c8 => ?_)
  · try replace c8 := zb_0 c8
    refine z_iconst 23 dX9_plan_22 rfl ?_
    refine z_ret dX9_plan_23 (by first | exact True.intro | exact Or.inl rfl | exact Or.inr rfl | exact zb_01 _ | assumption | (show _ ∨ _; omega)) ⟨Nat.le_refl _, Nat.le_refl _⟩ ?_
    exact hQ
  · exact absurd (zb_1 c8) hi.2
theorem c_X9_plan {i : Int} (hW : zCW h (N, M, D, G, E, P) U C l fi ct S fl Kp W Kt c sd O) (hN : N ≤ 7) (hi : 0 ≤ i ∧ i < N) (hQ : Q (some (vI (P i))) h) : zC (d + 2) mX9_plan 0 0 [vR 2, vI i] h Q := by
  have zo2 := hW.ob
  have zo3 := hW.nw.2.1
  refine zC.of zpl_X9 (Nat.le_of_ble_eq_true rfl) ?_
  refine z_aload_n 1 dX9_plan_0 rfl rfl ?_
  refine z_getf (ci := 9) 4 dX9_plan_1 rfl rfl zin_9 0 (by decide) zw_224 (by first | with_reducible assumption | with_reducible exact zup_same _ _ _) rfl ?_
  refine z_iload_n 5 dX9_plan_4 rfl rfl ?_
  refine z_cV1 8 dX9_plan_5 rfl kX6_hasPlace zw_513 (Nat.le_of_ble_eq_true rfl) ⟨Nat.le_refl _, Nat.le_refl _⟩ (by first | with_reducible assumption | with_reducible exact zup_same _ _ _) ?_
  refine c_X6_hasPlace hW.nw (by omega) (by omega) ?_
  refine z_if_eq 22 11 dX9_plan_8 (by decide) rfl (by first | omega | exact zr_b _ | exact zr_and _ _ | exact zr_or _ _ | exact zr_shl _ _) (fun c8 => ?_) (fun c8 => ?_)
  · exact absurd hi (zb_0 c8)
  · try replace c8 := zb_1 c8
    refine z_aload_n 12 dX9_plan_11 rfl rfl ?_
    refine z_getf (ci := 9) 15 dX9_plan_12 rfl rfl zin_9 0 (by decide) zw_224 (by first | with_reducible assumption | with_reducible exact zup_same _ _ _) rfl ?_
    refine z_iload_n 16 dX9_plan_15 rfl rfl ?_
    refine z_cV1 19 dX9_plan_16 rfl kX6_personAt zw_517 (Nat.le_of_ble_eq_true rfl) ⟨Nat.le_refl _, Nat.le_refl _⟩ (by first | with_reducible assumption | with_reducible exact zup_same _ _ _) ?_
    refine c_X6_personAt hW.nw (by omega) ?_
    refine z_goto 23 dX9_plan_19 (by decide) ?_
    refine z_ret dX9_plan_23 (by first | exact True.intro | exact Or.inl rfl | exact Or.inr rfl | exact zb_01 _ | assumption | (show _ ∨ _; omega)) ⟨Nat.le_refl _, Nat.le_refl _⟩ ?_
    exact hQ
theorem c_X9_knows_no {p k : Int} (hW : zCW h (N, M, D, G, E, P) U C l fi ct S fl Kp W Kt c sd O) (hN : N ≤ 7) (hM : M ≤ 3) (hp : (-2147483648 ≤ p ∧ p ≤ 2147483647) ∧ (-2147483648 ≤ k ∧ k ≤ 2147483647)) (hn : ¬ ((0 ≤ p ∧ p < N + 1) ∧ (0 ≤ k ∧ k < M))) (hQ : Q (some (vI (-1))) h) : zC (d + 4) mX9_knows 0 0 [vR 2, vI p, vI k] h Q := by
  have zo2 := hW.ob
  have zo3 := hW.nw.2.1
  refine zC.of zpl_X9 (Nat.le_of_ble_eq_true rfl) ?_
  refine z_aload_n 1 dX9_knows_0 rfl rfl ?_
  refine z_getf (ci := 9) 4 dX9_knows_1 rfl rfl zin_9 0 (by decide) zw_224 (by first | with_reducible assumption | with_reducible exact zup_same _ _ _) rfl ?_
  refine z_iload_n 5 dX9_knows_4 rfl rfl ?_
  refine z_cV1 8 dX9_knows_5 rfl kX6_hasPerson zw_482 (Nat.le_of_ble_eq_true rfl) ⟨Nat.le_refl _, Nat.le_refl _⟩ (by first | with_reducible assumption | with_reducible exact zup_same _ _ _) ?_
  refine c_X6_hasPerson hW.nw hp.1 (by omega) ?_
  refine z_if_eq 22 11 dX9_knows_8 (by decide) rfl (by first | omega | exact zr_b _ | exact zr_and _ _ | exact zr_or _ _ | exact zr_shl _ _) (fun c8 => ?_) (fun c8 => ?_)
  · try replace c8 := zb_0 c8
    refine z_iconst 23 dX9_knows_22 rfl ?_
    refine z_ret dX9_knows_23 (by first | exact True.intro | exact Or.inl rfl | exact Or.inr rfl | exact zb_01 _ | assumption | (show _ ∨ _; omega)) ⟨Nat.le_refl _, Nat.le_refl _⟩ ?_
    exact hQ
  · try replace c8 := zb_1 c8
    refine z_aload_n 12 dX9_knows_11 rfl rfl ?_
    refine z_getf (ci := 9) 15 dX9_knows_12 rfl rfl zin_9 0 (by decide) zw_224 (by first | with_reducible assumption | with_reducible exact zup_same _ _ _) rfl ?_
    refine z_iload_n 16 dX9_knows_15 rfl rfl ?_
    refine z_cV1 19 dX9_knows_16 rfl kX6_hasNews zw_522 (Nat.le_of_ble_eq_true rfl) ⟨Nat.le_refl _, Nat.le_refl _⟩ (by first | with_reducible assumption | with_reducible exact zup_same _ _ _) ?_
    refine c_X6_hasNews hW.nw hp.2 (by omega) ?_
    refine z_if_ne 24 22 dX9_knows_19 (by decide) rfl (by first | omega | exact zr_b _ | exact zr_and _ _ | exact zr_or _ _ | exact zr_shl _ _) (fun c19 => ?_) (fun c19 => ?_)
    · exact absurd ⟨by omega, zb_1 c19⟩ hn
    · try replace c19 := zb_0 c19
      refine z_iconst 23 dX9_knows_22 rfl ?_
      refine z_ret dX9_knows_23 (by first | exact True.intro | exact Or.inl rfl | exact Or.inr rfl | exact zb_01 _ | assumption | (show _ ∨ _; omega)) ⟨Nat.le_refl _, Nat.le_refl _⟩ ?_
      exact hQ
theorem c_X9_knows {p k : Int} (hW : zCW h (N, M, D, G, E, P) U C l fi ct S fl Kp W Kt c sd O) (hO : zOK 9 N D G E P) (hM : M ≤ 3) (hp : 0 ≤ p ∧ p < N + 1) (hk : 0 ≤ k ∧ k < M) (hQ : ∀ h' : zH, zCW h' (N, M, D, G, E, P) U C l fi ct S fl Kp W Kt c sd O → zMod 2 111 h h' → Q (some (vI (zTK D G E P N M p k.toNat))) h') : zC (d + 4) mX9_knows 0 0 [vR 2, vI p, vI k] h Q := by
  have hN := hO.1
  have zo2 := hW.ob
  have zo3 := hW.nw.2.1
  obtain ⟨K, F, hX, hK0⟩ := hW.ti
  have zo13 := hX.2.1
  refine zC.of zpl_X9 (Nat.le_of_ble_eq_true rfl) ?_
  refine z_aload_n 1 dX9_knows_0 rfl rfl ?_
  refine z_getf (ci := 9) 4 dX9_knows_1 rfl rfl zin_9 0 (by decide) zw_224 (by first | with_reducible assumption | with_reducible exact zup_same _ _ _) rfl ?_
  refine z_iload_n 5 dX9_knows_4 rfl rfl ?_
  refine z_cV1 8 dX9_knows_5 rfl kX6_hasPerson zw_482 (Nat.le_of_ble_eq_true rfl) ⟨Nat.le_refl _, Nat.le_refl _⟩ (by first | with_reducible assumption | with_reducible exact zup_same _ _ _) ?_
  refine c_X6_hasPerson hW.nw (by omega) (by omega) ?_
  refine z_if_eq 22 11 dX9_knows_8 (by decide) rfl (by first | omega | exact zr_b _ | exact zr_and _ _ | exact zr_or _ _ | exact zr_shl _ _) (fun c8 => ?_) (fun c8 => ?_)
  · exact absurd (show 0 ≤ p ∧ p < ((N + 1 : Nat) : Int) by omega) (zb_0 c8)
  · try replace c8 := zb_1 c8
    refine z_aload_n 12 dX9_knows_11 rfl rfl ?_
    refine z_getf (ci := 9) 15 dX9_knows_12 rfl rfl zin_9 0 (by decide) zw_224 (by first | with_reducible assumption | with_reducible exact zup_same _ _ _) rfl ?_
    refine z_iload_n 16 dX9_knows_15 rfl rfl ?_
    refine z_cV1 19 dX9_knows_16 rfl kX6_hasNews zw_522 (Nat.le_of_ble_eq_true rfl) ⟨Nat.le_refl _, Nat.le_refl _⟩ (by first | with_reducible assumption | with_reducible exact zup_same _ _ _) ?_
    refine c_X6_hasNews hW.nw (by omega) (by omega) ?_
    refine z_if_ne 24 22 dX9_knows_19 (by decide) rfl (by first | omega | exact zr_b _ | exact zr_and _ _ | exact zr_or _ _ | exact zr_shl _ _) (fun c19 => ?_) (fun c19 => ?_)
    · try replace c19 := zb_1 c19
      refine z_aload_n 25 dX9_knows_24 rfl rfl ?_
      refine z_getf (ci := 9) 28 dX9_knows_25 rfl rfl zin_9 2 (by decide) zw_226 (by first | with_reducible assumption | with_reducible exact zup_same _ _ _) rfl ?_
      refine z_aload_n 29 dX9_knows_28 rfl rfl ?_
      refine z_getf (ci := 9) 32 dX9_knows_29 rfl rfl zin_9 0 (by decide) zw_224 (by first | with_reducible assumption | with_reducible exact zup_same _ _ _) rfl ?_
      refine z_cV1 35 dX9_knows_32 rfl kX8_follow zw_357 (Nat.le_of_ble_eq_true rfl) ⟨Nat.le_refl _, Nat.le_refl _⟩ (by first | with_reducible assumption | with_reducible exact zup_same _ _ _) ?_
      refine w_fol3 hW hO hM (fun h' K' F' hW' hX' hT' hF => ?_)
      have zo2 := hW'.ob
      have zo13 := hX'.2.1
      refine z_pop 36 dX9_knows_35 rfl ?_
      refine z_aload_n 37 dX9_knows_36 rfl rfl ?_
      refine z_getf (ci := 9) 40 dX9_knows_37 rfl rfl zin_9 2 (by decide) zw_226 (by first | with_reducible assumption | with_reducible exact zup_same _ _ _) rfl ?_
      refine z_iload_n 41 dX9_knows_40 rfl rfl ?_
      refine z_iload_n 42 dX9_knows_41 rfl rfl ?_
      refine z_cV2 45 dX9_knows_42 rfl kX8_tickOf zw_508 (Nat.le_of_ble_eq_true rfl) ⟨Nat.le_refl _, Nat.le_refl _⟩ (by first | with_reducible assumption | with_reducible exact zup_same _ _ _) ?_
      refine c_X8_tickOf hX' (by omega) ?_
      have e := hT' p k.toNat hp.1 (by omega) (by omega)
      rw [show ((k.toNat : Nat) : Int) = k by omega] at e
      rw [e]
      refine z_ret dX9_knows_45 (by first | exact True.intro | exact Or.inl rfl | exact Or.inr rfl | exact zb_01 _ | assumption | (show _ ∨ _; omega)) ⟨Nat.le_refl _, Nat.le_refl _⟩ ?_
      exact hQ _ hW' hF
    · exact absurd hk (zb_0 c19)
theorem c_X9_last_no {k : Int} (hW : zCW h (N, M, D, G, E, P) U C l fi ct S fl Kp W Kt c sd O) (hM : M ≤ 3) (hk : (-2147483648 ≤ k ∧ k ≤ 2147483647) ∧ ¬ (0 ≤ k ∧ k < M)) (hQ : Q (some (vI (-1))) h) : zC (d + 4) mX9_last 0 0 [vR 2, vI k] h Q := by
  have zo2 := hW.ob
  have zo3 := hW.nw.2.1
  refine zC.of zpl_X9 (Nat.le_of_ble_eq_true rfl) ?_
  refine z_aload_n 1 dX9_last_0 rfl rfl ?_
  refine z_getf (ci := 9) 4 dX9_last_1 rfl rfl zin_9 0 (by decide) zw_224 (by first | with_reducible assumption | with_reducible exact zup_same _ _ _) rfl ?_
  refine z_iload_n 5 dX9_last_4 rfl rfl ?_
  refine z_cV1 8 dX9_last_5 rfl kX6_hasNews zw_522 (Nat.le_of_ble_eq_true rfl) ⟨Nat.le_refl _, Nat.le_refl _⟩ (by first | with_reducible assumption | with_reducible exact zup_same _ _ _) ?_
  refine c_X6_hasNews hW.nw hk.1 (by omega) ?_
  refine z_if_ne 13 11 dX9_last_8 (by decide) rfl (by first | omega | exact zr_b _ | exact zr_and _ _ | exact zr_or _ _ | exact zr_shl _ _) (fun c8 => ?_) (fun c8 => ?_)
  · exact absurd (zb_1 c8) hk.2
  · try replace c8 := zb_0 c8
    refine z_iconst 12 dX9_last_11 rfl ?_
    refine z_ret dX9_last_12 (by first | exact True.intro | exact Or.inl rfl | exact Or.inr rfl | exact zb_01 _ | assumption | (show _ ∨ _; omega)) ⟨Nat.le_refl _, Nat.le_refl _⟩ ?_
    exact hQ
/-- LAST of one piece of news, over the first i people -/
def zlstk (T : Int → Int) : Nat → Int
  | 0 => 0
  | i + 1 => max (zlstk T i) (T i)
theorem zlstk_b {T : Int → Int} {b : Int} (hb : 0 ≤ b) : ∀ {n : Nat}, (∀ i : Nat, i < n → 0 ≤ T i ∧ T i ≤ b) → 0 ≤ zlstk T n ∧ zlstk T n ≤ b
  | 0, _ => by unfold zlstk; omega
  | n + 1, h => by
    have ih := zlstk_b hb (n := n) (fun i hi => h i (by omega))
    have := h n (by omega)
    unfold zlstk; omega
theorem c_X9_last {k : Int} (hW : zCW h (N, M, D, G, E, P) U C l fi ct S fl Kp W Kt c sd O) (hO : zOK 9 N D G E P) (hM : M ≤ 3) (hk : 0 ≤ k ∧ k < M) (hQ : ∀ h' : zH, zCW h' (N, M, D, G, E, P) U C l fi ct S fl Kp W Kt c sd O → zMod 2 111 h h' → Q (some (vI (zlstk (fun p => zTK D G E P N M p k.toNat) (N + 1)))) h') : zC (d + 4) mX9_last 0 0 [vR 2, vI k] h Q := by
  have hN := hO.1
  obtain ⟨k0, rfl⟩ : ∃ k0 : Nat, k = (k0 : Int) := ⟨k.toNat, by omega⟩
  rw [show ((k0 : Int)).toNat = k0 by omega] at hQ
  have hb : ∀ p : Nat, p ≤ N → 0 ≤ zTK D G E P N M p k0 ∧ zTK D G E P N M p k0 ≤ 840 := fun p hp => zTK_b hO (by omega) hM (by omega) (by omega) (by omega)
  have key : ∀ (h' : zH) (K' F' : Int → Int), zCW h' (N, M, D, G, E, P) U C l fi ct S fl Kp W Kt c sd O → zTim h' 13 K' F' → (∀ (p : Int) (k : Nat), 0 ≤ p → p ≤ N → k < M → K' (k * 8 + p) = zTK D G E P N M p k) → zMod 2 111 h h' → ∀ i : Nat, i ≤ N + 1 → Z (d + 4) mX9_last zo 29 [some (vR 2), some (vI k0), some (vI (zlstk (fun p => zTK D G E P N M p k0) i)), some (vI i)] [] h' Q := by
    intro h' K' F' hW' hX' hT' hF
    have zo2 := hW'.ob
    have zo3 := hW'.nw.2.1
    have zo13 := hX'.2.1
    refine z_loop (N + 1) ?_ ?_
    · refine z_iload_n 30 dX9_last_29 rfl rfl ?_
      refine z_aload_n 31 dX9_last_30 rfl rfl ?_
      refine z_getf (ci := 9) 34 dX9_last_31 rfl rfl zin_9 0 (by decide) zw_224 (by first | with_reducible assumption | with_reducible exact zup_same _ _ _) rfl ?_
      refine z_cV0 37 dX9_last_34 rfl kX6_people zw_401 (Nat.le_of_ble_eq_true rfl) ⟨Nat.le_refl _, Nat.le_refl _⟩ (by first | with_reducible assumption | with_reducible exact zup_same _ _ _) ?_
      refine c_X6_people hW'.nw ?_
      refine z_icmp_ge 60 40 dX9_last_37 (by decide) rfl (by first | omega | exact zr_b _ | exact zr_and _ _ | exact zr_or _ _ | exact zr_shl _ _) (by first | omega | exact zr_b _ | exact zr_and _ _ | exact zr_or _ _ | exact zr_shl _ _) (fun c37 => ?_) (fun c37 => ?_)
      · refine z_iload_n 61 dX9_last_60 rfl rfl ?_
        refine z_ret dX9_last_61 (by first | exact True.intro | exact Or.inl rfl | exact Or.inr rfl | exact zb_01 _ | assumption | (show _ ∨ _; omega)) ⟨Nat.le_refl _, Nat.le_refl _⟩ ?_
        exact hQ _ hW' hF
      · exfalso; omega
    · intro i hi ih
      have hbi := hb i (by omega)
      have hbl := zlstk_b (T := fun p => zTK D G E P N M p k0) (b := 840) (by omega) (n := i) (fun j hj => hb j (by omega))
      refine z_iload_n 30 dX9_last_29 rfl rfl ?_
      refine z_aload_n 31 dX9_last_30 rfl rfl ?_
      refine z_getf (ci := 9) 34 dX9_last_31 rfl rfl zin_9 0 (by decide) zw_224 (by first | with_reducible assumption | with_reducible exact zup_same _ _ _) rfl ?_
      refine z_cV0 37 dX9_last_34 rfl kX6_people zw_401 (Nat.le_of_ble_eq_true rfl) ⟨Nat.le_refl _, Nat.le_refl _⟩ (by first | with_reducible assumption | with_reducible exact zup_same _ _ _) ?_
      refine c_X6_people hW'.nw ?_
      refine z_icmp_ge 60 40 dX9_last_37 (by decide) rfl (by first | omega | exact zr_b _ | exact zr_and _ _ | exact zr_or _ _ | exact zr_shl _ _) (by first | omega | exact zr_b _ | exact zr_and _ _ | exact zr_or _ _ | exact zr_shl _ _) (fun c37 => ?_) (fun c37 => ?_)
      · exfalso; omega
      · refine z_iload_n 41 dX9_last_40 rfl rfl ?_
        refine z_aload_n 42 dX9_last_41 rfl rfl ?_
        refine z_getf (ci := 9) 45 dX9_last_42 rfl rfl zin_9 2 (by decide) zw_226 (by first | with_reducible assumption | with_reducible exact zup_same _ _ _) rfl ?_
        refine z_iload_n 46 dX9_last_45 rfl rfl ?_
        refine z_iload_n 47 dX9_last_46 rfl rfl ?_
        refine z_cV2 50 dX9_last_47 rfl kX8_tickOf zw_508 (Nat.le_of_ble_eq_true rfl) ⟨Nat.le_refl _, Nat.le_refl _⟩ (by first | with_reducible assumption | with_reducible exact zup_same _ _ _) ?_
        refine c_X8_tickOf hX' (by omega) ?_
        rw [hT' i k0 (by omega) (by omega) (by omega)]
        refine z_max 53 dX9_last_50 rfl zw_530 zw_174 zw_68 zw_175 (Nat.le_of_ble_eq_true rfl) ⟨Nat.le_refl _, Nat.le_refl _⟩ (by first | omega | exact zr_b _ | exact zr_and _ _ | exact zr_or _ _ | exact zr_shl _ _) (by first | omega | exact zr_b _ | exact zr_and _ _ | exact zr_or _ _ | exact zr_shl _ _) ?_
        refine z_istore_n 54 dX9_last_53 rfl (by decide) ?_
        refine z_iinc 57 dX9_last_54 rfl (by decide) rfl ?_
        refine z_goto 29 dX9_last_57 (by decide) ?_
        exact ih
  have zo2 := hW.ob
  have zo3 := hW.nw.2.1
  obtain ⟨K, F, hX, hK0⟩ := hW.ti
  have zo13 := hX.2.1
  refine zC.of zpl_X9 (Nat.le_of_ble_eq_true rfl) ?_
  refine z_aload_n 1 dX9_last_0 rfl rfl ?_
  refine z_getf (ci := 9) 4 dX9_last_1 rfl rfl zin_9 0 (by decide) zw_224 (by first | with_reducible assumption | with_reducible exact zup_same _ _ _) rfl ?_
  refine z_iload_n 5 dX9_last_4 rfl rfl ?_
  refine z_cV1 8 dX9_last_5 rfl kX6_hasNews zw_522 (Nat.le_of_ble_eq_true rfl) ⟨Nat.le_refl _, Nat.le_refl _⟩ (by first | with_reducible assumption | with_reducible exact zup_same _ _ _) ?_
  refine c_X6_hasNews hW.nw (by omega) (by omega) ?_
  refine z_if_ne 13 11 dX9_last_8 (by decide) rfl (by first | omega | exact zr_b _ | exact zr_and _ _ | exact zr_or _ _ | exact zr_shl _ _) (fun c8 => ?_) (fun c8 => ?_)
  · try replace c8 := zb_1 c8
    refine z_aload_n 14 dX9_last_13 rfl rfl ?_
    refine z_getf (ci := 9) 17 dX9_last_14 rfl rfl zin_9 2 (by decide) zw_226 (by first | with_reducible assumption | with_reducible exact zup_same _ _ _) rfl ?_
    refine z_aload_n 18 dX9_last_17 rfl rfl ?_
    refine z_getf (ci := 9) 21 dX9_last_18 rfl rfl zin_9 0 (by decide) zw_224 (by first | with_reducible assumption | with_reducible exact zup_same _ _ _) rfl ?_
    refine z_cV1 24 dX9_last_21 rfl kX8_follow zw_357 (Nat.le_of_ble_eq_true rfl) ⟨Nat.le_refl _, Nat.le_refl _⟩ (by first | with_reducible assumption | with_reducible exact zup_same _ _ _) ?_
    refine w_fol3 hW hO hM (fun h' K' F' hW' hX' hT' hF => ?_)
    refine z_pop 25 dX9_last_24 rfl ?_
    refine z_iconst 26 dX9_last_25 rfl ?_
    refine z_istore_n 27 dX9_last_26 rfl (by decide) ?_
    refine z_iconst 28 dX9_last_27 rfl ?_
    refine z_istore_n 29 dX9_last_28 rfl (by decide) ?_
    exact key h' K' F' hW' hX' hT' hF 0 (Nat.zero_le _)
  · exact absurd hk (zb_0 c8)
theorem zOK.setD {B B' : Int} (hO : zOK B N D G E P) {p v : Int} (hB : B ≤ B') (hv : 1 ≤ v ∧ v ≤ B') : zOK B' N (zst D p v) G E P := by
  obtain ⟨h1, h2, h3⟩ := hO
  refine ⟨h1, fun q a b => ?_, h3⟩
  have := h2 q a b
  by_cases e : q = p
  · rw [e, zst_same]; rw [e] at this; omega
  · rw [zst_ne _ _ e]; omega
theorem c_X9_slackOf {p : Int} {r : Nat} (hW : zCW h (N, M, D, G, E, P) U C l fi ct S fl Kp W Kt c sd O) (hO : zOK 9 N D G E P) (hM : M ≤ 3) (hp : 0 ≤ p ∧ p ≤ N) (hr : r ≤ 30) (hs1 : ∀ j : Nat, 1 ≤ j → j ≤ r → zLAST (zst D p (D p + j)) G E P N M ≤ zLAST D G E P N M) (hs2 : r < 30 → zLAST D G E P N M < zLAST (zst D p (D p + (r + 1 : Nat))) G E P N M)
    (hQ : ∀ (h' : zH) (U' : zTD), zCW h' (N, M, D, G, E, P) U' C l fi ct S fl Kp W Kt c sd O → zMod 2 111 h h' → Q (some (vI r)) h') : zC (d + 4) mX9_slackOf 0 0 [vR 2, vI p] h Q := by
  have hN := hO.1
  have hdp := hO.2.1 p hp.1 hp.2
  have hl0 := zLAST_b hO (by omega) hM
  have hOj : ∀ j : Nat, j ≤ 31 → zOK 40 N (zst D p (D p + j)) G E P := fun j hj => hO.setD (by omega) (by omega)
  have key : ∀ i : Nat, i ≤ r → ∀ (h' : zH) (x : Int), zCW h' (N, M, D, G, E, P) (N, M, zst D p x, G, E, P) C l fi ct S fl Kp W Kt c sd O → zMod 2 111 h h' → Z (d + 4) mX9_slackOf zo 25 [some (vR 2), some (vI p), some (vI (zLAST D G E P N M)), some (vI ((i + 1 : Nat) : Int))] [] h' Q := by
    refine z_loop r ?_ ?_
    · intro h' x hW' hF
      have zo2 := hW'.ob
      have zo3 := hW'.nw.2.1
      have zo8 := hW'.su.2.1
      obtain ⟨K, F, hX, hK0⟩ := hW'.ti
      have zo13 := hX.2.1
      by_cases e : r = 30
      · subst e
        refine z_iload_n 26 dX9_slackOf_25 rfl rfl ?_
        refine z_bipush 28 dX9_slackOf_26 rfl (by decide) ?_
        refine z_icmp_gt 74 31 dX9_slackOf_28 (by decide) rfl (by first | omega | exact zr_b _ | exact zr_and _ _ | exact zr_or _ _ | exact zr_shl _ _) (by first | omega | exact zr_b _ | exact zr_and _ _ | exact zr_or _ _ | exact zr_shl _ _) (fun c28 => ?_) (fun c28 => ?_)
        · refine z_bipush 76 dX9_slackOf_74 rfl (by decide) ?_
          refine z_ret dX9_slackOf_76 (by first | exact True.intro | exact Or.inl rfl | exact Or.inr rfl | exact zb_01 _ | assumption | (show _ ∨ _; omega)) ⟨Nat.le_refl _, Nat.le_refl _⟩ ?_
          exact hQ _ _ hW' hF
        · exfalso; omega
      · have hb := zLAST_b (hOj (r + 1) (by omega)) (by omega) hM
        refine z_iload_n 26 dX9_slackOf_25 rfl rfl ?_
        refine z_bipush 28 dX9_slackOf_26 rfl (by decide) ?_
        refine z_icmp_gt 74 31 dX9_slackOf_28 (by decide) rfl (by first | omega | exact zr_b _ | exact zr_and _ _ | exact zr_or _ _ | exact zr_shl _ _) (by first | omega | exact zr_b _ | exact zr_and _ _ | exact zr_or _ _ | exact zr_shl _ _) (fun c28 => ?_) (fun c28 => ?_)
        · exfalso; omega
        · refine z_aload_n 32 dX9_slackOf_31 rfl rfl ?_
          refine z_getf (ci := 9) 35 dX9_slackOf_32 rfl rfl zin_9 1 (by decide) zw_225 (by first | with_reducible assumption | with_reducible exact zup_same _ _ _) rfl ?_
          refine z_iload_n 36 dX9_slackOf_35 rfl rfl ?_
          refine z_aload_n 37 dX9_slackOf_36 rfl rfl ?_
          refine z_getf (ci := 9) 40 dX9_slackOf_37 rfl rfl zin_9 0 (by decide) zw_224 (by first | with_reducible assumption | with_reducible exact zup_same _ _ _) rfl ?_
          refine z_iload_n 41 dX9_slackOf_40 rfl rfl ?_
          refine z_cV1 44 dX9_slackOf_41 rfl kX6_delayOf zw_486 (Nat.le_of_ble_eq_true rfl) ⟨Nat.le_refl _, Nat.le_refl _⟩ (by first | with_reducible assumption | with_reducible exact zup_same _ _ _) ?_
          refine c_X6_delayOf hW'.nw (by omega) ?_
          refine z_iload_n 45 dX9_slackOf_44 rfl rfl ?_
          refine z_iadd 46 dX9_slackOf_45 rfl ?_
          refine z_cV2 49 dX9_slackOf_46 rfl kX6_setDelay zw_503 (Nat.le_of_ble_eq_true rfl) ⟨Nat.le_refl _, Nat.le_refl _⟩ (by first | with_reducible assumption | with_reducible exact zup_same _ _ _) ?_
          refine w_setD8 hW' (by omega) (fun h2 hW2 hF2 => ?_)
          rw [show zst (zst D p x) p (D p + ((r + 1 : Nat) : Int)) = zst D p (D p + ((r + 1 : Nat) : Int)) from by funext j; unfold zst; split <;> rfl] at hW2
          have zo2 := hW2.ob
          obtain ⟨K2, F2, hX2, hK2⟩ := hW2.ti
          have zo13 := hX2.2.1
          refine z_aload_n 50 dX9_slackOf_49 rfl rfl ?_
          refine z_getf (ci := 9) 53 dX9_slackOf_50 rfl rfl zin_9 2 (by decide) zw_226 (by first | with_reducible assumption | with_reducible exact zup_same _ _ _) rfl ?_
          refine z_aload_n 54 dX9_slackOf_53 rfl rfl ?_
          refine z_getf (ci := 9) 57 dX9_slackOf_54 rfl rfl zin_9 1 (by decide) zw_225 (by first | with_reducible assumption | with_reducible exact zup_same _ _ _) rfl ?_
          refine z_cV1 60 dX9_slackOf_57 rfl kX8_follow zw_357 (Nat.le_of_ble_eq_true rfl) ⟨Nat.le_refl _, Nat.le_refl _⟩ (by first | with_reducible assumption | with_reducible exact zup_same _ _ _) ?_
          refine w_fol8 hW2 (hOj (r + 1) (by omega)) (by omega) hM (fun h3 K3 F3 hW3 hX3 hT3 hF3 => ?_)
          have h2' := hs2 (by omega)
          refine z_iload_n 61 dX9_slackOf_60 rfl rfl ?_
          refine z_icmp_le 68 64 dX9_slackOf_61 (by decide) rfl (by first | omega | exact zr_b _ | exact zr_and _ _ | exact zr_or _ _ | exact zr_shl _ _) (by first | omega | exact zr_b _ | exact zr_and _ _ | exact zr_or _ _ | exact zr_shl _ _) (fun c61 => ?_) (fun c61 => ?_)
          · exfalso; omega
          · refine z_iload_n 65 dX9_slackOf_64 rfl rfl ?_
            refine z_iconst 66 dX9_slackOf_65 rfl ?_
            refine z_isub 67 dX9_slackOf_66 rfl ?_
            refine z_ret dX9_slackOf_67 (by first | exact True.intro | exact Or.inl rfl | exact Or.inr rfl | exact zb_01 _ | assumption | (show _ ∨ _; omega)) ⟨Nat.le_refl _, Nat.le_refl _⟩ ?_
            have e1 : (((r + 1 : Nat) : Int) - 1) = r := by omega
            rw [e1]
            exact hQ _ _ hW3 (hF.tr (hF2.tr hF3))
    · intro i hi ih h' x hW' hF
      have zo2 := hW'.ob
      have zo3 := hW'.nw.2.1
      have zo8 := hW'.su.2.1
      obtain ⟨K, F, hX, hK0⟩ := hW'.ti
      have zo13 := hX.2.1
      have hb := zLAST_b (hOj (i + 1) (by omega)) (by omega) hM
      have h1' := hs1 (i + 1) (by omega) (by omega)
      refine z_iload_n 26 dX9_slackOf_25 rfl rfl ?_
      refine z_bipush 28 dX9_slackOf_26 rfl (by decide) ?_
      refine z_icmp_gt 74 31 dX9_slackOf_28 (by decide) rfl (by first | omega | exact zr_b _ | exact zr_and _ _ | exact zr_or _ _ | exact zr_shl _ _) (by first | omega | exact zr_b _ | exact zr_and _ _ | exact zr_or _ _ | exact zr_shl _ _) (fun c28 => ?_) (fun c28 => ?_)
      · exfalso; omega
      · refine z_aload_n 32 dX9_slackOf_31 rfl rfl ?_
        refine z_getf (ci := 9) 35 dX9_slackOf_32 rfl rfl zin_9 1 (by decide) zw_225 (by first | with_reducible assumption | with_reducible exact zup_same _ _ _) rfl ?_
        refine z_iload_n 36 dX9_slackOf_35 rfl rfl ?_
        refine z_aload_n 37 dX9_slackOf_36 rfl rfl ?_
        refine z_getf (ci := 9) 40 dX9_slackOf_37 rfl rfl zin_9 0 (by decide) zw_224 (by first | with_reducible assumption | with_reducible exact zup_same _ _ _) rfl ?_
        refine z_iload_n 41 dX9_slackOf_40 rfl rfl ?_
        refine z_cV1 44 dX9_slackOf_41 rfl kX6_delayOf zw_486 (Nat.le_of_ble_eq_true rfl) ⟨Nat.le_refl _, Nat.le_refl _⟩ (by first | with_reducible assumption | with_reducible exact zup_same _ _ _) ?_
        refine c_X6_delayOf hW'.nw (by omega) ?_
        refine z_iload_n 45 dX9_slackOf_44 rfl rfl ?_
        refine z_iadd 46 dX9_slackOf_45 rfl ?_
        refine z_cV2 49 dX9_slackOf_46 rfl kX6_setDelay zw_503 (Nat.le_of_ble_eq_true rfl) ⟨Nat.le_refl _, Nat.le_refl _⟩ (by first | with_reducible assumption | with_reducible exact zup_same _ _ _) ?_
        refine w_setD8 hW' (by omega) (fun h2 hW2 hF2 => ?_)
        rw [show zst (zst D p x) p (D p + ((i + 1 : Nat) : Int)) = zst D p (D p + ((i + 1 : Nat) : Int)) from by funext j; unfold zst; split <;> rfl] at hW2
        have zo2 := hW2.ob
        obtain ⟨K2, F2, hX2, hK2⟩ := hW2.ti
        have zo13 := hX2.2.1
        refine z_aload_n 50 dX9_slackOf_49 rfl rfl ?_
        refine z_getf (ci := 9) 53 dX9_slackOf_50 rfl rfl zin_9 2 (by decide) zw_226 (by first | with_reducible assumption | with_reducible exact zup_same _ _ _) rfl ?_
        refine z_aload_n 54 dX9_slackOf_53 rfl rfl ?_
        refine z_getf (ci := 9) 57 dX9_slackOf_54 rfl rfl zin_9 1 (by decide) zw_225 (by first | with_reducible assumption | with_reducible exact zup_same _ _ _) rfl ?_
        refine z_cV1 60 dX9_slackOf_57 rfl kX8_follow zw_357 (Nat.le_of_ble_eq_true rfl) ⟨Nat.le_refl _, Nat.le_refl _⟩ (by first | with_reducible assumption | with_reducible exact zup_same _ _ _) ?_
        refine w_fol8 hW2 (hOj (i + 1) (by omega)) (by omega) hM (fun h3 K3 F3 hW3 hX3 hT3 hF3 => ?_)
        refine z_iload_n 61 dX9_slackOf_60 rfl rfl ?_
        refine z_icmp_le 68 64 dX9_slackOf_61 (by decide) rfl (by first | omega | exact zr_b _ | exact zr_and _ _ | exact zr_or _ _ | exact zr_shl _ _) (by first | omega | exact zr_b _ | exact zr_and _ _ | exact zr_or _ _ | exact zr_shl _ _) (fun c61 => ?_) (fun c61 => ?_)
        · refine z_iinc 71 dX9_slackOf_68 rfl (by decide) rfl ?_
          refine z_goto 25 dX9_slackOf_71 (by decide) ?_
          exact ih h3 _ hW3 (hF.tr (hF2.tr hF3))
        · exfalso; omega
  have zo2 := hW.ob
  have zo3 := hW.nw.2.1
  obtain ⟨K, F, hX, hK0⟩ := hW.ti
  have zo13 := hX.2.1
  refine zC.of zpl_X9 (Nat.le_of_ble_eq_true rfl) ?_
  refine z_aload_n 1 dX9_slackOf_0 rfl rfl ?_
  refine z_getf (ci := 9) 4 dX9_slackOf_1 rfl rfl zin_9 2 (by decide) zw_226 (by first | with_reducible assumption | with_reducible exact zup_same _ _ _) rfl ?_
  refine z_aload_n 5 dX9_slackOf_4 rfl rfl ?_
  refine z_getf (ci := 9) 8 dX9_slackOf_5 rfl rfl zin_9 0 (by decide) zw_224 (by first | with_reducible assumption | with_reducible exact zup_same _ _ _) rfl ?_
  refine z_cV1 11 dX9_slackOf_8 rfl kX8_follow zw_357 (Nat.le_of_ble_eq_true rfl) ⟨Nat.le_refl _, Nat.le_refl _⟩ (by first | with_reducible assumption | with_reducible exact zup_same _ _ _) ?_
  refine w_fol3 hW hO hM (fun h1 K1 F1 hW1 hX1 hT1 hF1 => ?_)
  have zo2 := hW1.ob
  obtain ⟨N0, M0, D0, G0, E0, P0⟩ := U
  have zo8 := hW1.su.2.1
  refine z_istore_n 12 dX9_slackOf_11 rfl (by decide) ?_
  refine z_aload_n 13 dX9_slackOf_12 rfl rfl ?_
  refine z_getf (ci := 9) 16 dX9_slackOf_13 rfl rfl zin_9 1 (by decide) zw_225 (by first | with_reducible assumption | with_reducible exact zup_same _ _ _) rfl ?_
  refine z_aload_n 17 dX9_slackOf_16 rfl rfl ?_
  refine z_getf (ci := 9) 20 dX9_slackOf_17 rfl rfl zin_9 0 (by decide) zw_224 (by first | with_reducible assumption | with_reducible exact zup_same _ _ _) rfl ?_
  refine z_cV1 23 dX9_slackOf_20 rfl kX6_become zw_410 (Nat.le_of_ble_eq_true rfl) ⟨Nat.le_refl _, Nat.le_refl _⟩ (by first | with_reducible assumption | with_reducible exact zup_same _ _ _) ?_
  refine w_bec hW1 (fun h2 hW2 hF2 => ?_)
  refine z_iconst 24 dX9_slackOf_23 rfl ?_
  refine z_istore_n 25 dX9_slackOf_24 rfl (by decide) ?_
  refine key 0 (Nat.zero_le _) h2 (D p) ?_ (hF1.tr hF2)
  rw [zst_self]
  exact hW2
theorem c_X9_gatheredFrom0 (hQ : Q (some (vI (-9))) h) : zC (d + 4) mX9_gatheredFrom 0 0 [vR 2, vI 0] h Q := by
  refine zC.of zpl_X9 (Nat.le_of_ble_eq_true rfl) ?_
  refine z_iload_n 1 dX9_gatheredFrom_0 rfl rfl ?_
  refine z_if_ne 7 4 dX9_gatheredFrom_1 (by decide) rfl (by first | omega | exact zr_b _ | exact zr_and _ _ | exact zr_or _ _ | exact zr_shl _ _) (fun c1 => ?_) (fun c1 => ?_)
  · exact absurd rfl c1
  · try replace c1 := zb_0 c1
    refine z_bipush 6 dX9_gatheredFrom_4 rfl (by decide) ?_
    refine z_ret dX9_gatheredFrom_6 (by first | exact True.intro | exact Or.inl rfl | exact Or.inr rfl | exact zb_01 _ | assumption | (show _ ∨ _; omega)) ⟨Nat.le_refl _, Nat.le_refl _⟩ ?_
    exact hQ
theorem c_X9_gatheredFrom {p : Int} (hW : zCW h (N, M, D, G, E, P) U C l fi ct S fl Kp W Kt c sd O) (hO : zOK 9 N D G E P) (hM : 1 ≤ M ∧ M ≤ 3) (hp : 1 ≤ p ∧ p ≤ N) (hQ : ∀ h' : zH, zCW h' (N, M, D, G, E, P) U C l fi ct S fl Kp W Kt c sd O → zMod 2 111 h h' → Q (some (vI (zLAST D G E P N M - zTK D G E P N M p (M - 1)))) h') : zC (d + 4) mX9_gatheredFrom 0 0 [vR 2, vI p] h Q := by
  have hN := hO.1
  have zo2 := hW.ob
  have zo3 := hW.nw.2.1
  obtain ⟨K, F, hX, hK0⟩ := hW.ti
  have zo13 := hX.2.1
  refine zC.of zpl_X9 (Nat.le_of_ble_eq_true rfl) ?_
  refine z_iload_n 1 dX9_gatheredFrom_0 rfl rfl ?_
  refine z_if_ne 7 4 dX9_gatheredFrom_1 (by decide) rfl (by first | omega | exact zr_b _ | exact zr_and _ _ | exact zr_or _ _ | exact zr_shl _ _) (fun c1 => ?_) (fun c1 => ?_)
  · try replace c1 := zb_1 c1
    refine z_aload_n 8 dX9_gatheredFrom_7 rfl rfl ?_
    refine z_getf (ci := 9) 11 dX9_gatheredFrom_8 rfl rfl zin_9 2 (by decide) zw_226 (by first | with_reducible assumption | with_reducible exact zup_same _ _ _) rfl ?_
    refine z_aload_n 12 dX9_gatheredFrom_11 rfl rfl ?_
    refine z_getf (ci := 9) 15 dX9_gatheredFrom_12 rfl rfl zin_9 0 (by decide) zw_224 (by first | with_reducible assumption | with_reducible exact zup_same _ _ _) rfl ?_
    refine z_cV1 18 dX9_gatheredFrom_15 rfl kX8_follow zw_357 (Nat.le_of_ble_eq_true rfl) ⟨Nat.le_refl _, Nat.le_refl _⟩ (by first | with_reducible assumption | with_reducible exact zup_same _ _ _) ?_
    refine w_fol3 hW hO hM.2 (fun h' K' F' hW' hX' hT' hF => ?_)
    have zo2 := hW'.ob
    have zo3 := hW'.nw.2.1
    have zo13 := hX'.2.1
    refine z_istore_n 19 dX9_gatheredFrom_18 rfl (by decide) ?_
    refine z_iload_n 20 dX9_gatheredFrom_19 rfl rfl ?_
    refine z_aload_n 21 dX9_gatheredFrom_20 rfl rfl ?_
    refine z_getf (ci := 9) 24 dX9_gatheredFrom_21 rfl rfl zin_9 2 (by decide) zw_226 (by first | with_reducible assumption | with_reducible exact zup_same _ _ _) rfl ?_
    refine z_iload_n 25 dX9_gatheredFrom_24 rfl rfl ?_
    refine z_aload_n 26 dX9_gatheredFrom_25 rfl rfl ?_
    refine z_getf (ci := 9) 29 dX9_gatheredFrom_26 rfl rfl zin_9 0 (by decide) zw_224 (by first | with_reducible assumption | with_reducible exact zup_same _ _ _) rfl ?_
    refine z_cV0 32 dX9_gatheredFrom_29 rfl kX6_news zw_405 (Nat.le_of_ble_eq_true rfl) ⟨Nat.le_refl _, Nat.le_refl _⟩ (by first | with_reducible assumption | with_reducible exact zup_same _ _ _) ?_
    refine c_X6_news hW'.nw ?_
    refine z_iconst 33 dX9_gatheredFrom_32 rfl ?_
    refine z_isub 34 dX9_gatheredFrom_33 rfl ?_
    refine z_cV2 37 dX9_gatheredFrom_34 rfl kX8_tickOf zw_508 (Nat.le_of_ble_eq_true rfl) ⟨Nat.le_refl _, Nat.le_refl _⟩ (by first | with_reducible assumption | with_reducible exact zup_same _ _ _) ?_
    refine c_X8_tickOf hX' (by omega) ?_
    rw [show (M : Int) - 1 = ((M - 1 : Nat) : Int) by omega, hT' p (M - 1) (by omega) (by omega) (by omega)]
    refine z_isub 38 dX9_gatheredFrom_37 rfl ?_
    refine z_ret dX9_gatheredFrom_38 (by first | exact True.intro | exact Or.inl rfl | exact Or.inr rfl | exact zb_01 _ | assumption | (show _ ∨ _; omega)) ⟨Nat.le_refl _, Nat.le_refl _⟩ ?_
    exact hQ _ hW' hF
  · exfalso; omega
end ACC
