/-! THE MODEL: change -/
section MCHANGE
variable {d : Nat} {h : zH} {Q : Option zV → zH → Prop} {C : Int → Int} {l : Int} {N M : Nat} {D G E P R DI : Int → Int} {ac nx : Int} {KP IK SW ST : Int → Int} {sn sd : Int} {s : zMS}
theorem c_X10_isPair {i : Int} (hob : h.1 112 = some (zMO s)) (hn : 1 ≤ s.n ∧ s.n ≤ 8) (hi : -2147483648 ≤ i ∧ i ≤ 2147483647) (hQ : Q (some (vI (zb (0 ≤ i ∧ i < s.n - 2)))) h) : zC (d + 1) mX10_isPair 0 0 [vR 112, vI i] h Q := by
  refine zC.of zpl_X10 (Nat.le_of_ble_eq_true rfl) ?_
  refine z_iload_n 1 dX10_isPair_0 rfl rfl ?_
  refine z_i2l 2 dX10_isPair_1 rfl (by first | omega | exact zr_b _ | exact zr_and _ _ | exact zr_or _ _ | exact zr_shl _ _) ?_
  refine z_lconst 3 dX10_isPair_2 rfl ?_
  refine z_aload_n 4 dX10_isPair_3 rfl rfl ?_
  refine z_getf (ci := 10) 7 dX10_isPair_4 rfl rfl zin_10 2 (by decide) zw_766 (by first | with_reducible assumption | with_reducible exact zup_same _ _ _) rfl ?_
  refine z_iconst 8 dX10_isPair_7 rfl ?_
  refine z_isub 9 dX10_isPair_8 rfl ?_
  refine z_i2l 10 dX10_isPair_9 rfl (by first | omega | exact zr_b _ | exact zr_and _ _ | exact zr_or _ _ | exact zr_shl _ _) ?_
  refine z_cS3 13 dX10_isPair_10 rfl kX10_in zw_846 (Nat.le_of_ble_eq_true rfl) ⟨Nat.le_refl _, Nat.le_refl _⟩ ?_
  refine c_X10_in (a := 0) (by omega) (by omega) (by omega) ?_
  refine z_ret dX10_isPair_13 (by first | exact True.intro | exact Or.inl rfl | exact Or.inr rfl | exact zb_01 _ | assumption | (show _ ∨ _; omega)) ⟨Nat.le_refl _, Nat.le_refl _⟩ ?_
  rw [zb_cg (show (0 ≤ i ∧ i ≤ s.n - 3) ↔ (0 ≤ i ∧ i < s.n - 2) by omega)]; exact hQ
theorem c_X10_mayChange {a : Nat} {i : Int} (hr : h.1 a = some (zI 33 R)) (hR : zRo N M D G E P R) (hO : zOK 9 N D G E P) (hi : 0 ≤ i ∧ i + 1 < N) (hQ : Q (some (vI (zb (E (P (i + 1)) ≠ P i)))) h) : zC d mX10_mayChange 0 0 [vR a, vI i] h Q := by
  have hN := hO.1
  have e1 := hR.2.2.2 i.toNat (by omega)
  have e2 := hR.2.2.2 (i.toNat + 1) (by omega)
  rw [Int.toNat_of_nonneg hi.1] at e1
  rw [show ((i.toNat + 1 : Nat) : Int) = i + 1 by omega] at e2
  rw [show 25 + (i + 1) = 25 + i + 1 by omega] at e2
  have p1 := hO.2.2.1 i.toNat (by omega)
  have p2 := hO.2.2.1 (i.toNat + 1) (by omega)
  have v2 := hO.v8 (i.toNat + 1) (by omega)
  rw [Int.toNat_of_nonneg hi.1] at p1
  rw [show ((i.toNat + 1 : Nat) : Int) = i + 1 by omega] at p2 v2
  have e3 := hR.2.2.1 (P (i + 1)) p2.1 p2.2
  refine zC.of zpl_X10 (Nat.le_of_ble_eq_true rfl) ?_
  refine z_aload_n 1 dX10_mayChange_0 rfl rfl ?_
  refine z_bipush 3 dX10_mayChange_1 rfl (by decide) ?_
  refine z_aload_n 4 dX10_mayChange_3 rfl rfl ?_
  refine z_bipush 6 dX10_mayChange_4 rfl (by decide) ?_
  refine z_iload_n 7 dX10_mayChange_6 rfl rfl ?_
  refine z_iadd 8 dX10_mayChange_7 rfl ?_
  refine z_iconst 9 dX10_mayChange_8 rfl ?_
  refine z_iadd 10 dX10_mayChange_9 rfl ?_
  refine z_iald 11 dX10_mayChange_10 rfl (by first | with_reducible assumption | with_reducible exact zup_same _ _ _) (by omega) (by first | omega | exact zr_b _ | exact zr_and _ _ | exact zr_or _ _ | exact zr_shl _ _) ?_
  rw [e2]
  refine z_iadd 12 dX10_mayChange_11 rfl ?_
  refine z_iald 13 dX10_mayChange_12 rfl (by first | with_reducible assumption | with_reducible exact zup_same _ _ _) (by omega) (by first | omega | exact zr_b _ | exact zr_and _ _ | exact zr_or _ _ | exact zr_shl _ _) ?_
  rw [e3]
  refine z_aload_n 14 dX10_mayChange_13 rfl rfl ?_
  refine z_bipush 16 dX10_mayChange_14 rfl (by decide) ?_
  refine z_iload_n 17 dX10_mayChange_16 rfl rfl ?_
  refine z_iadd 18 dX10_mayChange_17 rfl ?_
  refine z_iald 19 dX10_mayChange_18 rfl (by first | with_reducible assumption | with_reducible exact zup_same _ _ _) (by omega) (by first | omega | exact zr_b _ | exact zr_and _ _ | exact zr_or _ _ | exact zr_shl _ _) ?_
  rw [e1]
  refine z_icmp_eq 26 22 dX10_mayChange_19 (by decide) rfl (by first | omega | exact zr_b _ | exact zr_and _ _ | exact zr_or _ _ | exact zr_shl _ _) (by first | omega | exact zr_b _ | exact zr_and _ _ | exact zr_or _ _ | exact zr_shl _ _) (fun c19 => ?_) (fun c19 => ?_)
  · rw [zb_f (fun q => q c19)] at hQ
    refine z_iconst 27 dX10_mayChange_26 rfl ?_
    refine z_ret dX10_mayChange_27 (by first | exact True.intro | exact Or.inl rfl | exact Or.inr rfl | exact zb_01 _ | assumption | (show _ ∨ _; omega)) ⟨Nat.le_refl _, Nat.le_refl _⟩ ?_
    exact hQ
  · rw [zb_t c19] at hQ
    refine z_iconst 23 dX10_mayChange_22 rfl ?_
    refine z_goto 27 dX10_mayChange_23 (by decide) ?_
    refine z_ret dX10_mayChange_27 (by first | exact True.intro | exact Or.inl rfl | exact Or.inr rfl | exact zb_01 _ | assumption | (show _ ∨ _; omega)) ⟨Nat.le_refl _, Nat.le_refl _⟩ ?_
    exact hQ
theorem c_X10_changeOn {a : Nat} {i : Int} (h2 : 2 ≤ a) (hr : h.1 a = some (zI 33 R)) (hi : 0 ≤ i ∧ i < 7) (hQ : Q none (zup h a (zI 33 (zst (zst R (25 + i) (R (25 + i + 1))) (25 + i + 1) (R (25 + i)))))) : zC d mX10_changeOn 0 0 [vR a, vI i] h Q := by
  refine zC.of zpl_X10 (Nat.le_of_ble_eq_true rfl) ?_
  refine z_aload_n 1 dX10_changeOn_0 rfl rfl ?_
  refine z_bipush 3 dX10_changeOn_1 rfl (by decide) ?_
  refine z_iload_n 4 dX10_changeOn_3 rfl rfl ?_
  refine z_iadd 5 dX10_changeOn_4 rfl ?_
  refine z_iald 6 dX10_changeOn_5 rfl (by first | with_reducible assumption | with_reducible exact zup_same _ _ _) (by omega) (by first | omega | exact zr_b _ | exact zr_and _ _ | exact zr_or _ _ | exact zr_shl _ _) ?_
  refine z_istore_n 7 dX10_changeOn_6 rfl (by decide) ?_
  refine z_aload_n 8 dX10_changeOn_7 rfl rfl ?_
  refine z_bipush 10 dX10_changeOn_8 rfl (by decide) ?_
  refine z_iload_n 11 dX10_changeOn_10 rfl rfl ?_
  refine z_iadd 12 dX10_changeOn_11 rfl ?_
  refine z_aload_n 13 dX10_changeOn_12 rfl rfl ?_
  refine z_bipush 15 dX10_changeOn_13 rfl (by decide) ?_
  refine z_iload_n 16 dX10_changeOn_15 rfl rfl ?_
  refine z_iadd 17 dX10_changeOn_16 rfl ?_
  refine z_iconst 18 dX10_changeOn_17 rfl ?_
  refine z_iadd 19 dX10_changeOn_18 rfl ?_
  refine z_iald 20 dX10_changeOn_19 rfl (by first | with_reducible assumption | with_reducible exact zup_same _ _ _) (by omega) (by first | omega | exact zr_b _ | exact zr_and _ _ | exact zr_or _ _ | exact zr_shl _ _) ?_
  refine z_iast 21 dX10_changeOn_20 rfl (by omega) (by first | with_reducible assumption | with_reducible exact zup_same _ _ _) (by omega) (by first | omega | exact zr_b _ | exact zr_and _ _ | exact zr_or _ _ | exact zr_shl _ _) ?_
  refine z_aload_n 22 dX10_changeOn_21 rfl rfl ?_
  refine z_bipush 24 dX10_changeOn_22 rfl (by decide) ?_
  refine z_iload_n 25 dX10_changeOn_24 rfl rfl ?_
  refine z_iadd 26 dX10_changeOn_25 rfl ?_
  refine z_iconst 27 dX10_changeOn_26 rfl ?_
  refine z_iadd 28 dX10_changeOn_27 rfl ?_
  refine z_iload_n 29 dX10_changeOn_28 rfl rfl ?_
  refine z_iast 30 dX10_changeOn_29 rfl (by omega) (by first | with_reducible assumption | with_reducible exact zup_same _ _ _) (by omega) (by first | omega | exact zr_b _ | exact zr_and _ _ | exact zr_or _ _ | exact zr_shl _ _) ?_
  refine z_vret dX10_changeOn_30 (by first | exact True.intro | exact Or.inl rfl | exact Or.inr rfl | exact zb_01 _ | assumption | (show _ ∨ _; omega)) ⟨Nat.le_refl _, Nat.le_refl _⟩ ?_
  rw [zup_zup]; exact hQ
theorem zRo.chg (hR : zRo N M D G E P R) (hN : N ≤ 7) {i : Int} (hi : 0 ≤ i ∧ i + 1 < N) : zRo N M D G E (zst (zst P i (P (i + 1))) (i + 1) (P i)) (zst (zst R (25 + i) (R (25 + i + 1))) (25 + i + 1) (R (25 + i))) := by
  obtain ⟨r0, r1, r2, r3⟩ := hR
  have e1 := r3 i.toNat (by omega)
  have e2 := r3 (i.toNat + 1) (by omega)
  rw [Int.toNat_of_nonneg hi.1] at e1
  rw [show ((i.toNat + 1 : Nat) : Int) = i + 1 by omega, show 25 + (i + 1) = 25 + i + 1 by omega] at e2
  refine ⟨?_, fun q q0 q1 => ⟨?_, ?_⟩, fun q q0 q1 => ?_, fun k hk => ?_⟩
  · rw [zst_ne _ _ (by omega), zst_ne _ _ (by omega)]; exact r0
  · rw [zst_ne _ _ (by omega), zst_ne _ _ (by omega)]; exact (r1 q q0 q1).1
  · rw [zst_ne _ _ (by omega), zst_ne _ _ (by omega)]; exact (r1 q q0 q1).2
  · rw [zst_ne _ _ (by omega), zst_ne _ _ (by omega)]; exact r2 q q0 q1
  · by_cases a : (k : Int) = i + 1
    · rw [a, zst_same, show 25 + (i + 1) = 25 + i + 1 by omega, zst_same, e1]
    · rw [zst_ne _ _ (by omega), zst_ne _ _ a]
      by_cases b : (k : Int) = i
      · rw [b, zst_same, zst_same, e2]
      · rw [zst_ne _ _ (by omega), zst_ne _ _ b]; exact r3 k hk
end MCHANGE
