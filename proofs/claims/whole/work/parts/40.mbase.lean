/-! THE MODEL: small things -/
section MBASE
variable {d : Nat} {h : zH} {Q : Option zV → zH → Prop} {s : zMS}
theorem zcmp_r (x y : Int) : -2147483648 ≤ zcmp x y ∧ zcmp x y ≤ 2147483647 := by
  unfold zcmp; split; omega; split <;> omega
theorem zcmp_lt (x y : Int) : zcmp x y < 0 ↔ x < y := by
  unfold zcmp; split; omega; split <;> omega
theorem zcmp_gt (x y : Int) : 0 < zcmp x y ↔ y < x := by
  unfold zcmp; split; omega; split <;> omega
theorem c_X10_in {v a b : Int} (hv : -9223372036854775808 ≤ v ∧ v ≤ 9223372036854775807) (ha : -9223372036854775808 ≤ a ∧ a ≤ 9223372036854775807) (hb : -9223372036854775808 ≤ b ∧ b ≤ 9223372036854775807) (hQ : Q (some (vI (zb (a ≤ v ∧ v ≤ b)))) h) : zC d mX10_in 0 0 [vJ v, vJ a, vJ b] h Q := by
  have e1 := zcmp_lt v a
  have e2 := zcmp_gt v b
  refine zC.of zpl_X10 (Nat.le_of_ble_eq_true rfl) ?_
  refine z_lload_n 1 dX10_in_0 rfl rfl ?_
  refine z_lload_n 2 dX10_in_1 rfl rfl ?_
  refine z_lcmp 3 dX10_in_2 rfl (by first | omega | exact zr_b _ | exact zr_and _ _ | exact zr_or _ _ | exact zr_shl _ _) (by first | omega | exact zr_b _ | exact zr_and _ _ | exact zr_or _ _ | exact zr_shl _ _) ?_
  refine z_if_lt 17 6 dX10_in_3 (by decide) rfl (by exact zcmp_r _ _) (fun c3 => ?_) (fun c3 => ?_)
  · refine z_iconst 18 dX10_in_17 rfl ?_
    refine z_ret dX10_in_18 (by first | exact True.intro | exact Or.inl rfl | exact Or.inr rfl | exact zb_01 _ | assumption | (show _ ∨ _; omega)) ⟨Nat.le_refl _, Nat.le_refl _⟩ ?_
    first | (rw [zb_f (by omega)] at hQ; exact hQ) | (rw [zb_t (by omega)] at hQ; exact hQ)
  · refine z_lload_n 7 dX10_in_6 rfl rfl ?_
    refine z_lload 9 dX10_in_7 rfl rfl ?_
    refine z_lcmp 10 dX10_in_9 rfl (by first | omega | exact zr_b _ | exact zr_and _ _ | exact zr_or _ _ | exact zr_shl _ _) (by first | omega | exact zr_b _ | exact zr_and _ _ | exact zr_or _ _ | exact zr_shl _ _) ?_
    refine z_if_gt 17 13 dX10_in_10 (by decide) rfl (by exact zcmp_r _ _) (fun c10 => ?_) (fun c10 => ?_)
    · refine z_iconst 18 dX10_in_17 rfl ?_
      refine z_ret dX10_in_18 (by first | exact True.intro | exact Or.inl rfl | exact Or.inr rfl | exact zb_01 _ | assumption | (show _ ∨ _; omega)) ⟨Nat.le_refl _, Nat.le_refl _⟩ ?_
      first | (rw [zb_f (by omega)] at hQ; exact hQ) | (rw [zb_t (by omega)] at hQ; exact hQ)
    · refine z_iconst 14 dX10_in_13 rfl ?_
      refine z_goto 18 dX10_in_14 (by decide) ?_
      refine z_ret dX10_in_18 (by first | exact True.intro | exact Or.inl rfl | exact Or.inr rfl | exact zb_01 _ | assumption | (show _ ∨ _; omega)) ⟨Nat.le_refl _, Nat.le_refl _⟩ ?_
      first | (rw [zb_f (by omega)] at hQ; exact hQ) | (rw [zb_t (by omega)] at hQ; exact hQ)
theorem c_X10_has {w k : Int} (hw : -2147483648 ≤ w ∧ w ≤ 2147483647) (hk : 0 ≤ k ∧ k < 32) (hQ : Q (some (vI (zb (zkb w k = true)))) h) : zC d mX10_has 0 0 [vI w, vI k] h Q := by
  have e := z_has (w := w) hk
  refine zC.of zpl_X10 (Nat.le_of_ble_eq_true rfl) ?_
  refine z_iload_n 1 dX10_has_0 rfl rfl ?_
  refine z_iload_n 2 dX10_has_1 rfl rfl ?_
  refine z_ishr 3 dX10_has_2 rfl ?_
  refine z_iconst 4 dX10_has_3 rfl ?_
  refine z_iand 5 dX10_has_4 rfl ?_
  refine z_iconst 6 dX10_has_5 rfl ?_
  refine z_icmp_ne 13 9 dX10_has_6 (by decide) rfl (by first | omega | exact zr_b _ | exact zr_and _ _ | exact zr_or _ _ | exact zr_shl _ _) (by first | omega | exact zr_b _ | exact zr_and _ _ | exact zr_or _ _ | exact zr_shl _ _) (fun c6 => ?_) (fun c6 => ?_)
  · refine z_iconst 14 dX10_has_13 rfl ?_
    refine z_ret dX10_has_14 (by first | exact True.intro | exact Or.inl rfl | exact Or.inr rfl | exact zb_01 _ | assumption | (show _ ∨ _; omega)) ⟨Nat.le_refl _, Nat.le_refl _⟩ ?_
    first | (rw [zb_f (fun q => by rw [if_pos q] at e; omega)] at hQ; exact hQ) | (rw [zb_t (by cases q : zkb w k <;> simp_all)] at hQ; exact hQ)
  · refine z_iconst 10 dX10_has_9 rfl ?_
    refine z_goto 14 dX10_has_10 (by decide) ?_
    refine z_ret dX10_has_14 (by first | exact True.intro | exact Or.inl rfl | exact Or.inr rfl | exact zb_01 _ | assumption | (show _ ∨ _; omega)) ⟨Nat.le_refl _, Nat.le_refl _⟩ ?_
    first | (rw [zb_f (fun q => by rw [if_pos q] at e; omega)] at hQ; exact hQ) | (rw [zb_t (by cases q : zkb w k <;> simp_all)] at hQ; exact hQ)
theorem c_X10_copy {a b : Nat} {F H : Int → Int} (hab : a ≠ b ∧ 2 ≤ a ∧ 2 ≤ b) (ha : h.1 a = some (zI 33 F)) (hb : h.1 b = some (zI 33 H)) (hQ : ∀ F' : Int → Int, (∀ i : Int, 0 ≤ i → i < 33 → F' i = F i) → Q none (zup h b (zI 33 F'))) : zC d mX10_copy 0 0 [vR a, vR b] h Q := by
  have key : ∀ i : Nat, i ≤ 33 → ∀ F' : Int → Int, (∀ j : Int, 0 ≤ j → j < i → F' j = F j) → Z d mX10_copy zo 2 [some (vR a), some (vR b), some (vI i)] [] (zup h b (zI 33 F')) Q := by
    refine z_loop 33 ?_ ?_
    · intro F' hF
      refine z_iload_n 3 dX10_copy_2 rfl rfl ?_
      refine z_bipush 5 dX10_copy_3 rfl (by decide) ?_
      refine z_icmp_ge 20 8 dX10_copy_5 (by decide) rfl (by first | omega | exact zr_b _ | exact zr_and _ _ | exact zr_or _ _ | exact zr_shl _ _) (by first | omega | exact zr_b _ | exact zr_and _ _ | exact zr_or _ _ | exact zr_shl _ _) (fun c5 => ?_) (fun c5 => ?_)
      · refine z_vret dX10_copy_20 (by first | exact True.intro | exact Or.inl rfl | exact Or.inr rfl | exact zb_01 _ | assumption | (show _ ∨ _; omega)) ⟨Nat.le_refl _, Nat.le_refl _⟩ ?_
        exact hQ F' hF
      · exfalso; omega
    · intro i hi ih F' hF
      have wa : (zup h b (zI 33 F')).1 a = some (zI 33 F) := by rw [zup_ne _ _ hab.1]; exact ha
      refine z_iload_n 3 dX10_copy_2 rfl rfl ?_
      refine z_bipush 5 dX10_copy_3 rfl (by decide) ?_
      refine z_icmp_ge 20 8 dX10_copy_5 (by decide) rfl (by first | omega | exact zr_b _ | exact zr_and _ _ | exact zr_or _ _ | exact zr_shl _ _) (by first | omega | exact zr_b _ | exact zr_and _ _ | exact zr_or _ _ | exact zr_shl _ _) (fun c5 => ?_) (fun c5 => ?_)
      · exfalso; omega
      · refine z_aload_n 9 dX10_copy_8 rfl rfl ?_
        refine z_iload_n 10 dX10_copy_9 rfl rfl ?_
        refine z_aload_n 11 dX10_copy_10 rfl rfl ?_
        refine z_iload_n 12 dX10_copy_11 rfl rfl ?_
        refine z_iald 13 dX10_copy_12 rfl (by first | with_reducible assumption | with_reducible exact zup_same _ _ _) (by omega) (by first | omega | exact zr_b _ | exact zr_and _ _ | exact zr_or _ _ | exact zr_shl _ _) ?_
        refine z_iast 14 dX10_copy_13 rfl (by omega) (by first | with_reducible assumption | with_reducible exact zup_same _ _ _) (by omega) (by first | omega | exact zr_b _ | exact zr_and _ _ | exact zr_or _ _ | exact zr_shl _ _) ?_
        refine z_iinc 17 dX10_copy_14 rfl (by decide) rfl ?_
        refine z_goto 2 dX10_copy_17 (by decide) ?_
        have k := ih (zst F' i (F i)) (fun j h1 h2 => by
          by_cases e : j = i
          · subst e; exact zst_same _ _ _
          · rw [zst_ne _ _ e]; exact hF j h1 (by omega))
        rw [← zup_zup h b (zI 33 F')] at k
        exact k
  refine zC.of zpl_X10 (Nat.le_of_ble_eq_true rfl) ?_
  refine z_iconst 1 dX10_copy_0 rfl ?_
  refine z_istore_n 2 dX10_copy_1 rfl (by decide) ?_
  have k := key 0 (by omega) H (fun j h1 h2 => by exfalso; omega)
  rw [zup_self h hb] at k
  exact k
end MBASE
