/-! THE MODEL: the quick plan -/
/-- the model's when and began against the class's next there -/
def zQR (N : Nat) (D G V : Int → Int) (w : Int) (WH BG : Int → Int) : Prop := ∀ p : Int, 0 ≤ p → p ≤ N → (zkb w p = true → 0 ≤ WH p ∧ 0 ≤ BG p ∧ V p = WH p + BG p * G p + D p) ∧ (zkb w p = false → WH p = -9 ∧ BG p = 0)
/-- nothing else than when, began and a row has changed -/
def zQF (a : Nat) (h h' : zH) : Prop := (∀ b : Nat, b ≠ 122 → b ≠ 123 → b ≠ a → h'.1 b = h.1 b) ∧ h'.2 = h.2
theorem zQF.rf (a : Nat) (h : zH) : zQF a h h := ⟨fun _ _ _ _ => rfl, rfl⟩
theorem zQF.up {a : Nat} {h h' : zH} (k : zQF a h h') {b : Nat} (c : zE) (hb : b = 122 ∨ b = 123 ∨ b = a) : zQF a h (zup h' b c) := ⟨fun q h1 h2 h3 => by rw [zup_ne _ _ (by omega)]; exact k.1 q h1 h2 h3, k.2⟩
theorem zQF.mod {a : Nat} {h h' : zH} (k : zQF a h h') (ha : 112 ≤ a ∧ a ≤ 127) : zMod 112 127 h h' := ⟨fun q hq => k.1 q (by omega) (by omega) (by omega), k.2⟩
section MQUICK0
variable {D G V E P WH BG : Int → Int} {w : Int} {N M : Nat} {R : Int → Int}
theorem zQR.tell (hN : N ≤ 7) (hQR : zQR N D G V w WH BG) {t p : Int} (ht : 0 ≤ t ∧ t ≤ N) (hp : 0 ≤ p ∧ p ≤ N) (kt : zkb w t = true) (kp : zkb w p = false) (hV : 0 ≤ V t) : zQR N D G (ztV V D G t p) (zor w (zshl 1 p)) (zst WH p (WH t + BG t * G t + D t)) (zst BG t (BG t + 1)) := by
  have htp : t ≠ p := fun e => by rw [e, kp] at kt; exact absurd kt (by decide)
  obtain ⟨a1, a2, a3⟩ := (hQR t ht.1 ht.2).1 kt
  obtain ⟨b1, b2⟩ := (hQR p hp.1 hp.2).2 kp
  intro q h1 h2
  have ho : zkb (zor w (zshl 1 p)) q = (zkb w q || decide (q = p)) := zkb_or (by omega) (by omega)
  by_cases e1 : q = p
  · subst e1
    rw [zst_same, zst_ne _ _ (Ne.symm htp), b2, ztV_p, a3]
    refine ⟨fun _ => ⟨by omega, by omega, by omega⟩, fun k => ?_⟩
    rw [ho] at k; simp at k
  · rw [zst_ne _ _ e1]
    rw [show zkb (zor w (zshl 1 p)) q = zkb w q by rw [ho]; simp [e1]]
    by_cases e2 : q = t
    · subst e2
      rw [zst_same, ztV_a _ _ _ htp]
      refine ⟨fun _ => ⟨a1, by omega, by rw [a3, Int.add_mul]; omega⟩, fun k => ?_⟩
      rw [kt] at k; exact absurd k (by decide)
    · rw [zst_ne _ _ e2, ztV_q _ _ _ e1 e2]
      exact hQR q h1 h2
theorem zRo.cp (hR : zRo N M D G E P R) {F : Int → Int} (hF : ∀ i : Int, 0 ≤ i → i < 33 → F i = R i) (hN : N ≤ 7) : zRo N M D G E P F := by
  obtain ⟨r0, r1, r2, r3⟩ := hR
  refine ⟨?_, fun q q0 q1 => ⟨?_, ?_⟩, fun q q0 q1 => ?_, fun k hk => ?_⟩
  · rw [hF _ (by omega) (by omega)]; exact r0
  · rw [hF _ (by omega) (by omega)]; exact (r1 q q0 q1).1
  · rw [hF _ (by omega) (by omega)]; exact (r1 q q0 q1).2
  · rw [hF _ (by omega) (by omega)]; exact r2 q q0 q1
  · rw [hF _ (by omega) (by omega)]; exact r3 k hk
theorem zRo.qk (hR : zRo N M D G E P R) (hN : N ≤ 7) {p t : Int} (hp : 1 ≤ p ∧ p ≤ N) {i : Nat} (hi : i < N) : zRo N M D G (zst E p t) (zst P i p) (zst (zst R (17 + p) t) (25 + i) p) := by
  obtain ⟨r0, r1, r2, r3⟩ := hR
  refine ⟨?_, fun q q0 q1 => ⟨?_, ?_⟩, fun q q0 q1 => ?_, fun k hk => ?_⟩
  · rw [zst_ne _ _ (by omega), zst_ne _ _ (by omega)]; exact r0
  · rw [zst_ne _ _ (by omega), zst_ne _ _ (by omega)]; exact (r1 q q0 q1).1
  · rw [zst_ne _ _ (by omega), zst_ne _ _ (by omega)]; exact (r1 q q0 q1).2
  · rw [zst_ne _ _ (by omega)]
    by_cases e : q = p
    · subst e; rw [zst_same, zst_same]
    · rw [zst_ne _ _ (by omega), zst_ne _ _ e]; exact r2 q q0 q1
  · by_cases e : k = i
    · subst e; rw [zst_same, zst_same]
    · rw [zst_ne _ _ (by omega), zst_ne _ _ (by omega), zst_ne _ _ (by omega)]; exact r3 k hk
end MQUICK0
section MQUICK
variable {d : Nat} {h : zH} {Q : Option zV → zH → Prop} {N M : Nat} {D G E P R WH BG V : Int → Int} {w B : Int} {s : zMS} {a : Nat}
theorem c_X10_nextBegin {p : Int} (hob : h.1 112 = some (zMO s)) (hwh : h.1 122 = some (zI 8 WH)) (hbg : h.1 123 = some (zI 8 BG)) (hr : h.1 a = some (zI 33 R)) (hp : 0 ≤ p ∧ p < 8) (hQ : Q (some (vI (WH p + BG p * R (9 + p)))) h) : zC d mX10_nextBegin 0 0 [vR 112, vR a, vI p] h Q := by
  refine zC.of zpl_X10 (Nat.le_of_ble_eq_true rfl) ?_
  refine z_aload_n 1 dX10_nextBegin_0 rfl rfl ?_
  refine z_getf (ci := 10) 4 dX10_nextBegin_1 rfl rfl zin_10 15 (by decide) zw_779 (by first | with_reducible assumption | with_reducible exact zup_same _ _ _) rfl ?_
  refine z_iload_n 5 dX10_nextBegin_4 rfl rfl ?_
  refine z_iald 6 dX10_nextBegin_5 rfl (by first | with_reducible assumption | with_reducible exact zup_same _ _ _) (by omega) (by first | omega | exact zr_b _ | exact zr_and _ _ | exact zr_or _ _ | exact zr_shl _ _) ?_
  refine z_aload_n 7 dX10_nextBegin_6 rfl rfl ?_
  refine z_getf (ci := 10) 10 dX10_nextBegin_7 rfl rfl zin_10 16 (by decide) zw_780 (by first | with_reducible assumption | with_reducible exact zup_same _ _ _) rfl ?_
  refine z_iload_n 11 dX10_nextBegin_10 rfl rfl ?_
  refine z_iald 12 dX10_nextBegin_11 rfl (by first | with_reducible assumption | with_reducible exact zup_same _ _ _) (by omega) (by first | omega | exact zr_b _ | exact zr_and _ _ | exact zr_or _ _ | exact zr_shl _ _) ?_
  refine z_aload_n 13 dX10_nextBegin_12 rfl rfl ?_
  refine z_bipush 15 dX10_nextBegin_13 rfl (by decide) ?_
  refine z_iload_n 16 dX10_nextBegin_15 rfl rfl ?_
  refine z_iadd 17 dX10_nextBegin_16 rfl ?_
  refine z_iald 18 dX10_nextBegin_17 rfl (by first | with_reducible assumption | with_reducible exact zup_same _ _ _) (by omega) (by first | omega | exact zr_b _ | exact zr_and _ _ | exact zr_or _ _ | exact zr_shl _ _) ?_
  refine z_imul 19 dX10_nextBegin_18 rfl ?_
  refine z_iadd 20 dX10_nextBegin_19 rfl ?_
  refine z_ret dX10_nextBegin_20 (by first | exact True.intro | exact Or.inl rfl | exact Or.inr rfl | exact zb_01 _ | assumption | (show _ ∨ _; omega)) ⟨Nat.le_refl _, Nat.le_refl _⟩ ?_
  exact hQ
theorem c_X10_beginOne (hob : h.1 112 = some (zMO s)) (hwh : h.1 122 = some (zI 8 WH)) (hbg : h.1 123 = some (zI 8 BG)) (hQ : ∀ WH' BG' : Int → Int, WH' 0 = 0 → (∀ p : Int, 1 ≤ p → p < 8 → WH' p = -9) → (∀ p : Int, 0 ≤ p → p < 8 → BG' p = 0) → Q none (zup (zup h 122 (zI 8 WH')) 123 (zI 8 BG'))) : zC d mX10_beginOne 0 0 [vR 112] h Q := by
  have key : ∀ i : Nat, i ≤ 8 → ∀ WH' BG' : Int → Int, (0 < i → WH' 0 = 0) → (∀ p : Int, 1 ≤ p → p < i → WH' p = -9) → (∀ p : Int, 0 ≤ p → p < i → BG' p = 0) → Z d mX10_beginOne zo 2 [some (vR 112), some (vI i)] [] (zup (zup h 122 (zI 8 WH')) 123 (zI 8 BG')) Q := by
    refine z_loop 8 ?_ ?_
    · intro WH' BG' k1 k2 k3
      refine z_iload_n 3 dX10_beginOne_2 rfl rfl ?_
      refine z_bipush 5 dX10_beginOne_3 rfl (by decide) ?_
      refine z_icmp_ge 37 8 dX10_beginOne_5 (by decide) rfl (by first | omega | exact zr_b _ | exact zr_and _ _ | exact zr_or _ _ | exact zr_shl _ _) (by first | omega | exact zr_b _ | exact zr_and _ _ | exact zr_or _ _ | exact zr_shl _ _) (fun c5 => ?_) (fun c5 => ?_)
      · refine z_vret dX10_beginOne_37 (by first | exact True.intro | exact Or.inl rfl | exact Or.inr rfl | exact zb_01 _ | assumption | (show _ ∨ _; omega)) ⟨Nat.le_refl _, Nat.le_refl _⟩ ?_
        exact hQ WH' BG' (k1 (by omega)) k2 k3
      · exfalso; omega
    · intro i hi ih WH' BG' k1 k2 k3
      have w112 : (zup (zup h 122 (zI 8 WH')) 123 (zI 8 BG')).1 112 = some (zMO s) := by rw [zup_ne _ _ (by decide), zup_ne _ _ (by decide)]; exact hob
      have w122 : (zup (zup h 122 (zI 8 WH')) 123 (zI 8 BG')).1 122 = some (zI 8 WH') := by rw [zup_ne _ _ (by decide)]; exact zup_same _ _ _
      have x : ∀ v : Int, (zup (zup (zup h 122 (zI 8 WH')) 123 (zI 8 BG')) 122 (zI 8 (zst WH' i v))).1 112 = some (zMO s) := fun v => by rw [zup_ne _ _ (by decide)]; exact w112
      have x' : ∀ v : Int, (zup (zup (zup h 122 (zI 8 WH')) 123 (zI 8 BG')) 122 (zI 8 (zst WH' i v))).1 123 = some (zI 8 BG') := fun v => by rw [zup_ne _ _ (by decide)]; exact zup_same _ _ _
      have nx : ∀ v : Int, (i = 0 → v = 0) → (0 < i → v = -9) → Z d mX10_beginOne zo 2 [some (vR 112), some (vI ((i + 1 : Nat) : Int))] [] (zup (zup (zup (zup h 122 (zI 8 WH')) 123 (zI 8 BG')) 122 (zI 8 (zst WH' i v))) 123 (zI 8 (zst BG' i 0))) Q := fun v v0 v1 => by
        rw [zup_comm (zup h 122 (zI 8 WH')) _ _ (show (123 : Nat) ≠ 122 by decide), zup_zup, zup_zup]
        refine ih _ _ (fun _ => ?_) (fun p h1 h2 => ?_) (fun p h1 h2 => ?_)
        · by_cases e : i = 0
          · rw [e, show ((0 : Nat) : Int) = 0 from rfl, zst_same]; exact v0 e
          · rw [zst_ne _ _ (by omega)]; exact k1 (by omega)
        · by_cases e : p = i
          · rw [e, zst_same]; exact v1 (by omega)
          · rw [zst_ne _ _ e]; exact k2 p h1 (by omega)
        · by_cases e : p = i
          · rw [e, zst_same]
          · rw [zst_ne _ _ e]; exact k3 p h1 (by omega)
      have x0 := x 0
      have x9 := x (-9)
      have y0 := x' 0
      have y9 := x' (-9)
      refine z_iload_n 3 dX10_beginOne_2 rfl rfl ?_
      refine z_bipush 5 dX10_beginOne_3 rfl (by decide) ?_
      refine z_icmp_ge 37 8 dX10_beginOne_5 (by decide) rfl (by first | omega | exact zr_b _ | exact zr_and _ _ | exact zr_or _ _ | exact zr_shl _ _) (by first | omega | exact zr_b _ | exact zr_and _ _ | exact zr_or _ _ | exact zr_shl _ _) (fun c5 => ?_) (fun c5 => ?_)
      · exfalso; omega
      · refine z_aload_n 9 dX10_beginOne_8 rfl rfl ?_
        refine z_getf (ci := 10) 12 dX10_beginOne_9 rfl rfl zin_10 15 (by decide) zw_779 (by first | with_reducible assumption | with_reducible exact zup_same _ _ _) rfl ?_
        refine z_iload_n 13 dX10_beginOne_12 rfl rfl ?_
        refine z_iload_n 14 dX10_beginOne_13 rfl rfl ?_
        refine z_if_ne 21 17 dX10_beginOne_14 (by decide) rfl (by first | omega | exact zr_b _ | exact zr_and _ _ | exact zr_or _ _ | exact zr_shl _ _) (fun c14 => ?_) (fun c14 => ?_)
        · try replace c14 := zb_1 c14
          refine z_bipush 23 dX10_beginOne_21 rfl (by decide) ?_
          refine z_iast 24 dX10_beginOne_23 rfl (by omega) (by first | with_reducible assumption | with_reducible exact zup_same _ _ _) (by omega) (by first | omega | exact zr_b _ | exact zr_and _ _ | exact zr_or _ _ | exact zr_shl _ _) ?_
          refine z_aload_n 25 dX10_beginOne_24 rfl rfl ?_
          refine z_getf (ci := 10) 28 dX10_beginOne_25 rfl rfl zin_10 16 (by decide) zw_780 (by first | with_reducible assumption | with_reducible exact zup_same _ _ _) rfl ?_
          refine z_iload_n 29 dX10_beginOne_28 rfl rfl ?_
          refine z_iconst 30 dX10_beginOne_29 rfl ?_
          refine z_iast 31 dX10_beginOne_30 rfl (by omega) (by first | with_reducible assumption | with_reducible exact zup_same _ _ _) (by omega) (by first | omega | exact zr_b _ | exact zr_and _ _ | exact zr_or _ _ | exact zr_shl _ _) ?_
          refine z_iinc 34 dX10_beginOne_31 rfl (by decide) rfl ?_
          refine z_goto 2 dX10_beginOne_34 (by decide) ?_
          exact nx _ (fun e => by omega) (fun e => by omega)
        · try replace c14 := zb_0 c14
          refine z_iconst 18 dX10_beginOne_17 rfl ?_
          refine z_goto 23 dX10_beginOne_18 (by decide) ?_
          refine z_iast 24 dX10_beginOne_23 rfl (by omega) (by first | with_reducible assumption | with_reducible exact zup_same _ _ _) (by omega) (by first | omega | exact zr_b _ | exact zr_and _ _ | exact zr_or _ _ | exact zr_shl _ _) ?_
          refine z_aload_n 25 dX10_beginOne_24 rfl rfl ?_
          refine z_getf (ci := 10) 28 dX10_beginOne_25 rfl rfl zin_10 16 (by decide) zw_780 (by first | with_reducible assumption | with_reducible exact zup_same _ _ _) rfl ?_
          refine z_iload_n 29 dX10_beginOne_28 rfl rfl ?_
          refine z_iconst 30 dX10_beginOne_29 rfl ?_
          refine z_iast 31 dX10_beginOne_30 rfl (by omega) (by first | with_reducible assumption | with_reducible exact zup_same _ _ _) (by omega) (by first | omega | exact zr_b _ | exact zr_and _ _ | exact zr_or _ _ | exact zr_shl _ _) ?_
          refine z_iinc 34 dX10_beginOne_31 rfl (by decide) rfl ?_
          refine z_goto 2 dX10_beginOne_34 (by decide) ?_
          exact nx _ (fun e => by omega) (fun e => by omega)
  refine zC.of zpl_X10 (Nat.le_of_ble_eq_true rfl) ?_
  refine z_iconst 1 dX10_beginOne_0 rfl ?_
  refine z_istore_n 2 dX10_beginOne_1 rfl (by decide) ?_
  have k := key 0 (by omega) WH BG (fun e => absurd e (by omega)) (fun p h1 h2 => by exfalso; omega) (fun p h1 h2 => by exfalso; omega)
  rw [zup_self h hwh, zup_self h hbg] at k
  exact k
theorem c_X10_tell {t p : Int} (hob : h.1 112 = some (zMO s)) (hwh : h.1 122 = some (zI 8 WH)) (hbg : h.1 123 = some (zI 8 BG)) (hr : h.1 a = some (zI 33 R)) (ha : a ≠ 122 ∧ a ≠ 123) (ht : 0 ≤ t ∧ t < 8) (hp : 0 ≤ p ∧ p < 8) (hQ : Q (some (vI (WH t + BG t * R (9 + t) + R (1 + t)))) (zup (zup h 122 (zI 8 (zst WH p (WH t + BG t * R (9 + t) + R (1 + t))))) 123 (zI 8 (zst BG t (BG t + 1))))) : zC (d + 1) mX10_tell 0 0 [vR 112, vR a, vI t, vI p] h Q := by
  refine zC.of zpl_X10 (Nat.le_of_ble_eq_true rfl) ?_
  refine z_aload_n 1 dX10_tell_0 rfl rfl ?_
  refine z_getf (ci := 10) 4 dX10_tell_1 rfl rfl zin_10 15 (by decide) zw_779 (by first | with_reducible assumption | with_reducible exact zup_same _ _ _) rfl ?_
  refine z_iload_n 5 dX10_tell_4 rfl rfl ?_
  refine z_aload_n 6 dX10_tell_5 rfl rfl ?_
  refine z_aload_n 7 dX10_tell_6 rfl rfl ?_
  refine z_iload_n 8 dX10_tell_7 rfl rfl ?_
  refine z_cV2 11 dX10_tell_8 rfl kX10_nextBegin zw_915 (Nat.le_of_ble_eq_true rfl) ⟨Nat.le_refl _, Nat.le_refl _⟩ (by first | with_reducible assumption | with_reducible exact zup_same _ _ _) ?_
  refine c_X10_nextBegin hob hwh hbg hr ht ?_
  refine z_aload_n 12 dX10_tell_11 rfl rfl ?_
  refine z_iconst 13 dX10_tell_12 rfl ?_
  refine z_iload_n 14 dX10_tell_13 rfl rfl ?_
  refine z_iadd 15 dX10_tell_14 rfl ?_
  refine z_iald 16 dX10_tell_15 rfl (by first | with_reducible assumption | with_reducible exact zup_same _ _ _) (by omega) (by first | omega | exact zr_b _ | exact zr_and _ _ | exact zr_or _ _ | exact zr_shl _ _) ?_
  refine z_iadd 17 dX10_tell_16 rfl ?_
  refine z_iast 18 dX10_tell_17 rfl (by omega) (by first | with_reducible assumption | with_reducible exact zup_same _ _ _) (by omega) (by first | omega | exact zr_b _ | exact zr_and _ _ | exact zr_or _ _ | exact zr_shl _ _) ?_
  generalize hX : WH t + BG t * R (9 + t) + R (1 + t) = X at hQ ⊢
  have x112 : (zup h 122 (zI 8 (zst WH p X))).1 112 = some (zMO s) := by rw [zup_ne _ _ (by decide)]; exact hob
  have x123 : (zup h 122 (zI 8 (zst WH p X))).1 123 = some (zI 8 BG) := by rw [zup_ne _ _ (by decide)]; exact hbg
  refine z_aload_n 19 dX10_tell_18 rfl rfl ?_
  refine z_getf (ci := 10) 22 dX10_tell_19 rfl rfl zin_10 16 (by decide) zw_780 (by first | with_reducible assumption | with_reducible exact zup_same _ _ _) rfl ?_
  refine z_iload_n 23 dX10_tell_22 rfl rfl ?_
  refine z_dup2 24 dX10_tell_23 rfl ?_
  refine z_iald 25 dX10_tell_24 rfl (by first | with_reducible assumption | with_reducible exact zup_same _ _ _) (by omega) (by first | omega | exact zr_b _ | exact zr_and _ _ | exact zr_or _ _ | exact zr_shl _ _) ?_
  refine z_iconst 26 dX10_tell_25 rfl ?_
  refine z_iadd 27 dX10_tell_26 rfl ?_
  refine z_iast 28 dX10_tell_27 rfl (by omega) (by first | with_reducible assumption | with_reducible exact zup_same _ _ _) (by omega) (by first | omega | exact zr_b _ | exact zr_and _ _ | exact zr_or _ _ | exact zr_shl _ _) ?_
  have y112 : (zup (zup h 122 (zI 8 (zst WH p X))) 123 (zI 8 (zst BG t (BG t + 1)))).1 112 = some (zMO s) := by rw [zup_ne _ _ (by decide)]; exact x112
  have y122 : (zup (zup h 122 (zI 8 (zst WH p X))) 123 (zI 8 (zst BG t (BG t + 1)))).1 122 = some (zI 8 (zst WH p X)) := by rw [zup_ne _ _ (by decide)]; exact zup_same _ _ _
  refine z_aload_n 29 dX10_tell_28 rfl rfl ?_
  refine z_getf (ci := 10) 32 dX10_tell_29 rfl rfl zin_10 15 (by decide) zw_779 (by first | with_reducible assumption | with_reducible exact zup_same _ _ _) rfl ?_
  refine z_iload_n 33 dX10_tell_32 rfl rfl ?_
  refine z_iald 34 dX10_tell_33 rfl (by first | with_reducible assumption | with_reducible exact zup_same _ _ _) (by omega) (by first | omega | exact zr_b _ | exact zr_and _ _ | exact zr_or _ _ | exact zr_shl _ _) ?_
  rw [zst_same]
  refine z_ret dX10_tell_34 (by first | exact True.intro | exact Or.inl rfl | exact Or.inr rfl | exact zb_01 _ | assumption | (show _ ∨ _; omega)) ⟨Nat.le_refl _, Nat.le_refl _⟩ ?_
  exact hQ
theorem c_X10_soonest (hob : h.1 112 = some (zMO s)) (hn : s.n = ((N + 1 : Nat) : Int)) (hwh : h.1 122 = some (zI 8 WH)) (hbg : h.1 123 = some (zI 8 BG)) (hr : h.1 a = some (zI 33 R)) (hR : ∀ p : Int, 0 ≤ p → p ≤ N → R (1 + p) = D p ∧ R (9 + p) = G p) (hN : N ≤ 7) (hQR : zQR N D G V w WH BG) (hk0 : zkb w 0 = true) (hB : ∀ p : Int, 0 ≤ p → p ≤ N → zkb w p = true → 0 ≤ V p ∧ V p ≤ 100000 ∧ 0 ≤ WH p ∧ WH p ≤ 100000) (hQ : Q (some (vI (zsoon V w N))) h) : zC (d + 1) mX10_soonest 0 0 [vR 112, vR a] h Q := by
  have key : ∀ i : Nat, i ≤ N → ∀ o4 : Option zV, Z (d + 1) mX10_soonest zo 4 [some (vR 112), some (vR a), some (vI (zsoon V w i)), some (vI ((i + 1 : Nat) : Int)), o4] [] h Q := by
    refine z_loop N ?_ ?_
    · intro o4
      refine z_iload_n 5 dX10_soonest_4 rfl rfl ?_
      refine z_aload_n 6 dX10_soonest_5 rfl rfl ?_
      refine z_getf (ci := 10) 9 dX10_soonest_6 rfl rfl zin_10 2 (by decide) zw_766 (by first | with_reducible assumption | with_reducible exact zup_same _ _ _) rfl ?_
      rw [hn]
      refine z_icmp_ge 74 12 dX10_soonest_9 (by decide) rfl (by first | omega | exact zr_b _ | exact zr_and _ _ | exact zr_or _ _ | exact zr_shl _ _) (by first | omega | exact zr_b _ | exact zr_and _ _ | exact zr_or _ _ | exact zr_shl _ _) (fun c9 => ?_) (fun c9 => ?_)
      · refine z_iload_n 75 dX10_soonest_74 rfl rfl ?_
        refine z_ret dX10_soonest_75 (by first | exact True.intro | exact Or.inl rfl | exact Or.inr rfl | exact zb_01 _ | assumption | (show _ ∨ _; omega)) ⟨Nat.le_refl _, Nat.le_refl _⟩ ?_
        exact hQ
      · exfalso; omega
    · intro i hi ih o4
      have hl := zsoon_le V w i
      have hkn := zsoon_kn (V := V) hk0 i
      have hb := hB (zsoon V w i) (by omega) (by omega) hkn
      have r1 := hR (zsoon V w i) (by omega) (by omega)
      have r2 := hR ((i + 1 : Nat) : Int) (by omega) (by omega)
      have q1 := (hQR (zsoon V w i) (by omega) (by omega)).1 hkn
      have q2 := hQR ((i + 1 : Nat) : Int) (by omega) (by omega)
      cases hz : zkb w ((i + 1 : Nat) : Int) with
      | false =>
        have q3 := q2.2 hz
        rw [show zsoon V w (i + 1) = zsoon V w i from if_neg (fun q => by rw [hz] at q; exact absurd q.1 (by decide))] at ih
        refine z_iload_n 5 dX10_soonest_4 rfl rfl ?_
        refine z_aload_n 6 dX10_soonest_5 rfl rfl ?_
        refine z_getf (ci := 10) 9 dX10_soonest_6 rfl rfl zin_10 2 (by decide) zw_766 (by first | with_reducible assumption | with_reducible exact zup_same _ _ _) rfl ?_
        rw [hn]
        refine z_icmp_ge 74 12 dX10_soonest_9 (by decide) rfl (by first | omega | exact zr_b _ | exact zr_and _ _ | exact zr_or _ _ | exact zr_shl _ _) (by first | omega | exact zr_b _ | exact zr_and _ _ | exact zr_or _ _ | exact zr_shl _ _) (fun c9 => ?_) (fun c9 => ?_)
        · exfalso; omega
        · refine z_aload_n 13 dX10_soonest_12 rfl rfl ?_
          refine z_getf (ci := 10) 16 dX10_soonest_13 rfl rfl zin_10 15 (by decide) zw_779 (by first | with_reducible assumption | with_reducible exact zup_same _ _ _) rfl ?_
          refine z_iload_n 17 dX10_soonest_16 rfl rfl ?_
          refine z_iald 18 dX10_soonest_17 rfl (by first | with_reducible assumption | with_reducible exact zup_same _ _ _) (by omega) (by first | omega | exact zr_b _ | exact zr_and _ _ | exact zr_or _ _ | exact zr_shl _ _) ?_
          rw [q3.1]
          refine z_bipush 20 dX10_soonest_18 rfl (by decide) ?_
          refine z_icmp_eq 54 23 dX10_soonest_20 (by decide) rfl (by first | omega | exact zr_b _ | exact zr_and _ _ | exact zr_or _ _ | exact zr_shl _ _) (by first | omega | exact zr_b _ | exact zr_and _ _ | exact zr_or _ _ | exact zr_shl _ _) (fun c20 => ?_) (fun c20 => ?_)
          · refine z_iconst 55 dX10_soonest_54 rfl ?_
            refine z_istore 57 dX10_soonest_55 rfl (by decide) ?_
            refine z_iload 59 dX10_soonest_57 rfl rfl ?_
            refine z_if_eq 66 62 dX10_soonest_59 (by decide) rfl (by first | omega | exact zr_b _ | exact zr_and _ _ | exact zr_or _ _ | exact zr_shl _ _) (fun c59 => ?_) (fun c59 => ?_)
            · try replace c59 := zb_0 c59
              refine z_iload_n 67 dX10_soonest_66 rfl rfl ?_
              refine z_istore_n 68 dX10_soonest_67 rfl (by decide) ?_
              refine z_iinc 71 dX10_soonest_68 rfl (by decide) rfl ?_
              refine z_goto 4 dX10_soonest_71 (by decide) ?_
              exact ih _
            · exact absurd c59 (by decide)
          · exfalso; omega
      | true =>
        have q3 := q2.1 hz
        have hb2 := hB ((i + 1 : Nat) : Int) (by omega) (by omega) hz
        have e1 : WH ((i + 1 : Nat) : Int) + BG ((i + 1 : Nat) : Int) * R (9 + ((i + 1 : Nat) : Int)) + R (1 + ((i + 1 : Nat) : Int)) = V ((i + 1 : Nat) : Int) := by rw [r2.1, r2.2, q3.2.2]
        have e2 : WH (zsoon V w i) + BG (zsoon V w i) * R (9 + zsoon V w i) + R (1 + zsoon V w i) = V (zsoon V w i) := by rw [r1.1, r1.2, q1.2.2]
        by_cases c : V ((i + 1 : Nat) : Int) < V (zsoon V w i)
        · rw [show zsoon V w (i + 1) = ((i + 1 : Nat) : Int) from if_pos ⟨hz, c⟩] at ih
          refine z_iload_n 5 dX10_soonest_4 rfl rfl ?_
          refine z_aload_n 6 dX10_soonest_5 rfl rfl ?_
          refine z_getf (ci := 10) 9 dX10_soonest_6 rfl rfl zin_10 2 (by decide) zw_766 (by first | with_reducible assumption | with_reducible exact zup_same _ _ _) rfl ?_
          rw [hn]
          refine z_icmp_ge 74 12 dX10_soonest_9 (by decide) rfl (by first | omega | exact zr_b _ | exact zr_and _ _ | exact zr_or _ _ | exact zr_shl _ _) (by first | omega | exact zr_b _ | exact zr_and _ _ | exact zr_or _ _ | exact zr_shl _ _) (fun c9 => ?_) (fun c9 => ?_)
          · exfalso; omega
          · refine z_aload_n 13 dX10_soonest_12 rfl rfl ?_
            refine z_getf (ci := 10) 16 dX10_soonest_13 rfl rfl zin_10 15 (by decide) zw_779 (by first | with_reducible assumption | with_reducible exact zup_same _ _ _) rfl ?_
            refine z_iload_n 17 dX10_soonest_16 rfl rfl ?_
            refine z_iald 18 dX10_soonest_17 rfl (by first | with_reducible assumption | with_reducible exact zup_same _ _ _) (by omega) (by first | omega | exact zr_b _ | exact zr_and _ _ | exact zr_or _ _ | exact zr_shl _ _) ?_
            refine z_bipush 20 dX10_soonest_18 rfl (by decide) ?_
            refine z_icmp_eq 54 23 dX10_soonest_20 (by decide) rfl (by first | omega | exact zr_b _ | exact zr_and _ _ | exact zr_or _ _ | exact zr_shl _ _) (by first | omega | exact zr_b _ | exact zr_and _ _ | exact zr_or _ _ | exact zr_shl _ _) (fun c20 => ?_) (fun c20 => ?_)
            · exfalso; omega
            · refine z_aload_n 24 dX10_soonest_23 rfl rfl ?_
              refine z_aload_n 25 dX10_soonest_24 rfl rfl ?_
              refine z_iload_n 26 dX10_soonest_25 rfl rfl ?_
              refine z_cV2 29 dX10_soonest_26 rfl kX10_nextBegin zw_915 (Nat.le_of_ble_eq_true rfl) ⟨Nat.le_refl _, Nat.le_refl _⟩ (by first | with_reducible assumption | with_reducible exact zup_same _ _ _) ?_
              refine c_X10_nextBegin hob hwh hbg hr (by omega) ?_
              refine z_aload_n 30 dX10_soonest_29 rfl rfl ?_
              refine z_iconst 31 dX10_soonest_30 rfl ?_
              refine z_iload_n 32 dX10_soonest_31 rfl rfl ?_
              refine z_iadd 33 dX10_soonest_32 rfl ?_
              refine z_iald 34 dX10_soonest_33 rfl (by first | with_reducible assumption | with_reducible exact zup_same _ _ _) (by omega) (by first | omega | exact zr_b _ | exact zr_and _ _ | exact zr_or _ _ | exact zr_shl _ _) ?_
              refine z_iadd 35 dX10_soonest_34 rfl ?_
              rw [e1]
              refine z_aload_n 36 dX10_soonest_35 rfl rfl ?_
              refine z_aload_n 37 dX10_soonest_36 rfl rfl ?_
              refine z_iload_n 38 dX10_soonest_37 rfl rfl ?_
              refine z_cV2 41 dX10_soonest_38 rfl kX10_nextBegin zw_915 (Nat.le_of_ble_eq_true rfl) ⟨Nat.le_refl _, Nat.le_refl _⟩ (by first | with_reducible assumption | with_reducible exact zup_same _ _ _) ?_
              refine c_X10_nextBegin hob hwh hbg hr (by omega) ?_
              refine z_aload_n 42 dX10_soonest_41 rfl rfl ?_
              refine z_iconst 43 dX10_soonest_42 rfl ?_
              refine z_iload_n 44 dX10_soonest_43 rfl rfl ?_
              refine z_iadd 45 dX10_soonest_44 rfl ?_
              refine z_iald 46 dX10_soonest_45 rfl (by first | with_reducible assumption | with_reducible exact zup_same _ _ _) (by omega) (by first | omega | exact zr_b _ | exact zr_and _ _ | exact zr_or _ _ | exact zr_shl _ _) ?_
              refine z_iadd 47 dX10_soonest_46 rfl ?_
              rw [e2]
              refine z_icmp_ge 54 50 dX10_soonest_47 (by decide) rfl (by first | omega | exact zr_b _ | exact zr_and _ _ | exact zr_or _ _ | exact zr_shl _ _) (by first | omega | exact zr_b _ | exact zr_and _ _ | exact zr_or _ _ | exact zr_shl _ _) (fun c47 => ?_) (fun c47 => ?_)
              · exfalso; omega
              · refine z_iconst 51 dX10_soonest_50 rfl ?_
                refine z_goto 55 dX10_soonest_51 (by decide) ?_
                refine z_istore 57 dX10_soonest_55 rfl (by decide) ?_
                refine z_iload 59 dX10_soonest_57 rfl rfl ?_
                refine z_if_eq 66 62 dX10_soonest_59 (by decide) rfl (by first | omega | exact zr_b _ | exact zr_and _ _ | exact zr_or _ _ | exact zr_shl _ _) (fun c59 => ?_) (fun c59 => ?_)
                · exact absurd c59 (by decide)
                · try replace c59 := zb_1 c59
                  refine z_iload_n 63 dX10_soonest_62 rfl rfl ?_
                  refine z_goto 67 dX10_soonest_63 (by decide) ?_
                  refine z_istore_n 68 dX10_soonest_67 rfl (by decide) ?_
                  refine z_iinc 71 dX10_soonest_68 rfl (by decide) rfl ?_
                  refine z_goto 4 dX10_soonest_71 (by decide) ?_
                  exact ih _
        · rw [show zsoon V w (i + 1) = zsoon V w i from if_neg (fun q => c q.2)] at ih
          refine z_iload_n 5 dX10_soonest_4 rfl rfl ?_
          refine z_aload_n 6 dX10_soonest_5 rfl rfl ?_
          refine z_getf (ci := 10) 9 dX10_soonest_6 rfl rfl zin_10 2 (by decide) zw_766 (by first | with_reducible assumption | with_reducible exact zup_same _ _ _) rfl ?_
          rw [hn]
          refine z_icmp_ge 74 12 dX10_soonest_9 (by decide) rfl (by first | omega | exact zr_b _ | exact zr_and _ _ | exact zr_or _ _ | exact zr_shl _ _) (by first | omega | exact zr_b _ | exact zr_and _ _ | exact zr_or _ _ | exact zr_shl _ _) (fun c9 => ?_) (fun c9 => ?_)
          · exfalso; omega
          · refine z_aload_n 13 dX10_soonest_12 rfl rfl ?_
            refine z_getf (ci := 10) 16 dX10_soonest_13 rfl rfl zin_10 15 (by decide) zw_779 (by first | with_reducible assumption | with_reducible exact zup_same _ _ _) rfl ?_
            refine z_iload_n 17 dX10_soonest_16 rfl rfl ?_
            refine z_iald 18 dX10_soonest_17 rfl (by first | with_reducible assumption | with_reducible exact zup_same _ _ _) (by omega) (by first | omega | exact zr_b _ | exact zr_and _ _ | exact zr_or _ _ | exact zr_shl _ _) ?_
            refine z_bipush 20 dX10_soonest_18 rfl (by decide) ?_
            refine z_icmp_eq 54 23 dX10_soonest_20 (by decide) rfl (by first | omega | exact zr_b _ | exact zr_and _ _ | exact zr_or _ _ | exact zr_shl _ _) (by first | omega | exact zr_b _ | exact zr_and _ _ | exact zr_or _ _ | exact zr_shl _ _) (fun c20 => ?_) (fun c20 => ?_)
            · exfalso; omega
            · refine z_aload_n 24 dX10_soonest_23 rfl rfl ?_
              refine z_aload_n 25 dX10_soonest_24 rfl rfl ?_
              refine z_iload_n 26 dX10_soonest_25 rfl rfl ?_
              refine z_cV2 29 dX10_soonest_26 rfl kX10_nextBegin zw_915 (Nat.le_of_ble_eq_true rfl) ⟨Nat.le_refl _, Nat.le_refl _⟩ (by first | with_reducible assumption | with_reducible exact zup_same _ _ _) ?_
              refine c_X10_nextBegin hob hwh hbg hr (by omega) ?_
              refine z_aload_n 30 dX10_soonest_29 rfl rfl ?_
              refine z_iconst 31 dX10_soonest_30 rfl ?_
              refine z_iload_n 32 dX10_soonest_31 rfl rfl ?_
              refine z_iadd 33 dX10_soonest_32 rfl ?_
              refine z_iald 34 dX10_soonest_33 rfl (by first | with_reducible assumption | with_reducible exact zup_same _ _ _) (by omega) (by first | omega | exact zr_b _ | exact zr_and _ _ | exact zr_or _ _ | exact zr_shl _ _) ?_
              refine z_iadd 35 dX10_soonest_34 rfl ?_
              rw [e1]
              refine z_aload_n 36 dX10_soonest_35 rfl rfl ?_
              refine z_aload_n 37 dX10_soonest_36 rfl rfl ?_
              refine z_iload_n 38 dX10_soonest_37 rfl rfl ?_
              refine z_cV2 41 dX10_soonest_38 rfl kX10_nextBegin zw_915 (Nat.le_of_ble_eq_true rfl) ⟨Nat.le_refl _, Nat.le_refl _⟩ (by first | with_reducible assumption | with_reducible exact zup_same _ _ _) ?_
              refine c_X10_nextBegin hob hwh hbg hr (by omega) ?_
              refine z_aload_n 42 dX10_soonest_41 rfl rfl ?_
              refine z_iconst 43 dX10_soonest_42 rfl ?_
              refine z_iload_n 44 dX10_soonest_43 rfl rfl ?_
              refine z_iadd 45 dX10_soonest_44 rfl ?_
              refine z_iald 46 dX10_soonest_45 rfl (by first | with_reducible assumption | with_reducible exact zup_same _ _ _) (by omega) (by first | omega | exact zr_b _ | exact zr_and _ _ | exact zr_or _ _ | exact zr_shl _ _) ?_
              refine z_iadd 47 dX10_soonest_46 rfl ?_
              rw [e2]
              refine z_icmp_ge 54 50 dX10_soonest_47 (by decide) rfl (by first | omega | exact zr_b _ | exact zr_and _ _ | exact zr_or _ _ | exact zr_shl _ _) (by first | omega | exact zr_b _ | exact zr_and _ _ | exact zr_or _ _ | exact zr_shl _ _) (fun c47 => ?_) (fun c47 => ?_)
              · refine z_iconst 55 dX10_soonest_54 rfl ?_
                refine z_istore 57 dX10_soonest_55 rfl (by decide) ?_
                refine z_iload 59 dX10_soonest_57 rfl rfl ?_
                refine z_if_eq 66 62 dX10_soonest_59 (by decide) rfl (by first | omega | exact zr_b _ | exact zr_and _ _ | exact zr_or _ _ | exact zr_shl _ _) (fun c59 => ?_) (fun c59 => ?_)
                · try replace c59 := zb_0 c59
                  refine z_iload_n 67 dX10_soonest_66 rfl rfl ?_
                  refine z_istore_n 68 dX10_soonest_67 rfl (by decide) ?_
                  refine z_iinc 71 dX10_soonest_68 rfl (by decide) rfl ?_
                  refine z_goto 4 dX10_soonest_71 (by decide) ?_
                  exact ih _
                · exact absurd c59 (by decide)
              · exfalso; omega
  refine zC.of zpl_X10 (Nat.le_of_ble_eq_true rfl) ?_
  refine z_iconst 1 dX10_soonest_0 rfl ?_
  refine z_istore_n 2 dX10_soonest_1 rfl (by decide) ?_
  refine z_iconst 3 dX10_soonest_2 rfl ?_
  refine z_istore_n 4 dX10_soonest_3 rfl (by decide) ?_
  exact key 0 (Nat.zero_le _) _
theorem c_X10_quickest (hob : h.1 112 = some (zMO s)) (hn : s.n = ((N + 1 : Nat) : Int)) (hwh : h.1 122 = some (zI 8 WH)) (hr : h.1 a = some (zI 33 R)) (hR : ∀ p : Int, 0 ≤ p → p ≤ N → R (1 + p) = D p ∧ R (9 + p) = G p) (hN : N ≤ 7) (hd : ∀ p : Int, 0 ≤ p → p ≤ N → 1 ≤ D p ∧ D p ≤ 100 ∧ 1 ≤ G p ∧ G p ≤ 5) (hK : ∀ p : Int, 0 ≤ p → p ≤ N → (zkb w p = true → 0 ≤ WH p ∧ WH p ≤ 100000) ∧ (zkb w p = false → WH p = -9)) (hQ : Q (some (vI (if zlst D G w N = 0 then -9 else zlst D G w N))) h) : zC (d + 1) mX10_quickest 0 0 [vR 112, vR a] h Q := by
  have key : ∀ i : Nat, i ≤ N → ∀ o4 : Option zV, Z (d + 1) mX10_quickest zo 5 [some (vR 112), some (vR a), some (vI (if zlst D G w i = 0 then -9 else zlst D G w i)), some (vI ((i + 1 : Nat) : Int)), o4] [] h Q := by
    refine z_loop N ?_ ?_
    · intro o4
      refine z_iload_n 6 dX10_quickest_5 rfl rfl ?_
      refine z_aload_n 7 dX10_quickest_6 rfl rfl ?_
      refine z_getf (ci := 10) 10 dX10_quickest_7 rfl rfl zin_10 2 (by decide) zw_766 (by first | with_reducible assumption | with_reducible exact zup_same _ _ _) rfl ?_
      rw [hn]
      refine z_icmp_ge 79 13 dX10_quickest_10 (by decide) rfl (by first | omega | exact zr_b _ | exact zr_and _ _ | exact zr_or _ _ | exact zr_shl _ _) (by first | omega | exact zr_b _ | exact zr_and _ _ | exact zr_or _ _ | exact zr_shl _ _) (fun c10 => ?_) (fun c10 => ?_)
      · refine z_iload_n 80 dX10_quickest_79 rfl rfl ?_
        refine z_ret dX10_quickest_80 (by first | exact True.intro | exact Or.inl rfl | exact Or.inr rfl | exact zb_01 _ | assumption | (show _ ∨ _; omega)) ⟨Nat.le_refl _, Nat.le_refl _⟩ ?_
        exact hQ
      · exfalso; omega
    · intro i hi ih o4
      have hl := zlst_le D G w i
      have r2 := hR ((i + 1 : Nat) : Int) (by omega) (by omega)
      have d2 := hd ((i + 1 : Nat) : Int) (by omega) (by omega)
      have k2 := hK ((i + 1 : Nat) : Int) (by omega) (by omega)
      cases hz : zkb w ((i + 1 : Nat) : Int) with
      | true =>
        have q3 := k2.1 hz
        rw [show zlst D G w (i + 1) = zlst D G w i from if_neg (fun q => by rw [hz] at q; exact absurd q.1 (by decide))] at ih
        refine z_iload_n 6 dX10_quickest_5 rfl rfl ?_
        refine z_aload_n 7 dX10_quickest_6 rfl rfl ?_
        refine z_getf (ci := 10) 10 dX10_quickest_7 rfl rfl zin_10 2 (by decide) zw_766 (by first | with_reducible assumption | with_reducible exact zup_same _ _ _) rfl ?_
        rw [hn]
        refine z_icmp_ge 79 13 dX10_quickest_10 (by decide) rfl (by first | omega | exact zr_b _ | exact zr_and _ _ | exact zr_or _ _ | exact zr_shl _ _) (by first | omega | exact zr_b _ | exact zr_and _ _ | exact zr_or _ _ | exact zr_shl _ _) (fun c10 => ?_) (fun c10 => ?_)
        · exfalso; omega
        · refine z_aload_n 14 dX10_quickest_13 rfl rfl ?_
          refine z_getf (ci := 10) 17 dX10_quickest_14 rfl rfl zin_10 15 (by decide) zw_779 (by first | with_reducible assumption | with_reducible exact zup_same _ _ _) rfl ?_
          refine z_iload_n 18 dX10_quickest_17 rfl rfl ?_
          refine z_iald 19 dX10_quickest_18 rfl (by first | with_reducible assumption | with_reducible exact zup_same _ _ _) (by omega) (by first | omega | exact zr_b _ | exact zr_and _ _ | exact zr_or _ _ | exact zr_shl _ _) ?_
          refine z_bipush 21 dX10_quickest_19 rfl (by decide) ?_
          refine z_icmp_ne 73 24 dX10_quickest_21 (by decide) rfl (by first | omega | exact zr_b _ | exact zr_and _ _ | exact zr_or _ _ | exact zr_shl _ _) (by first | omega | exact zr_b _ | exact zr_and _ _ | exact zr_or _ _ | exact zr_shl _ _) (fun c21 => ?_) (fun c21 => ?_)
          · refine z_iinc 76 dX10_quickest_73 rfl (by decide) rfl ?_
            refine z_goto 5 dX10_quickest_76 (by decide) ?_
            exact ih _
          · exfalso; omega
      | false =>
        have q3 := k2.2 hz
        by_cases e0 : zlst D G w i = 0
        · rw [show zlst D G w (i + 1) = ((i + 1 : Nat) : Int) from if_pos ⟨hz, Or.inl e0⟩, if_neg (by omega)] at ih
          rw [if_pos e0]
          refine z_iload_n 6 dX10_quickest_5 rfl rfl ?_
          refine z_aload_n 7 dX10_quickest_6 rfl rfl ?_
          refine z_getf (ci := 10) 10 dX10_quickest_7 rfl rfl zin_10 2 (by decide) zw_766 (by first | with_reducible assumption | with_reducible exact zup_same _ _ _) rfl ?_
          rw [hn]
          refine z_icmp_ge 79 13 dX10_quickest_10 (by decide) rfl (by first | omega | exact zr_b _ | exact zr_and _ _ | exact zr_or _ _ | exact zr_shl _ _) (by first | omega | exact zr_b _ | exact zr_and _ _ | exact zr_or _ _ | exact zr_shl _ _) (fun c10 => ?_) (fun c10 => ?_)
          · exfalso; omega
          · refine z_aload_n 14 dX10_quickest_13 rfl rfl ?_
            refine z_getf (ci := 10) 17 dX10_quickest_14 rfl rfl zin_10 15 (by decide) zw_779 (by first | with_reducible assumption | with_reducible exact zup_same _ _ _) rfl ?_
            refine z_iload_n 18 dX10_quickest_17 rfl rfl ?_
            refine z_iald 19 dX10_quickest_18 rfl (by first | with_reducible assumption | with_reducible exact zup_same _ _ _) (by omega) (by first | omega | exact zr_b _ | exact zr_and _ _ | exact zr_or _ _ | exact zr_shl _ _) ?_
            rw [q3]
            refine z_bipush 21 dX10_quickest_19 rfl (by decide) ?_
            refine z_icmp_ne 73 24 dX10_quickest_21 (by decide) rfl (by first | omega | exact zr_b _ | exact zr_and _ _ | exact zr_or _ _ | exact zr_shl _ _) (by first | omega | exact zr_b _ | exact zr_and _ _ | exact zr_or _ _ | exact zr_shl _ _) (fun c21 => ?_) (fun c21 => ?_)
            · exfalso; omega
            · refine z_bipush 26 dX10_quickest_24 rfl (by decide) ?_
              refine z_aload_n 27 dX10_quickest_26 rfl rfl ?_
              refine z_iconst 28 dX10_quickest_27 rfl ?_
              refine z_iload_n 29 dX10_quickest_28 rfl rfl ?_
              refine z_iadd 30 dX10_quickest_29 rfl ?_
              refine z_iald 31 dX10_quickest_30 rfl (by first | with_reducible assumption | with_reducible exact zup_same _ _ _) (by omega) (by first | omega | exact zr_b _ | exact zr_and _ _ | exact zr_or _ _ | exact zr_shl _ _) ?_
              refine z_imul 32 dX10_quickest_31 rfl ?_
              refine z_aload_n 33 dX10_quickest_32 rfl rfl ?_
              refine z_bipush 35 dX10_quickest_33 rfl (by decide) ?_
              refine z_iload_n 36 dX10_quickest_35 rfl rfl ?_
              refine z_iadd 37 dX10_quickest_36 rfl ?_
              refine z_iald 38 dX10_quickest_37 rfl (by first | with_reducible assumption | with_reducible exact zup_same _ _ _) (by omega) (by first | omega | exact zr_b _ | exact zr_and _ _ | exact zr_or _ _ | exact zr_shl _ _) ?_
              refine z_iadd 39 dX10_quickest_38 rfl ?_
              refine z_istore 41 dX10_quickest_39 rfl (by decide) ?_
              refine z_iload_n 42 dX10_quickest_41 rfl rfl ?_
              refine z_bipush 44 dX10_quickest_42 rfl (by decide) ?_
              refine z_icmp_eq 67 47 dX10_quickest_44 (by decide) rfl (by first | omega | exact zr_b _ | exact zr_and _ _ | exact zr_or _ _ | exact zr_shl _ _) (by first | omega | exact zr_b _ | exact zr_and _ _ | exact zr_or _ _ | exact zr_shl _ _) (fun c44 => ?_) (fun c44 => ?_)
              · refine z_iload_n 68 dX10_quickest_67 rfl rfl ?_
                refine z_goto 72 dX10_quickest_68 (by decide) ?_
                refine z_istore_n 73 dX10_quickest_72 rfl (by decide) ?_
                refine z_iinc 76 dX10_quickest_73 rfl (by decide) rfl ?_
                refine z_goto 5 dX10_quickest_76 (by decide) ?_
                exact ih _
              · exfalso; omega
        · rw [if_neg e0]
          have r1 := hR (zlst D G w i) (by omega) (by omega)
          have d1 := hd (zlst D G w i) (by omega) (by omega)
          have hlx : (if D ((i + 1 : Nat) : Int) = D (zlst D G w i) then G ((i + 1 : Nat) : Int) < G (zlst D G w i) else D ((i + 1 : Nat) : Int) < D (zlst D G w i)) ↔ 10 * D ((i + 1 : Nat) : Int) + G ((i + 1 : Nat) : Int) < 10 * D (zlst D G w i) + G (zlst D G w i) := by
            split <;> omega
          refine z_iload_n 6 dX10_quickest_5 rfl rfl ?_
          refine z_aload_n 7 dX10_quickest_6 rfl rfl ?_
          refine z_getf (ci := 10) 10 dX10_quickest_7 rfl rfl zin_10 2 (by decide) zw_766 (by first | with_reducible assumption | with_reducible exact zup_same _ _ _) rfl ?_
          rw [hn]
          refine z_icmp_ge 79 13 dX10_quickest_10 (by decide) rfl (by first | omega | exact zr_b _ | exact zr_and _ _ | exact zr_or _ _ | exact zr_shl _ _) (by first | omega | exact zr_b _ | exact zr_and _ _ | exact zr_or _ _ | exact zr_shl _ _) (fun c10 => ?_) (fun c10 => ?_)
          · exfalso; omega
          · refine z_aload_n 14 dX10_quickest_13 rfl rfl ?_
            refine z_getf (ci := 10) 17 dX10_quickest_14 rfl rfl zin_10 15 (by decide) zw_779 (by first | with_reducible assumption | with_reducible exact zup_same _ _ _) rfl ?_
            refine z_iload_n 18 dX10_quickest_17 rfl rfl ?_
            refine z_iald 19 dX10_quickest_18 rfl (by first | with_reducible assumption | with_reducible exact zup_same _ _ _) (by omega) (by first | omega | exact zr_b _ | exact zr_and _ _ | exact zr_or _ _ | exact zr_shl _ _) ?_
            rw [q3]
            refine z_bipush 21 dX10_quickest_19 rfl (by decide) ?_
            refine z_icmp_ne 73 24 dX10_quickest_21 (by decide) rfl (by first | omega | exact zr_b _ | exact zr_and _ _ | exact zr_or _ _ | exact zr_shl _ _) (by first | omega | exact zr_b _ | exact zr_and _ _ | exact zr_or _ _ | exact zr_shl _ _) (fun c21 => ?_) (fun c21 => ?_)
            · exfalso; omega
            · refine z_bipush 26 dX10_quickest_24 rfl (by decide) ?_
              refine z_aload_n 27 dX10_quickest_26 rfl rfl ?_
              refine z_iconst 28 dX10_quickest_27 rfl ?_
              refine z_iload_n 29 dX10_quickest_28 rfl rfl ?_
              refine z_iadd 30 dX10_quickest_29 rfl ?_
              refine z_iald 31 dX10_quickest_30 rfl (by first | with_reducible assumption | with_reducible exact zup_same _ _ _) (by omega) (by first | omega | exact zr_b _ | exact zr_and _ _ | exact zr_or _ _ | exact zr_shl _ _) ?_
              refine z_imul 32 dX10_quickest_31 rfl ?_
              refine z_aload_n 33 dX10_quickest_32 rfl rfl ?_
              refine z_bipush 35 dX10_quickest_33 rfl (by decide) ?_
              refine z_iload_n 36 dX10_quickest_35 rfl rfl ?_
              refine z_iadd 37 dX10_quickest_36 rfl ?_
              refine z_iald 38 dX10_quickest_37 rfl (by first | with_reducible assumption | with_reducible exact zup_same _ _ _) (by omega) (by first | omega | exact zr_b _ | exact zr_and _ _ | exact zr_or _ _ | exact zr_shl _ _) ?_
              refine z_iadd 39 dX10_quickest_38 rfl ?_
              rw [r2.1, r2.2]
              refine z_istore 41 dX10_quickest_39 rfl (by decide) ?_
              refine z_iload_n 42 dX10_quickest_41 rfl rfl ?_
              refine z_bipush 44 dX10_quickest_42 rfl (by decide) ?_
              refine z_icmp_eq 67 47 dX10_quickest_44 (by decide) rfl (by first | omega | exact zr_b _ | exact zr_and _ _ | exact zr_or _ _ | exact zr_shl _ _) (by first | omega | exact zr_b _ | exact zr_and _ _ | exact zr_or _ _ | exact zr_shl _ _) (fun c44 => ?_) (fun c44 => ?_)
              · exfalso; omega
              · refine z_iload 49 dX10_quickest_47 rfl rfl ?_
                refine z_bipush 51 dX10_quickest_49 rfl (by decide) ?_
                refine z_aload_n 52 dX10_quickest_51 rfl rfl ?_
                refine z_iconst 53 dX10_quickest_52 rfl ?_
                refine z_iload_n 54 dX10_quickest_53 rfl rfl ?_
                refine z_iadd 55 dX10_quickest_54 rfl ?_
                refine z_iald 56 dX10_quickest_55 rfl (by first | with_reducible assumption | with_reducible exact zup_same _ _ _) (by omega) (by first | omega | exact zr_b _ | exact zr_and _ _ | exact zr_or _ _ | exact zr_shl _ _) ?_
                refine z_imul 57 dX10_quickest_56 rfl ?_
                refine z_aload_n 58 dX10_quickest_57 rfl rfl ?_
                refine z_bipush 60 dX10_quickest_58 rfl (by decide) ?_
                refine z_iload_n 61 dX10_quickest_60 rfl rfl ?_
                refine z_iadd 62 dX10_quickest_61 rfl ?_
                refine z_iald 63 dX10_quickest_62 rfl (by first | with_reducible assumption | with_reducible exact zup_same _ _ _) (by omega) (by first | omega | exact zr_b _ | exact zr_and _ _ | exact zr_or _ _ | exact zr_shl _ _) ?_
                refine z_iadd 64 dX10_quickest_63 rfl ?_
                rw [r1.1, r1.2]
                refine z_icmp_ge 71 67 dX10_quickest_64 (by decide) rfl (by first | omega | exact zr_b _ | exact zr_and _ _ | exact zr_or _ _ | exact zr_shl _ _) (by first | omega | exact zr_b _ | exact zr_and _ _ | exact zr_or _ _ | exact zr_shl _ _) (fun c64 => ?_) (fun c64 => ?_)
                · rw [show zlst D G w (i + 1) = zlst D G w i from if_neg (fun q => q.2.elim e0 (fun q => by have := hlx.mp q; omega)), if_neg e0] at ih
                  refine z_iload_n 72 dX10_quickest_71 rfl rfl ?_
                  refine z_istore_n 73 dX10_quickest_72 rfl (by decide) ?_
                  refine z_iinc 76 dX10_quickest_73 rfl (by decide) rfl ?_
                  refine z_goto 5 dX10_quickest_76 (by decide) ?_
                  exact ih _
                · rw [show zlst D G w (i + 1) = ((i + 1 : Nat) : Int) from if_pos ⟨hz, Or.inr (hlx.mpr (by omega))⟩, if_neg (by omega)] at ih
                  refine z_iload_n 68 dX10_quickest_67 rfl rfl ?_
                  refine z_goto 72 dX10_quickest_68 (by decide) ?_
                  refine z_istore_n 73 dX10_quickest_72 rfl (by decide) ?_
                  refine z_iinc 76 dX10_quickest_73 rfl (by decide) rfl ?_
                  refine z_goto 5 dX10_quickest_76 (by decide) ?_
                  exact ih _
  refine zC.of zpl_X10 (Nat.le_of_ble_eq_true rfl) ?_
  refine z_bipush 2 dX10_quickest_0 rfl (by decide) ?_
  refine z_istore_n 3 dX10_quickest_2 rfl (by decide) ?_
  refine z_iconst 4 dX10_quickest_3 rfl ?_
  refine z_istore_n 5 dX10_quickest_4 rfl (by decide) ?_
  exact key 0 (Nat.zero_le _) _
theorem c_X10_quick (hob : h.1 112 = some (zMO s)) (hn : s.n = ((N + 1 : Nat) : Int)) (hwh : h.1 122 = some (zI 8 s.WH)) (hbg : h.1 123 = some (zI 8 s.BG)) (hr : h.1 a = some (zI 33 R)) (ha : 2 ≤ a ∧ a ≠ 112 ∧ a ≠ 122 ∧ a ≠ 123) (hR : zRo N M D G E P R) (hO : zOK B N D G E P) (hB : B ≤ 40)
    (hQ : ∀ (h' : zH) (WH' BG' R' : Int → Int), zQF a h h' → h'.1 122 = some (zI 8 WH') → h'.1 123 = some (zI 8 BG') → h'.1 a = some (zI 33 R') → zRo N M D G (zQK D G E P N).1 (zQK D G E P N).2 R' → Q none h') : zC (d + 2) mX10_quick 0 0 [vR 112, vR a] h Q := by
  have hN := hO.1
  have key : ∀ i : Nat, i ≤ N → ∀ (h' : zH) (WH' BG' R' : Int → Int) (o3 o4 o5 : Option zV), zQF a h h' → h'.1 122 = some (zI 8 WH') → h'.1 123 = some (zI 8 BG') → h'.1 a = some (zI 33 R') → zRo N M D G (zqk D G E P (fun _ => 0) N i).2.2.1 (zqk D G E P (fun _ => 0) N i).2.2.2 R' → zQR N D G (zqk D G E P (fun _ => 0) N i).1 (zqk D G E P (fun _ => 0) N i).2.1 WH' BG' → Z (d + 2) mX10_quick zo 6 [some (vR 112), some (vR a), some (vI i), o3, o4, o5] [] h' Q := by
    refine z_loop N ?_ ?_
    · intro h' WH' BG' R' o3 o4 o5 hF f1 f2 f3 hRo hQR
      have w112 : h'.1 112 = some (zMO s) := by rw [hF.1 _ (by decide) (by decide) (by omega)]; exact hob
      refine z_iload_n 7 dX10_quick_6 rfl rfl ?_
      refine z_aload_n 8 dX10_quick_7 rfl rfl ?_
      refine z_getf (ci := 10) 11 dX10_quick_8 rfl rfl zin_10 2 (by decide) zw_766 (by first | with_reducible assumption | with_reducible exact zup_same _ _ _) rfl ?_
      rw [hn]
      refine z_iconst 12 dX10_quick_11 rfl ?_
      refine z_isub 13 dX10_quick_12 rfl ?_
      refine z_icmp_ge 61 16 dX10_quick_13 (by decide) rfl (by first | omega | exact zr_b _ | exact zr_and _ _ | exact zr_or _ _ | exact zr_shl _ _) (by first | omega | exact zr_b _ | exact zr_and _ _ | exact zr_or _ _ | exact zr_shl _ _) (fun c13 => ?_) (fun c13 => ?_)
      · refine z_vret dX10_quick_61 (by first | exact True.intro | exact Or.inl rfl | exact Or.inr rfl | exact zb_01 _ | assumption | (show _ ∨ _; omega)) ⟨Nat.le_refl _, Nat.le_refl _⟩ ?_
        exact hQ _ WH' BG' R' hF f1 f2 f3 hRo
      · exfalso; omega
    · intro i hi ih h' WH' BG' R' o3 o4 o5 hF f1 f2 f3 hRo hQR
      have w112 : h'.1 112 = some (zMO s) := by rw [hF.1 _ (by decide) (by decide) (by omega)]; exact hob
      obtain ⟨⟨q1, q2, q3, q4, q5⟩, -⟩ := zqI_all (E := E) (P := P) (V := fun _ => 0) hN hB hO.2.1 i (by omega)
      obtain ⟨-, hu⟩ := zqI_all (E := E) (P := P) (V := fun _ => 0) hN hB hO.2.1 (i + 1) hi
      have hu := hu i rfl
      rw [zqk_s] at ih
      generalize zqk D G E P (fun _ => 0) N i = S at ih hRo hQR q1 q2 q3 q4 q5 hu
      obtain ⟨V, w, E', P'⟩ := S
      dsimp only at ih hRo hQR q1 q2 q3 q4 q5 hu
      have hk0 : zkb w 0 = true := (q1 0 (by omega) (by omega)).mpr (Or.inl rfl)
      have ht := zsoon_le V w N
      have htk := zsoon_kn (V := V) hk0 N
      have hl := zlst_le D G w N
      have hWb : ∀ p : Int, 0 ≤ p → p ≤ N → zkb w p = true → 0 ≤ V p ∧ V p ≤ 100000 ∧ 0 ≤ WH' p ∧ WH' p ≤ 100000 := fun p a b k => by
        have x := q5 p a b k
        obtain ⟨y1, y2, y3⟩ := (hQR p a b).1 k
        have dd := hO.2.1 p a b
        have := Int.mul_nonneg y2 (show 0 ≤ G p by omega)
        omega
      have hVt := hWb _ ht.1 ht.2 htk
      have hT := hQR.tell hN ht hl htk hu.1 hVt.1
      have r1 := hRo.2.1 (zsoon V w N) ht.1 ht.2
      have hR2 := hRo.qk hN (p := zlst D G w N) (t := zsoon V w N) ⟨hu.2, hl.2⟩ hi
      have hd : ∀ p : Int, 0 ≤ p → p ≤ N → 1 ≤ D p ∧ D p ≤ 100 ∧ 1 ≤ G p ∧ G p ≤ 5 := fun p a b => by have := hO.2.1 p a b; omega
      have hne : zlst D G w N ≠ 0 := by omega
      refine z_iload_n 7 dX10_quick_6 rfl rfl ?_
      refine z_aload_n 8 dX10_quick_7 rfl rfl ?_
      refine z_getf (ci := 10) 11 dX10_quick_8 rfl rfl zin_10 2 (by decide) zw_766 (by first | with_reducible assumption | with_reducible exact zup_same _ _ _) rfl ?_
      rw [hn]
      refine z_iconst 12 dX10_quick_11 rfl ?_
      refine z_isub 13 dX10_quick_12 rfl ?_
      refine z_icmp_ge 61 16 dX10_quick_13 (by decide) rfl (by first | omega | exact zr_b _ | exact zr_and _ _ | exact zr_or _ _ | exact zr_shl _ _) (by first | omega | exact zr_b _ | exact zr_and _ _ | exact zr_or _ _ | exact zr_shl _ _) (fun c13 => ?_) (fun c13 => ?_)
      · exfalso; omega
      · refine z_aload_n 17 dX10_quick_16 rfl rfl ?_
        refine z_aload_n 18 dX10_quick_17 rfl rfl ?_
        refine z_cV1 21 dX10_quick_18 rfl kX10_soonest zw_911 (Nat.le_of_ble_eq_true rfl) ⟨Nat.le_refl _, Nat.le_refl _⟩ (by first | with_reducible assumption | with_reducible exact zup_same _ _ _) ?_
        refine c_X10_soonest w112 hn f1 f2 f3 hRo.2.1 hN hQR hk0 hWb ?_
        refine z_istore_n 22 dX10_quick_21 rfl (by decide) ?_
        refine z_aload_n 23 dX10_quick_22 rfl rfl ?_
        refine z_aload_n 24 dX10_quick_23 rfl rfl ?_
        refine z_cV1 27 dX10_quick_24 rfl kX10_quickest zw_919 (Nat.le_of_ble_eq_true rfl) ⟨Nat.le_refl _, Nat.le_refl _⟩ (by first | with_reducible assumption | with_reducible exact zup_same _ _ _) ?_
        refine c_X10_quickest w112 hn f1 f3 hRo.2.1 hN hd (w := w) (fun p a b => ⟨fun k => (hWb p a b k).2.2, fun k => ((hQR p a b).2 k).1⟩) ?_
        rw [if_neg hne]
        refine z_istore 29 dX10_quick_27 rfl (by decide) ?_
        generalize zlst D G w N = p at hl hT hR2 hne ih hu ⊢
        generalize zsoon V w N = t at ht htk hVt hT r1 hR2 ih ⊢
        refine z_aload_n 30 dX10_quick_29 rfl rfl ?_
        refine z_bipush 32 dX10_quick_30 rfl (by decide) ?_
        refine z_iload 34 dX10_quick_32 rfl rfl ?_
        refine z_iadd 35 dX10_quick_34 rfl ?_
        refine z_iload_n 36 dX10_quick_35 rfl rfl ?_
        refine z_iast 37 dX10_quick_36 rfl (by omega) (by first | with_reducible assumption | with_reducible exact zup_same _ _ _) (by omega) (by first | omega | exact zr_b _ | exact zr_and _ _ | exact zr_or _ _ | exact zr_shl _ _) ?_
        have x112 : (zup h' a (zI 33 (zst R' (17 + p) t))).1 112 = some (zMO s) := by rw [zup_ne _ _ (by omega)]; exact w112
        have xa : (zup h' a (zI 33 (zst R' (17 + p) t))).1 a = some (zI 33 (zst R' (17 + p) t)) := zup_same _ _ _
        refine z_aload_n 38 dX10_quick_37 rfl rfl ?_
        refine z_bipush 40 dX10_quick_38 rfl (by decide) ?_
        refine z_iload_n 41 dX10_quick_40 rfl rfl ?_
        refine z_iadd 42 dX10_quick_41 rfl ?_
        refine z_iload 44 dX10_quick_42 rfl rfl ?_
        refine z_iast 45 dX10_quick_44 rfl (by omega) (by first | with_reducible assumption | with_reducible exact zup_same _ _ _) (by omega) (by first | omega | exact zr_b _ | exact zr_and _ _ | exact zr_or _ _ | exact zr_shl _ _) ?_
        rw [zup_zup]
        have y112 : (zup h' a (zI 33 (zst (zst R' (17 + p) t) (25 + i) p))).1 112 = some (zMO s) := by rw [zup_ne _ _ (by omega)]; exact w112
        have y122 : (zup h' a (zI 33 (zst (zst R' (17 + p) t) (25 + i) p))).1 122 = some (zI 8 WH') := by rw [zup_ne _ _ (by omega)]; exact f1
        have y123 : (zup h' a (zI 33 (zst (zst R' (17 + p) t) (25 + i) p))).1 123 = some (zI 8 BG') := by rw [zup_ne _ _ (by omega)]; exact f2
        have ya : (zup h' a (zI 33 (zst (zst R' (17 + p) t) (25 + i) p))).1 a = some (zI 33 (zst (zst R' (17 + p) t) (25 + i) p)) := zup_same _ _ _
        have g1 := hR2.2.1 t ht.1 ht.2
        refine z_aload_n 46 dX10_quick_45 rfl rfl ?_
        refine z_aload_n 47 dX10_quick_46 rfl rfl ?_
        refine z_iload_n 48 dX10_quick_47 rfl rfl ?_
        refine z_iload 50 dX10_quick_48 rfl rfl ?_
        refine z_cV3 53 dX10_quick_50 rfl kX10_tell zw_923 (Nat.le_of_ble_eq_true rfl) ⟨Nat.le_refl _, Nat.le_refl _⟩ (by first | with_reducible assumption | with_reducible exact zup_same _ _ _) ?_
        refine c_X10_tell y112 y122 y123 ya (by omega) (by omega) (by omega) ?_
        rw [g1.1, g1.2]
        refine z_istore 55 dX10_quick_53 rfl (by decide) ?_
        refine z_iinc 58 dX10_quick_55 rfl (by decide) rfl ?_
        refine z_goto 6 dX10_quick_58 (by decide) ?_
        refine ih _ _ _ _ _ _ _ (((hF.up _ (by omega)).up _ (by omega)).up _ (by omega)) ?_ (zup_same _ _ _) ?_ hR2 hT
        · rw [zup_ne _ _ (by decide)]; exact zup_same _ _ _
        · rw [zup_ne _ _ (by omega), zup_ne _ _ (by omega)]; exact ya
  refine zC.of zpl_X10 (Nat.le_of_ble_eq_true rfl) ?_
  refine z_aload_n 1 dX10_quick_0 rfl rfl ?_
  refine z_cV0 4 dX10_quick_1 rfl kX10_beginOne zw_907 (Nat.le_of_ble_eq_true rfl) ⟨Nat.le_refl _, Nat.le_refl _⟩ (by first | with_reducible assumption | with_reducible exact zup_same _ _ _) ?_
  refine c_X10_beginOne hob hwh hbg (fun WH' BG' b1 b2 b3 => ?_)
  refine z_iconst 5 dX10_quick_4 rfl ?_
  refine z_istore_n 6 dX10_quick_5 rfl (by decide) ?_
  refine key 0 (Nat.zero_le _) _ WH' BG' R _ _ _ (((zQF.rf a h).up _ (by omega)).up _ (by omega)) ?_ (zup_same _ _ _) ?_ hR ?_
  · rw [zup_ne _ _ (by decide)]; exact zup_same _ _ _
  · rw [zup_ne _ _ (by omega), zup_ne _ _ (by omega)]; exact hr
  · intro p h1 h2
    show (zkb 1 p = true → _ ∧ _ ∧ zst (fun _ => 0) 0 (D 0) p = _) ∧ (zkb 1 p = false → _)
    rw [zkb_1 (by omega)]
    by_cases e : p = 0
    · subst e
      rw [b1, b3 0 (by omega) (by omega), zst_same]
      exact ⟨fun _ => ⟨by omega, by omega, by omega⟩, fun k => absurd k (by decide)⟩
    · rw [b2 p (by omega) (by omega), b3 p (by omega) (by omega)]
      exact ⟨fun k => absurd (of_decide_eq_true k) e, fun _ => ⟨rfl, rfl⟩⟩
end MQUICK
section MQUICK2
variable {d : Nat} {h h' : zH} {Q : Option zV → zH → Prop} {C : Int → Int} {l : Int} {N M : Nat} {D G E P R DI : Int → Int} {ac nx : Int} {KP IK SW ST : Int → Int} {sn sd : Int} {s : zMS} {WH' BG' R' : Int → Int}
theorem zMW.qk4 (hW : zMW h s) (hF : zQF 114 h h') (f1 : h'.1 122 = some (zI 8 WH')) (f2 : h'.1 123 = some (zI 8 BG')) (f3 : h'.1 114 = some (zI 33 R')) : zMW h' (((s.uWH WH').uBG BG').uR R') :=
  ⟨by rw [hF.1 _ (by decide) (by decide) (by decide)]; exact hW.c112, by rw [hF.1 _ (by decide) (by decide) (by decide)]; exact hW.c113, f3, by rw [hF.1 _ (by decide) (by decide) (by decide)]; exact hW.c115, by rw [hF.1 _ (by decide) (by decide) (by decide)]; exact hW.c116, by rw [hF.1 _ (by decide) (by decide) (by decide)]; exact hW.c117, by rw [hF.1 _ (by decide) (by decide) (by decide)]; exact hW.c118, by rw [hF.1 _ (by decide) (by decide) (by decide)]; exact hW.c119, by rw [hF.1 _ (by decide) (by decide) (by decide)]; exact hW.c120, by rw [hF.1 _ (by decide) (by decide) (by decide)]; exact hW.c121, f1, f2, by rw [hF.1 _ (by decide) (by decide) (by decide)]; exact hW.c124, by rw [hF.1 _ (by decide) (by decide) (by decide)]; exact hW.c125, by rw [hF.1 _ (by decide) (by decide) (by decide)]; exact hW.c126, by rw [hF.1 _ (by decide) (by decide) (by decide)]; exact hW.c127⟩
theorem zMW.qk5 (hW : zMW h s) (hF : zQF 115 h h') (f1 : h'.1 122 = some (zI 8 WH')) (f2 : h'.1 123 = some (zI 8 BG')) (f3 : h'.1 115 = some (zI 33 R')) : zMW h' (((s.uWH WH').uBG BG').uTR R') :=
  ⟨by rw [hF.1 _ (by decide) (by decide) (by decide)]; exact hW.c112, by rw [hF.1 _ (by decide) (by decide) (by decide)]; exact hW.c113, by rw [hF.1 _ (by decide) (by decide) (by decide)]; exact hW.c114, f3, by rw [hF.1 _ (by decide) (by decide) (by decide)]; exact hW.c116, by rw [hF.1 _ (by decide) (by decide) (by decide)]; exact hW.c117, by rw [hF.1 _ (by decide) (by decide) (by decide)]; exact hW.c118, by rw [hF.1 _ (by decide) (by decide) (by decide)]; exact hW.c119, by rw [hF.1 _ (by decide) (by decide) (by decide)]; exact hW.c120, by rw [hF.1 _ (by decide) (by decide) (by decide)]; exact hW.c121, f1, f2, by rw [hF.1 _ (by decide) (by decide) (by decide)]; exact hW.c124, by rw [hF.1 _ (by decide) (by decide) (by decide)]; exact hW.c125, by rw [hF.1 _ (by decide) (by decide) (by decide)]; exact hW.c126, by rw [hF.1 _ (by decide) (by decide) (by decide)]; exact hW.c127⟩
theorem m_quicken (hW : zMC h C l ((N + 1 : Nat) : Int) R DI ac nx KP IK SW ST sn sd) (hR : zRo N M D G E P R) (hO : zOK 9 N D G E P) (hM : M ≤ 3) (ha : 0 ≤ ac ∧ ac ≤ 14) (hx : 0 ≤ nx ∧ nx < 14)
    (hQ : ∀ (h' : zH) (DI' R' : Int → Int), (∀ k : Int, 0 ≤ k → k < 33 → DI' (33 * nx + k) = R k) → (∀ q : Int, (q < 33 * nx ∨ 33 * nx + 33 ≤ q) → DI' q = DI q) → zRo N M D G (zQK D G E P N).1 (zQK D G E P N).2 R' → zMC h' C l ((N + 1 : Nat) : Int) R' DI' (if ac < 14 then ac + 1 else 14) ((nx + 1) % 14) KP IK SW ST sn sd → zMod 112 127 h h' → Q (some (vI (zLAST D G (zQK D G E P N).1 (zQK D G E P N).2 N M))) h') : zC (d + 4) mX10_quicken 0 0 [vR 112] h Q := by
  have hW0 := hW
  have hN := hO.1
  have hO' := zQK_ok hO (by decide)
  obtain ⟨TR, TI, WH, BG, OD, WO, MA, RD, rp, rs, rm, rw', hW⟩ := hW
  have w112 := hW.c112
  dsimp only [zMO, zMS.C, zMS.l, zMS.n, zMS.R, zMS.TR, zMS.DI, zMS.ac, zMS.nx, zMS.KP, zMS.IK, zMS.SW, zMS.ST, zMS.sn, zMS.sd, zMS.TI, zMS.WH, zMS.BG, zMS.OD, zMS.WO, zMS.MA, zMS.rp, zMS.RD, zMS.rs, zMS.rm, zMS.rw, zMS.uC, zMS.ul, zMS.un, zMS.uR, zMS.uTR, zMS.uDI, zMS.uac, zMS.unx, zMS.uKP, zMS.uIK, zMS.uSW, zMS.uST, zMS.usn, zMS.usd, zMS.uTI, zMS.uWH, zMS.uBG, zMS.uOD, zMS.uWO, zMS.uMA, zMS.urp, zMS.uRD, zMS.urs, zMS.urm, zMS.urw] at w112
  have w114 := hW.c114
  dsimp only [zMO, zMS.C, zMS.l, zMS.n, zMS.R, zMS.TR, zMS.DI, zMS.ac, zMS.nx, zMS.KP, zMS.IK, zMS.SW, zMS.ST, zMS.sn, zMS.sd, zMS.TI, zMS.WH, zMS.BG, zMS.OD, zMS.WO, zMS.MA, zMS.rp, zMS.RD, zMS.rs, zMS.rm, zMS.rw, zMS.uC, zMS.ul, zMS.un, zMS.uR, zMS.uTR, zMS.uDI, zMS.uac, zMS.unx, zMS.uKP, zMS.uIK, zMS.uSW, zMS.uST, zMS.usn, zMS.usd, zMS.uTI, zMS.uWH, zMS.uBG, zMS.uOD, zMS.uWO, zMS.uMA, zMS.urp, zMS.uRD, zMS.urs, zMS.urm, zMS.urw] at w114
  refine zC.of zpl_X10 (Nat.le_of_ble_eq_true rfl) ?_
  refine z_aload_n 1 dX10_quicken_0 rfl rfl ?_
  refine z_cV0 4 dX10_quicken_1 rfl kX10_note zw_983 (Nat.le_of_ble_eq_true rfl) ⟨Nat.le_refl _, Nat.le_refl _⟩ (by first | with_reducible assumption | with_reducible exact zup_same _ _ _) ?_
  refine c_X10_note hW0 ha hx (fun h1 DI' k1 k2 hW1 hF1 => ?_)
  obtain ⟨TR, TI, WH, BG, OD, WO, MA, RD, rp, rs, rm, rw', hW1⟩ := hW1
  have w112 := hW1.c112
  dsimp only [zMO, zMS.C, zMS.l, zMS.n, zMS.R, zMS.TR, zMS.DI, zMS.ac, zMS.nx, zMS.KP, zMS.IK, zMS.SW, zMS.ST, zMS.sn, zMS.sd, zMS.TI, zMS.WH, zMS.BG, zMS.OD, zMS.WO, zMS.MA, zMS.rp, zMS.RD, zMS.rs, zMS.rm, zMS.rw, zMS.uC, zMS.ul, zMS.un, zMS.uR, zMS.uTR, zMS.uDI, zMS.uac, zMS.unx, zMS.uKP, zMS.uIK, zMS.uSW, zMS.uST, zMS.usn, zMS.usd, zMS.uTI, zMS.uWH, zMS.uBG, zMS.uOD, zMS.uWO, zMS.uMA, zMS.urp, zMS.uRD, zMS.urs, zMS.urm, zMS.urw] at w112
  have w114 := hW1.c114
  dsimp only [zMO, zMS.C, zMS.l, zMS.n, zMS.R, zMS.TR, zMS.DI, zMS.ac, zMS.nx, zMS.KP, zMS.IK, zMS.SW, zMS.ST, zMS.sn, zMS.sd, zMS.TI, zMS.WH, zMS.BG, zMS.OD, zMS.WO, zMS.MA, zMS.rp, zMS.RD, zMS.rs, zMS.rm, zMS.rw, zMS.uC, zMS.ul, zMS.un, zMS.uR, zMS.uTR, zMS.uDI, zMS.uac, zMS.unx, zMS.uKP, zMS.uIK, zMS.uSW, zMS.uST, zMS.usn, zMS.usd, zMS.uTI, zMS.uWH, zMS.uBG, zMS.uOD, zMS.uWO, zMS.uMA, zMS.urp, zMS.uRD, zMS.urs, zMS.urm, zMS.urw] at w114
  refine z_aload_n 5 dX10_quicken_4 rfl rfl ?_
  refine z_aload_n 6 dX10_quicken_5 rfl rfl ?_
  refine z_getf (ci := 10) 9 dX10_quicken_6 rfl rfl zin_10 3 (by decide) zw_767 (by first | with_reducible assumption | with_reducible exact zup_same _ _ _) rfl ?_
  refine z_cV1 12 dX10_quicken_9 rfl kX10_quick zw_903 (Nat.le_of_ble_eq_true rfl) ⟨Nat.le_refl _, Nat.le_refl _⟩ (by first | with_reducible assumption | with_reducible exact zup_same _ _ _) ?_
  refine c_X10_quick hW1.c112 rfl hW1.c122 hW1.c123 w114 (by decide) hR hO (by decide) (fun h2 WH' BG' R' hF2 f1 f2 f3 hR' => ?_)
  have hW2 := hW1.qk4 hF2 f1 f2 f3
  have w112 := hW2.c112
  dsimp only [zMO, zMS.C, zMS.l, zMS.n, zMS.R, zMS.TR, zMS.DI, zMS.ac, zMS.nx, zMS.KP, zMS.IK, zMS.SW, zMS.ST, zMS.sn, zMS.sd, zMS.TI, zMS.WH, zMS.BG, zMS.OD, zMS.WO, zMS.MA, zMS.rp, zMS.RD, zMS.rs, zMS.rm, zMS.rw, zMS.uC, zMS.ul, zMS.un, zMS.uR, zMS.uTR, zMS.uDI, zMS.uac, zMS.unx, zMS.uKP, zMS.uIK, zMS.uSW, zMS.uST, zMS.usn, zMS.usd, zMS.uTI, zMS.uWH, zMS.uBG, zMS.uOD, zMS.uWO, zMS.uMA, zMS.urp, zMS.uRD, zMS.urs, zMS.urm, zMS.urw] at w112
  have w114 := hW2.c114
  dsimp only [zMO, zMS.C, zMS.l, zMS.n, zMS.R, zMS.TR, zMS.DI, zMS.ac, zMS.nx, zMS.KP, zMS.IK, zMS.SW, zMS.ST, zMS.sn, zMS.sd, zMS.TI, zMS.WH, zMS.BG, zMS.OD, zMS.WO, zMS.MA, zMS.rp, zMS.RD, zMS.rs, zMS.rm, zMS.rw, zMS.uC, zMS.ul, zMS.un, zMS.uR, zMS.uTR, zMS.uDI, zMS.uac, zMS.unx, zMS.uKP, zMS.uIK, zMS.uSW, zMS.uST, zMS.usn, zMS.usd, zMS.uTI, zMS.uWH, zMS.uBG, zMS.uOD, zMS.uWO, zMS.uMA, zMS.urp, zMS.uRD, zMS.urs, zMS.urm, zMS.urw] at w114
  refine z_aload_n 13 dX10_quicken_12 rfl rfl ?_
  refine z_aload_n 14 dX10_quicken_13 rfl rfl ?_
  refine z_getf (ci := 10) 17 dX10_quicken_14 rfl rfl zin_10 3 (by decide) zw_767 (by first | with_reducible assumption | with_reducible exact zup_same _ _ _) rfl ?_
  refine z_cV1 20 dX10_quicken_17 rfl kX10_lastOf zw_883 (Nat.le_of_ble_eq_true rfl) ⟨Nat.le_refl _, Nat.le_refl _⟩ (by first | with_reducible assumption | with_reducible exact zup_same _ _ _) ?_
  refine c_X10_lastOf hW2.c112 rfl f3 (by decide) hW2.c121 hR' hO' (by decide) hM (fun T1 => ?_)
  refine z_ret dX10_quicken_20 (by first | exact True.intro | exact Or.inl rfl | exact Or.inr rfl | exact zb_01 _ | assumption | (show _ ∨ _; omega)) ⟨Nat.le_refl _, Nat.le_refl _⟩ ?_
  exact hQ _ DI' R' k1 k2 hR' (hW2.s121 T1).mc ((hF1.tr (hF2.mod (by decide))).up _ (by omega))
theorem m_about3 (hW : zMC h C l ((N + 1 : Nat) : Int) R DI ac nx KP IK SW ST sn sd) (hR : zRo N M D G E P R) (hO : zOK 9 N D G E P) (hM : M ≤ 3) (hQ : ∀ h' : zH, zMC h' C l ((N + 1 : Nat) : Int) R DI ac nx KP IK SW ST sn sd → zMod 112 127 h h' → Q (some (vI (zLAST D G (zQK D G E P N).1 (zQK D G E P N).2 N M))) h') : zC (d + 14) mX10_about 0 0 [vR 112, vI 3] h Q := by
  have hN := hO.1
  have hO' := zQK_ok hO (by decide)
  obtain ⟨TR, TI, WH, BG, OD, WO, MA, RD, rp, rs, rm, rw', hW⟩ := hW
  have w112 := hW.c112
  dsimp only [zMO, zMS.C, zMS.l, zMS.n, zMS.R, zMS.TR, zMS.DI, zMS.ac, zMS.nx, zMS.KP, zMS.IK, zMS.SW, zMS.ST, zMS.sn, zMS.sd, zMS.TI, zMS.WH, zMS.BG, zMS.OD, zMS.WO, zMS.MA, zMS.rp, zMS.RD, zMS.rs, zMS.rm, zMS.rw, zMS.uC, zMS.ul, zMS.un, zMS.uR, zMS.uTR, zMS.uDI, zMS.uac, zMS.unx, zMS.uKP, zMS.uIK, zMS.uSW, zMS.uST, zMS.usn, zMS.usd, zMS.uTI, zMS.uWH, zMS.uBG, zMS.uOD, zMS.uWO, zMS.uMA, zMS.urp, zMS.uRD, zMS.urs, zMS.urm, zMS.urw] at w112
  have w114 := hW.c114
  dsimp only [zMO, zMS.C, zMS.l, zMS.n, zMS.R, zMS.TR, zMS.DI, zMS.ac, zMS.nx, zMS.KP, zMS.IK, zMS.SW, zMS.ST, zMS.sn, zMS.sd, zMS.TI, zMS.WH, zMS.BG, zMS.OD, zMS.WO, zMS.MA, zMS.rp, zMS.RD, zMS.rs, zMS.rm, zMS.rw, zMS.uC, zMS.ul, zMS.un, zMS.uR, zMS.uTR, zMS.uDI, zMS.uac, zMS.unx, zMS.uKP, zMS.uIK, zMS.uSW, zMS.uST, zMS.usn, zMS.usd, zMS.uTI, zMS.uWH, zMS.uBG, zMS.uOD, zMS.uWO, zMS.uMA, zMS.urp, zMS.uRD, zMS.urs, zMS.urm, zMS.urw] at w114
  have w115 := hW.c115
  dsimp only [zMO, zMS.C, zMS.l, zMS.n, zMS.R, zMS.TR, zMS.DI, zMS.ac, zMS.nx, zMS.KP, zMS.IK, zMS.SW, zMS.ST, zMS.sn, zMS.sd, zMS.TI, zMS.WH, zMS.BG, zMS.OD, zMS.WO, zMS.MA, zMS.rp, zMS.RD, zMS.rs, zMS.rm, zMS.rw, zMS.uC, zMS.ul, zMS.un, zMS.uR, zMS.uTR, zMS.uDI, zMS.uac, zMS.unx, zMS.uKP, zMS.uIK, zMS.uSW, zMS.uST, zMS.usn, zMS.usd, zMS.uTI, zMS.uWH, zMS.uBG, zMS.uOD, zMS.uWO, zMS.uMA, zMS.urp, zMS.uRD, zMS.urs, zMS.urm, zMS.urw] at w115
  refine zC.of zpl_X10 (Nat.le_of_ble_eq_true rfl) ?_
  refine z_iload_n 1 dX10_about_0 rfl rfl ?_
  · refine z_tableIn 73 dX10_about_1 (by omega) (by omega) (by omega) rfl (by decide) ?_
    refine z_aload_n 74 dX10_about_73 rfl rfl ?_
    refine z_getf (ci := 10) 77 dX10_about_74 rfl rfl zin_10 3 (by decide) zw_767 (by first | with_reducible assumption | with_reducible exact zup_same _ _ _) rfl ?_
    refine z_aload_n 78 dX10_about_77 rfl rfl ?_
    refine z_getf (ci := 10) 81 dX10_about_78 rfl rfl zin_10 4 (by decide) zw_768 (by first | with_reducible assumption | with_reducible exact zup_same _ _ _) rfl ?_
    refine z_cS2 84 dX10_about_81 rfl kX10_copy zw_880 (Nat.le_of_ble_eq_true rfl) ⟨Nat.le_refl _, Nat.le_refl _⟩ ?_
    refine c_X10_copy (by decide) w114 w115 (fun F' hF' => ?_)
    have hW1 := hW.s115 F'
    have w112 := hW1.c112
    dsimp only [zMO, zMS.C, zMS.l, zMS.n, zMS.R, zMS.TR, zMS.DI, zMS.ac, zMS.nx, zMS.KP, zMS.IK, zMS.SW, zMS.ST, zMS.sn, zMS.sd, zMS.TI, zMS.WH, zMS.BG, zMS.OD, zMS.WO, zMS.MA, zMS.rp, zMS.RD, zMS.rs, zMS.rm, zMS.rw, zMS.uC, zMS.ul, zMS.un, zMS.uR, zMS.uTR, zMS.uDI, zMS.uac, zMS.unx, zMS.uKP, zMS.uIK, zMS.uSW, zMS.uST, zMS.usn, zMS.usd, zMS.uTI, zMS.uWH, zMS.uBG, zMS.uOD, zMS.uWO, zMS.uMA, zMS.urp, zMS.uRD, zMS.urs, zMS.urm, zMS.urw] at w112
    have w115 := hW1.c115
    dsimp only [zMO, zMS.C, zMS.l, zMS.n, zMS.R, zMS.TR, zMS.DI, zMS.ac, zMS.nx, zMS.KP, zMS.IK, zMS.SW, zMS.ST, zMS.sn, zMS.sd, zMS.TI, zMS.WH, zMS.BG, zMS.OD, zMS.WO, zMS.MA, zMS.rp, zMS.RD, zMS.rs, zMS.rm, zMS.rw, zMS.uC, zMS.ul, zMS.un, zMS.uR, zMS.uTR, zMS.uDI, zMS.uac, zMS.unx, zMS.uKP, zMS.uIK, zMS.uSW, zMS.uST, zMS.usn, zMS.usd, zMS.uTI, zMS.uWH, zMS.uBG, zMS.uOD, zMS.uWO, zMS.uMA, zMS.urp, zMS.uRD, zMS.urs, zMS.urm, zMS.urw] at w115
    refine z_aload_n 85 dX10_about_84 rfl rfl ?_
    refine z_aload_n 86 dX10_about_85 rfl rfl ?_
    refine z_getf (ci := 10) 89 dX10_about_86 rfl rfl zin_10 4 (by decide) zw_768 (by first | with_reducible assumption | with_reducible exact zup_same _ _ _) rfl ?_
    refine z_cV1 92 dX10_about_89 rfl kX10_quick zw_903 (Nat.le_of_ble_eq_true rfl) ⟨Nat.le_refl _, Nat.le_refl _⟩ (by first | with_reducible assumption | with_reducible exact zup_same _ _ _) ?_
    refine c_X10_quick hW1.c112 rfl hW1.c122 hW1.c123 (zup_same _ _ _) (by decide) (hR.cp hF' hN) hO (by decide) (fun h2 WH' BG' R' hF2 f1 f2 f3 hR' => ?_)
    have hW2 := hW1.qk5 hF2 f1 f2 f3
    have w112 := hW2.c112
    dsimp only [zMO, zMS.C, zMS.l, zMS.n, zMS.R, zMS.TR, zMS.DI, zMS.ac, zMS.nx, zMS.KP, zMS.IK, zMS.SW, zMS.ST, zMS.sn, zMS.sd, zMS.TI, zMS.WH, zMS.BG, zMS.OD, zMS.WO, zMS.MA, zMS.rp, zMS.RD, zMS.rs, zMS.rm, zMS.rw, zMS.uC, zMS.ul, zMS.un, zMS.uR, zMS.uTR, zMS.uDI, zMS.uac, zMS.unx, zMS.uKP, zMS.uIK, zMS.uSW, zMS.uST, zMS.usn, zMS.usd, zMS.uTI, zMS.uWH, zMS.uBG, zMS.uOD, zMS.uWO, zMS.uMA, zMS.urp, zMS.uRD, zMS.urs, zMS.urm, zMS.urw] at w112
    have w115 := hW2.c115
    dsimp only [zMO, zMS.C, zMS.l, zMS.n, zMS.R, zMS.TR, zMS.DI, zMS.ac, zMS.nx, zMS.KP, zMS.IK, zMS.SW, zMS.ST, zMS.sn, zMS.sd, zMS.TI, zMS.WH, zMS.BG, zMS.OD, zMS.WO, zMS.MA, zMS.rp, zMS.RD, zMS.rs, zMS.rm, zMS.rw, zMS.uC, zMS.ul, zMS.un, zMS.uR, zMS.uTR, zMS.uDI, zMS.uac, zMS.unx, zMS.uKP, zMS.uIK, zMS.uSW, zMS.uST, zMS.usn, zMS.usd, zMS.uTI, zMS.uWH, zMS.uBG, zMS.uOD, zMS.uWO, zMS.uMA, zMS.urp, zMS.uRD, zMS.urs, zMS.urm, zMS.urw] at w115
    refine z_aload_n 93 dX10_about_92 rfl rfl ?_
    refine z_aload_n 94 dX10_about_93 rfl rfl ?_
    refine z_getf (ci := 10) 97 dX10_about_94 rfl rfl zin_10 4 (by decide) zw_768 (by first | with_reducible assumption | with_reducible exact zup_same _ _ _) rfl ?_
    refine z_cV1 100 dX10_about_97 rfl kX10_lastOf zw_883 (Nat.le_of_ble_eq_true rfl) ⟨Nat.le_refl _, Nat.le_refl _⟩ (by first | with_reducible assumption | with_reducible exact zup_same _ _ _) ?_
    refine c_X10_lastOf hW2.c112 rfl f3 (by decide) hW2.c121 hR' hO' (by decide) hM (fun T1 => ?_)
    refine z_ret dX10_about_100 (by first | exact True.intro | exact Or.inl rfl | exact Or.inr rfl | exact zb_01 _ | assumption | (show _ ∨ _; omega)) ⟨Nat.le_refl _, Nat.le_refl _⟩ ?_
    exact hQ _ (hW2.s121 T1).mc ((((zMod.rf _ _ h).up _ (by omega)).tr (hF2.mod (by decide))).up _ (by omega))
end MQUICK2
