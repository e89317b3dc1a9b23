/-! CONSTRUCTORS of the class: Shelf, Acts, Slots -/
section CTOR2
variable {d : Nat} {h : zH} {Q : Option zV → zH → Prop} {t : Nat}
theorem zTelD.eq {h h' : zH} {t : Nat} {T : zTD} (hT : zTelD h t T) (ha : ∀ a, t ≤ a → a ≤ t + 4 → h'.1 a = h.1 a) : zTelD h' t T := by
  obtain ⟨N, M, D, G, E, P⟩ := T
  obtain ⟨h0, h1, h2, h3, h4, h5⟩ := hT
  refine ⟨h0, ?_, ?_, ?_, ?_, ?_⟩ <;> (rw [ha _ (by omega) (by omega)]; assumption)
set_option maxHeartbeats 1000000 in
theorem c_X3_init {n : Nat} (hn : n ≤ 14) (ht : h.2 = t + 1) (h2 : 2 ≤ t) (hob : h.1 t = some (zO 3 [vN])) (hQ : ∀ h' : zH, zShl h' t n (t + 2) → (∀ i : Nat, i < n → zTelD h' (t + 2 + 5 * i) zTD0) → h'.2 = t + 2 + 5 * n → (∀ a, a < t → h'.1 a = h.1 a) → Q none h') : zC (d + 2) mX3_init (1 + 5 * n) (n + 39 * n) [vR t, vI n] h Q := by
  have key : ∀ i : Nat, i ≤ n → ∀ (h' : zH) (f : Int → Option Nat), h'.1 t = some (zO 3 [vR (t + 1)]) → h'.1 (t + 1) = some (zT n f) → (∀ j : Nat, j < i → f j = some (t + 2 + 5 * j)) → (∀ j : Nat, j < i → zTelD h' (t + 2 + 5 * j) zTD0) → h'.2 = t + 2 + 5 * i → (∀ a, a < t → h'.1 a = h.1 a) → Z (d + 2) mX3_init (1 + 5 * n, n + 39 * n, 1 + 5 * i, n + 39 * i) 18 [some (vR t), some (vI n), some (vI i)] [] h' Q := by
    refine z_loop n ?_ ?_
    · intro h' f k1 k2 k3 k4 k5 k6
      refine z_iload_n 19 dX3_init_18 rfl rfl ?_
      refine z_aload_n 20 dX3_init_19 rfl rfl ?_
      refine z_getf (ci := 3) 23 dX3_init_20 rfl rfl zin_3 0 (by decide) zw_179 (by first | with_reducible assumption | with_reducible exact zup_same _ _ _) rfl ?_
      refine z_alenT 24 dX3_init_23 rfl (by first | with_reducible assumption | with_reducible exact zup_same _ _ _) ?_
      refine z_icmp_ge 46 27 dX3_init_24 (by decide) rfl (by first | omega | exact zr_b _ | exact zr_and _ _ | exact zr_or _ _ | exact zr_shl _ _) (by first | omega | exact zr_b _ | exact zr_and _ _ | exact zr_or _ _ | exact zr_shl _ _) (fun c24 => ?_) (fun c24 => ?_)
      · refine z_vret dX3_init_46 (by first | exact True.intro | exact Or.inl rfl | exact Or.inr rfl | exact zb_01 _ | assumption | (show _ ∨ _; omega)) ⟨by dsimp only; omega, by dsimp only; omega⟩ ?_
        exact hQ _ ⟨h2, k1, f, k2, k3⟩ k4 k5 k6
      · exfalso; omega
    · intro i hi ih h' f k1 k2 k3 k4 k5 k6
      refine z_iload_n 19 dX3_init_18 rfl rfl ?_
      refine z_aload_n 20 dX3_init_19 rfl rfl ?_
      refine z_getf (ci := 3) 23 dX3_init_20 rfl rfl zin_3 0 (by decide) zw_179 (by first | with_reducible assumption | with_reducible exact zup_same _ _ _) rfl ?_
      refine z_alenT 24 dX3_init_23 rfl (by first | with_reducible assumption | with_reducible exact zup_same _ _ _) ?_
      refine z_icmp_ge 46 27 dX3_init_24 (by decide) rfl (by first | omega | exact zr_b _ | exact zr_and _ _ | exact zr_or _ _ | exact zr_shl _ _) (by first | omega | exact zr_b _ | exact zr_and _ _ | exact zr_or _ _ | exact zr_shl _ _) (fun c24 => ?_) (fun c24 => ?_)
      · exfalso; omega
      · refine z_aload_n 28 dX3_init_27 rfl rfl ?_
        refine z_getf (ci := 3) 31 dX3_init_28 rfl rfl zin_3 0 (by decide) zw_179 (by first | with_reducible assumption | with_reducible exact zup_same _ _ _) rfl ?_
        refine z_iload_n 32 dX3_init_31 rfl rfl ?_
        refine z_new (ci := 6) 35 [vI 0, vI 0, vI 0, vN, vN, vN, vN] dX3_init_32 rfl rfl zin_6 tyX6_ok zw_176 zw_83 zw_61 (fun r j hj => zdef_6 r j hj) ⟨by omega, by omega⟩ ?_
        have e0 : (znew h' (zO 6 [vI 0, vI 0, vI 0, vN, vN, vN, vN])).1 (t + 2 + 5 * i) = some (zO 6 [vI 0, vI 0, vI 0, vN, vN, vN, vN]) := by rw [← k5]; exact znew_same _ _
        rw [k5]
        refine z_dup_a 36 dX3_init_35 rfl ?_
        refine z_callI0 (mc := 4) (ms := 32) 39 dX3_init_36 rfl kX6_init zw_178 (Nat.le_of_ble_eq_true rfl) ⟨by dsimp only; omega, by dsimp only; omega⟩ ?_
        refine c_X6_init (t := t + 2 + 5 * i) (by show h'.2 + 1 = _; omega) (by omega) e0 (fun h1 a1 a2 a3 => ?_)
        have b1 : h1.1 (t + 1) = some (zT n f) := by rw [a3 _ (by omega), znew_ne _ _ (by omega)]; exact k2
        have b2 : h1.1 t = some (zO 3 [vR (t + 1)]) := by rw [a3 _ (by omega), znew_ne _ _ (by omega)]; exact k1
        have b3 := a1.2.1
        refine z_aast (ci := 6) 40 dX3_init_39 rfl (by omega) (by first | with_reducible assumption | with_reducible exact zup_same _ _ _) (by omega) (by first | omega | exact zr_b _ | exact zr_and _ _ | exact zr_or _ _ | exact zr_shl _ _) (by first | with_reducible assumption | with_reducible exact zup_same _ _ _) rfl ?_
        refine z_iinc 43 dX3_init_40 rfl (by decide) rfl ?_
        refine z_goto 18 dX3_init_43 (by decide) ?_
        have k := ih (zup h1 (t + 1) (zT n (zstR f i (some (t + 2 + 5 * i))))) (zstR f i (some (t + 2 + 5 * i))) (by rw [zup_ne _ _ (by omega)]; exact b2) (zup_same _ _ _) (fun j hj => by
          unfold zstR
          by_cases e : j = i
          · subst e; rw [if_pos rfl]
          · rw [if_neg (by omega)]; exact k3 j (by omega)) (fun j hj => by
          refine zTelD.mod (h := h1) (lo := t + 1) (hi := t + 1) ?_ ((zMod.rf _ _ _).up _ (by omega)) (by omega)
          by_cases e : j = i
          · subst e; exact a1
          · exact zTelD.eq (k4 j (by omega)) (fun a _ _ => by rw [a3 _ (by omega), znew_ne _ _ (by omega)])) (by show h1.2 = _; omega) (fun a ha => by rw [zup_ne _ _ (by omega), a3 _ (by omega), znew_ne _ _ (by omega)]; exact k6 a ha)
        rw [show 1 + 5 * (i + 1) = 1 + 5 * i + 1 + 4 by omega, show n + 39 * (i + 1) = n + 39 * i + 7 + 32 by omega] at k
        exact k
  refine zC.of zpl_X3 (Nat.le_of_ble_eq_true rfl) ?_
  refine z_aload_n 1 dX3_init_0 rfl rfl ?_
  refine z_objInit 4 dX3_init_1 rfl zw_172 zw_80 zw_81 (Nat.le_of_ble_eq_true rfl) ?_
  refine z_aload_n 5 dX3_init_4 rfl rfl ?_
  refine z_iload_n 6 dX3_init_5 rfl rfl ?_
  refine z_iconst 7 dX3_init_6 rfl ?_
  refine z_max 10 dX3_init_7 rfl zw_173 zw_174 zw_68 zw_175 (Nat.le_of_ble_eq_true rfl) ⟨by dsimp only; omega, by dsimp only; omega⟩ (by first | omega | exact zr_b _ | exact zr_and _ _ | exact zr_or _ _ | exact zr_shl _ _) (by first | omega | exact zr_b _ | exact zr_and _ _ | exact zr_or _ _ | exact zr_shl _ _) ?_
  refine z_anew 13 n dX3_init_10 rfl (by omega) (by omega) zw_176 ⟨by omega, by omega⟩ ?_
  have e0 : (znew h (zT n (fun _ => none))).1 t = some (zO 3 [vN]) := by rw [znew_ne _ _ (by omega)]; exact hob
  refine z_putF (ci := 3) 16 dX3_init_13 rfl rfl zin_3 tyX3_ok nmX3 0 (by decide) zw_179 rfl rfl rfl (fun _ => ⟨rfl, rfl⟩) (by omega) (by first | with_reducible assumption | with_reducible exact zup_same _ _ _) (Nat.le_of_ble_eq_true rfl) ?_
  refine z_iconst 17 dX3_init_16 rfl ?_
  refine z_istore_n 18 dX3_init_17 rfl (by decide) ?_
  have k := key 0 (Nat.zero_le _) (zup (znew h (zT n (fun _ => none))) t (zO 3 [vR (t + 1)])) (fun _ => none) (zup_same _ _ _) (by rw [zup_ne _ _ (by omega), ← ht]; exact znew_same _ _) (fun j hj => absurd hj (by omega)) (fun j hj => absurd hj (by omega)) (by show h.2 + 1 = _; omega) (fun a ha => by rw [zup_ne _ _ (by omega), znew_ne _ _ (by omega)])
  rw [← ht, show 1 + 5 * 0 = 0 + 1 from rfl, show n + 39 * 0 = 0 + n by omega] at k
  exact k
set_option maxHeartbeats 1000000 in
theorem c_X0_init (ht : h.2 = t + 1) (h2 : 2 ≤ t) (hob : h.1 t = some (zO 0 [vN, vI 0, vI 0])) (hQ : ∀ h' : zH, h'.1 t = some (zAO t 0 0) → zShl h' (t + 1) 14 (t + 3) → (∀ i : Nat, i < 14 → zTelD h' (t + 3 + 5 * i) zTD0) → h'.2 = t + 73 → (∀ a, a < t → h'.1 a = h.1 a) → Q none h') : zC (d + 3) mX0_init 72 561 [vR t] h Q := by
  refine zC.of zpl_X0 (Nat.le_of_ble_eq_true rfl) ?_
  refine z_aload_n 1 dX0_init_0 rfl rfl ?_
  refine z_objInit 4 dX0_init_1 rfl zw_166 zw_80 zw_81 (Nat.le_of_ble_eq_true rfl) ?_
  refine z_aload_n 5 dX0_init_4 rfl rfl ?_
  refine z_new (ci := 3) 8 [vN] dX0_init_5 rfl rfl zin_3 tyX3_ok zw_167 zw_168 zw_67 (fun r j hj => zdef_3 r j hj) ⟨by decide, by decide⟩ ?_
  have e0 : (znew h (zO 3 [vN])).1 (t + 1) = some (zO 3 [vN]) := by rw [← ht]; exact znew_same _ _
  rw [ht]
  refine z_dup_a 9 dX0_init_8 rfl ?_
  refine z_bipush 11 dX0_init_9 rfl (by decide) ?_
  refine z_callI1 (mc := 71) (ms := 560) 14 dX0_init_11 rfl kX3_init zw_169 (Nat.le_of_ble_eq_true rfl) ⟨by decide, by decide⟩ ?_
  refine c_X3_init (n := 14) (t := t + 1) (by decide) (by show h.2 + 1 = _; omega) (by omega) e0 (fun h1 a1 a2 a3 a4 => ?_)
  have b0 := a1.2.1
  have b1 : h1.1 t = some (zO 0 [vN, vI 0, vI 0]) := by rw [a4 _ (by omega), znew_ne _ _ (by omega)]; exact hob
  refine z_putF (ci := 0) 17 dX0_init_14 rfl rfl zin_0 tyX0_ok nmX0 0 (by decide) zw_183 rfl rfl rfl (fun _ => ⟨rfl, rfl⟩) (by omega) (by first | with_reducible assumption | with_reducible exact zup_same _ _ _) (Nat.le_of_ble_eq_true rfl) ?_
  refine z_vret dX0_init_17 (by first | exact True.intro | exact Or.inl rfl | exact Or.inr rfl | exact zb_01 _ | assumption | (show _ ∨ _; omega)) ⟨by decide, by decide⟩ ?_
  exact hQ _ (zup_same _ _ _) (by
    obtain ⟨g0, g1, f, g2, g3⟩ := a1
    exact ⟨g0, by rw [zup_ne _ _ (by omega)]; exact g1, f, by rw [zup_ne _ _ (by omega)]; exact g2, g3⟩) (fun i hi => zTelD.eq (a2 i hi) (fun a _ _ => zup_ne _ _ (by omega))) (by show h1.2 = _; omega) (fun a ha => by rw [zup_ne _ _ (by omega), a4 _ (by omega), znew_ne _ _ (by omega)])
set_option maxHeartbeats 1000000 in
theorem c_X4_init (ht : h.2 = t + 1) (h2 : 2 ≤ t) (hob : h.1 t = some (zO 4 [vN, vI 0])) (hQ : ∀ h' : zH, h'.1 t = some (zSO t 0) → zShl h' (t + 1) 2 (t + 3) → (∀ i : Nat, i < 2 → zTelD h' (t + 3 + 5 * i) zTD0) → h'.2 = t + 13 → (∀ a, a < t → h'.1 a = h.1 a) → Q none h') : zC (d + 3) mX4_init 12 81 [vR t] h Q := by
  refine zC.of zpl_X4 (Nat.le_of_ble_eq_true rfl) ?_
  refine z_aload_n 1 dX4_init_0 rfl rfl ?_
  refine z_objInit 4 dX4_init_1 rfl zw_198 zw_80 zw_81 (Nat.le_of_ble_eq_true rfl) ?_
  refine z_aload_n 5 dX4_init_4 rfl rfl ?_
  refine z_new (ci := 3) 8 [vN] dX4_init_5 rfl rfl zin_3 tyX3_ok zw_199 zw_168 zw_67 (fun r j hj => zdef_3 r j hj) ⟨by decide, by decide⟩ ?_
  have e0 : (znew h (zO 3 [vN])).1 (t + 1) = some (zO 3 [vN]) := by rw [← ht]; exact znew_same _ _
  rw [ht]
  refine z_dup_a 9 dX4_init_8 rfl ?_
  refine z_iconst 10 dX4_init_9 rfl ?_
  refine z_callI1 (mc := 11) (ms := 80) 13 dX4_init_10 rfl kX3_init zw_200 (Nat.le_of_ble_eq_true rfl) ⟨by decide, by decide⟩ ?_
  refine c_X3_init (n := 2) (t := t + 1) (by decide) (by show h.2 + 1 = _; omega) (by omega) e0 (fun h1 a1 a2 a3 a4 => ?_)
  have b0 := a1.2.1
  have b1 : h1.1 t = some (zO 4 [vN, vI 0]) := by rw [a4 _ (by omega), znew_ne _ _ (by omega)]; exact hob
  refine z_putF (ci := 4) 16 dX4_init_13 rfl rfl zin_4 tyX4_ok nmX4 0 (by decide) zw_201 rfl rfl rfl (fun _ => ⟨rfl, rfl⟩) (by omega) (by first | with_reducible assumption | with_reducible exact zup_same _ _ _) (Nat.le_of_ble_eq_true rfl) ?_
  refine z_vret dX4_init_16 (by first | exact True.intro | exact Or.inl rfl | exact Or.inr rfl | exact zb_01 _ | assumption | (show _ ∨ _; omega)) ⟨by decide, by decide⟩ ?_
  exact hQ _ (zup_same _ _ _) (by
    obtain ⟨g0, g1, f, g2, g3⟩ := a1
    exact ⟨g0, by rw [zup_ne _ _ (by omega)]; exact g1, f, by rw [zup_ne _ _ (by omega)]; exact g2, g3⟩) (fun i hi => zTelD.eq (a2 i hi) (fun a _ _ => zup_ne _ _ (by omega))) (by show h1.2 = _; omega) (fun a ha => by rw [zup_ne _ _ (by omega), a4 _ (by omega), znew_ne _ _ (by omega)])
end CTOR2
