/-! LateLetters$Telling: loops -/
def zcnt (E P : Int → Int) (x : Int) : Nat → Int
  | 0 => 0
  | i + 1 => zcnt E P x i + zb (E (P i) = x)
theorem zcnt_t {E P : Int → Int} {x : Int} {i : Nat} (h : E (P i) = x) : zcnt E P x (i + 1) = zcnt E P x i + 1 := by simp [zcnt, zb_t h]
theorem zcnt_f {E P : Int → Int} {x : Int} {i : Nat} (h : E (P i) ≠ x) : zcnt E P x (i + 1) = zcnt E P x i := by simp [zcnt, zb_f h]
/-- a person and all that it tells, as bits -/
def zbrn (E P : Int → Int) (p : Int) : Nat → Int
  | 0 => zshl 1 p
  | i + 1 => if zand (zshr (zbrn E P p i) (E (P i))) 1 = 0 then zbrn E P p i else zor (zbrn E P p i) (zshl 1 (P i))
/-- the one at a goes behind all -/
def zrot (P : Int → Int) (a s : Int) : Int → Int := fun j => if a ≤ j ∧ j < s - 1 then P (j + 1) else if j = s - 1 then P a else P j
def zshf (P : Int → Int) (a i : Int) : Int → Int := fun j => if a ≤ j ∧ j < i then P (j + 1) else P j
theorem zshf_0 (P : Int → Int) (a : Int) : zshf P a a = P := by funext j; unfold zshf; rw [if_neg (by omega)]
theorem zshf_s (P : Int → Int) {a i : Int} (h : a ≤ i) : zst (zshf P a i) i (zshf P a i (i + 1)) = zshf P a (i + 1) := by
  funext j
  unfold zst zshf
  by_cases e : j = i
  · subst e; rw [if_pos rfl, if_neg (by omega), if_pos (by omega)]
  · rw [if_neg e]
    by_cases e2 : a ≤ j ∧ j < i
    · rw [if_pos e2, if_pos (by omega)]
    · rw [if_neg e2, if_neg (by omega)]
theorem zshf_e (P : Int → Int) {a s : Int} (h : a ≤ s - 1) : zst (zshf P a (s - 1)) (s - 1) (P a) = zrot P a s := by
  funext j
  unfold zst zshf zrot
  by_cases e : j = s - 1
  · subst e; rw [if_pos rfl, if_neg (by omega), if_pos rfl]
  · rw [if_neg e]
    by_cases e2 : a ≤ j ∧ j < s - 1
    · rw [if_pos e2, if_pos e2]
    · rw [if_neg e2, if_neg e2, if_neg e]
/-- the walk along THE PLAN that sends a set behind all others: the place looked at, THE PLAN -/
def zgv (b s : Int) (P : Int → Int) : Nat → Int × (Int → Int)
  | 0 => (0, P)
  | k + 1 => if zand (zshr b ((zgv b s P k).2 (zgv b s P k).1)) 1 = 0 then ((zgv b s P k).1 + 1, (zgv b s P k).2) else ((zgv b s P k).1, zrot (zgv b s P k).2 (zgv b s P k).1 s)
theorem zgv_le (b s : Int) (P : Int → Int) : ∀ k : Nat, 0 ≤ (zgv b s P k).1 ∧ (zgv b s P k).1 ≤ k
  | 0 => by simp [zgv]
  | k + 1 => by
    have := zgv_le b s P k
    unfold zgv
    split
    · simp; omega
    · simp; omega
/-- only cells lo .. hi have changed -/
def zMod (lo hi : Nat) (h h' : zH) : Prop := (∀ a, a < lo ∨ hi < a → h'.1 a = h.1 a) ∧ h'.2 = h.2
theorem zMod.rf (lo hi : Nat) (h : zH) : zMod lo hi h h := ⟨fun _ _ => rfl, rfl⟩
theorem zMod.tr {lo hi : Nat} {h h' h'' : zH} (a : zMod lo hi h h') (b : zMod lo hi h' h'') : zMod lo hi h h'' := ⟨fun q hq => (b.1 q hq).trans (a.1 q hq), b.2.trans a.2⟩
theorem zMod.up {lo hi : Nat} {h h' : zH} (m : zMod lo hi h h') {a : Nat} (c : zE) (ha : lo ≤ a ∧ a ≤ hi) : zMod lo hi h (zup h' a c) := ⟨fun q hq => (zup_ne _ _ (by omega)).trans (m.1 q hq), m.2⟩
theorem zMod.wd {lo hi lo' hi' : Nat} {h h' : zH} (m : zMod lo hi h h') (ha : lo' ≤ lo ∧ hi ≤ hi') : zMod lo' hi' h h' := ⟨fun q hq => m.1 q (by omega), m.2⟩
section TEL2
variable {d : Nat} {h : zH} {Q : Option zV → zH → Prop} {t : Nat} {n m s : Int} {D G E P : Int → Int}
theorem zTel.mod {lo hi : Nat} {h' : zH} (hT : zTel h t n m s D G E P) (hm : zMod lo hi h h') (ha : t + 4 < lo ∨ hi < t) : zTel h' t n m s D G E P := by
  obtain ⟨h0, h1, h2, h3, h4, h5⟩ := hT
  refine ⟨h0, ?_, ?_, ?_, ?_, ?_⟩ <;> (rw [hm.1 _ (by omega)]; assumption)
theorem c_X6_countToldBy {N : Nat} {x : Int} (hT : zTel h t n m N D G E P) (hN : N ≤ 7) (hx : -2147483648 ≤ x ∧ x ≤ 2147483647) (hv : ∀ i : Nat, i < N → 0 ≤ P i ∧ P i < 8 ∧ 0 ≤ E (P i) ∧ E (P i) < 8) (hQ : Q (some (vI (zcnt E P x N))) h) : zC (d + 2) mX6_countToldBy 0 0 [vR t, vI x] h Q := by
  have zh0 := hT.2.1
  have key : ∀ i : Nat, i ≤ N → Z (d + 2) mX6_countToldBy zo 4 [some (vR t), some (vI x), some (vI (zcnt E P x i)), some (vI i)] [] h Q := by
    refine z_loop N ?_ ?_
    · refine z_iload_n 5 dX6_countToldBy_4 rfl rfl ?_
      refine z_aload_n 6 dX6_countToldBy_5 rfl rfl ?_
      refine z_getf (ci := 6) 9 dX6_countToldBy_6 rfl rfl zin_6 2 (by decide) zw_90 (by first | with_reducible assumption | with_reducible exact zup_same _ _ _) rfl ?_
      refine z_icmp_ge 34 12 dX6_countToldBy_9 (by decide) rfl (by first | omega | exact zr_b _ | exact zr_and _ _ | exact zr_or _ _ | exact zr_shl _ _) (by first | omega | exact zr_b _ | exact zr_and _ _ | exact zr_or _ _ | exact zr_shl _ _) (fun c9 => ?_) (fun c9 => ?_)
      · refine z_iload_n 35 dX6_countToldBy_34 rfl rfl ?_
        refine z_ret dX6_countToldBy_35 (by first | exact True.intro | exact Or.inl rfl | exact Or.inr rfl | exact zb_01 _ | assumption | (show _ ∨ _; omega)) ⟨Nat.le_refl _, Nat.le_refl _⟩ ?_
        exact hQ
      · exfalso; omega
    · intro i hi ih
      have hvi := hv i hi
      refine z_iload_n 5 dX6_countToldBy_4 rfl rfl ?_
      refine z_aload_n 6 dX6_countToldBy_5 rfl rfl ?_
      refine z_getf (ci := 6) 9 dX6_countToldBy_6 rfl rfl zin_6 2 (by decide) zw_90 (by first | with_reducible assumption | with_reducible exact zup_same _ _ _) rfl ?_
      refine z_icmp_ge 34 12 dX6_countToldBy_9 (by decide) rfl (by first | omega | exact zr_b _ | exact zr_and _ _ | exact zr_or _ _ | exact zr_shl _ _) (by first | omega | exact zr_b _ | exact zr_and _ _ | exact zr_or _ _ | exact zr_shl _ _) (fun c9 => ?_) (fun c9 => ?_)
      · exfalso; omega
      · refine z_aload_n 13 dX6_countToldBy_12 rfl rfl ?_
        refine z_aload_n 14 dX6_countToldBy_13 rfl rfl ?_
        refine z_iload_n 15 dX6_countToldBy_14 rfl rfl ?_
        refine z_cV1 18 dX6_countToldBy_15 rfl kX6_personAt zw_493 (Nat.le_of_ble_eq_true rfl) ⟨Nat.le_refl _, Nat.le_refl _⟩ (by first | with_reducible assumption | with_reducible exact zup_same _ _ _) ?_
        refine c_X6_personAt hT (by omega) ?_
        refine z_cV1 21 dX6_countToldBy_18 rfl kX6_tellerOf zw_498 (Nat.le_of_ble_eq_true rfl) ⟨Nat.le_refl _, Nat.le_refl _⟩ (by first | with_reducible assumption | with_reducible exact zup_same _ _ _) ?_
        refine c_X6_tellerOf hT (by omega) ?_
        refine z_iload_n 22 dX6_countToldBy_21 rfl rfl ?_
        refine z_icmp_ne 28 25 dX6_countToldBy_22 (by decide) rfl (by first | omega | exact zr_b _ | exact zr_and _ _ | exact zr_or _ _ | exact zr_shl _ _) (by first | omega | exact zr_b _ | exact zr_and _ _ | exact zr_or _ _ | exact zr_shl _ _) (fun c22 => ?_) (fun c22 => ?_)
        · rw [zcnt_f c22] at ih
          refine z_iinc 31 dX6_countToldBy_28 rfl (by decide) rfl ?_
          refine z_goto 4 dX6_countToldBy_31 (by decide) ?_
          exact ih
        · rw [zcnt_t c22] at ih
          refine z_iinc 28 dX6_countToldBy_25 rfl (by decide) rfl ?_
          refine z_iinc 31 dX6_countToldBy_28 rfl (by decide) rfl ?_
          refine z_goto 4 dX6_countToldBy_31 (by decide) ?_
          exact ih
  refine zC.of zpl_X6 (Nat.le_of_ble_eq_true rfl) ?_
  refine z_iconst 1 dX6_countToldBy_0 rfl ?_
  refine z_istore_n 2 dX6_countToldBy_1 rfl (by decide) ?_
  refine z_iconst 3 dX6_countToldBy_2 rfl ?_
  refine z_istore_n 4 dX6_countToldBy_3 rfl (by decide) ?_
  exact key 0 (Nat.zero_le _)
theorem c_X6_placeOf {N k : Nat} {x : Int} (hT : zTel h t n m N D G E P) (hN : N ≤ 7) (hx : -2147483648 ≤ x ∧ x ≤ 2147483647) (hv : ∀ i : Nat, i < N → 0 ≤ P i ∧ P i < 8 ∧ 0 ≤ E (P i) ∧ E (P i) < 8) (hk : k < N) (hk1 : P k = x) (hk2 : ∀ i : Nat, i < k → P i ≠ x) (hQ : Q (some (vI k)) h) : zC (d + 2) mX6_placeOf 0 0 [vR t, vI x] h Q := by
  have zh0 := hT.2.1
  have key : ∀ i : Nat, i ≤ k → Z (d + 2) mX6_placeOf zo 2 [some (vR t), some (vI x), some (vI i)] [] h Q := by
    refine z_loop k ?_ ?_
    · have hvi := hv k hk
      refine z_iload_n 3 dX6_placeOf_2 rfl rfl ?_
      refine z_aload_n 4 dX6_placeOf_3 rfl rfl ?_
      refine z_getf (ci := 6) 7 dX6_placeOf_4 rfl rfl zin_6 2 (by decide) zw_90 (by first | with_reducible assumption | with_reducible exact zup_same _ _ _) rfl ?_
      refine z_icmp_ge 27 10 dX6_placeOf_7 (by decide) rfl (by first | omega | exact zr_b _ | exact zr_and _ _ | exact zr_or _ _ | exact zr_shl _ _) (by first | omega | exact zr_b _ | exact zr_and _ _ | exact zr_or _ _ | exact zr_shl _ _) (fun c7 => ?_) (fun c7 => ?_)
      · exfalso; omega
      · refine z_aload_n 11 dX6_placeOf_10 rfl rfl ?_
        refine z_iload_n 12 dX6_placeOf_11 rfl rfl ?_
        refine z_cV1 15 dX6_placeOf_12 rfl kX6_personAt zw_493 (Nat.le_of_ble_eq_true rfl) ⟨Nat.le_refl _, Nat.le_refl _⟩ (by first | with_reducible assumption | with_reducible exact zup_same _ _ _) ?_
        refine c_X6_personAt hT (by omega) ?_
        refine z_iload_n 16 dX6_placeOf_15 rfl rfl ?_
        refine z_icmp_ne 21 19 dX6_placeOf_16 (by decide) rfl (by first | omega | exact zr_b _ | exact zr_and _ _ | exact zr_or _ _ | exact zr_shl _ _) (by first | omega | exact zr_b _ | exact zr_and _ _ | exact zr_or _ _ | exact zr_shl _ _) (fun c16 => ?_) (fun c16 => ?_)
        · exact absurd hk1 c16
        · refine z_iload_n 20 dX6_placeOf_19 rfl rfl ?_
          refine z_ret dX6_placeOf_20 (by first | exact True.intro | exact Or.inl rfl | exact Or.inr rfl | exact zb_01 _ | assumption | (show _ ∨ _; omega)) ⟨Nat.le_refl _, Nat.le_refl _⟩ ?_
          exact hQ
    · intro i hi ih
      have hvi := hv i (by omega)
      refine z_iload_n 3 dX6_placeOf_2 rfl rfl ?_
      refine z_aload_n 4 dX6_placeOf_3 rfl rfl ?_
      refine z_getf (ci := 6) 7 dX6_placeOf_4 rfl rfl zin_6 2 (by decide) zw_90 (by first | with_reducible assumption | with_reducible exact zup_same _ _ _) rfl ?_
      refine z_icmp_ge 27 10 dX6_placeOf_7 (by decide) rfl (by first | omega | exact zr_b _ | exact zr_and _ _ | exact zr_or _ _ | exact zr_shl _ _) (by first | omega | exact zr_b _ | exact zr_and _ _ | exact zr_or _ _ | exact zr_shl _ _) (fun c7 => ?_) (fun c7 => ?_)
      · exfalso; omega
      · refine z_aload_n 11 dX6_placeOf_10 rfl rfl ?_
        refine z_iload_n 12 dX6_placeOf_11 rfl rfl ?_
        refine z_cV1 15 dX6_placeOf_12 rfl kX6_personAt zw_493 (Nat.le_of_ble_eq_true rfl) ⟨Nat.le_refl _, Nat.le_refl _⟩ (by first | with_reducible assumption | with_reducible exact zup_same _ _ _) ?_
        refine c_X6_personAt hT (by omega) ?_
        refine z_iload_n 16 dX6_placeOf_15 rfl rfl ?_
        refine z_icmp_ne 21 19 dX6_placeOf_16 (by decide) rfl (by first | omega | exact zr_b _ | exact zr_and _ _ | exact zr_or _ _ | exact zr_shl _ _) (by first | omega | exact zr_b _ | exact zr_and _ _ | exact zr_or _ _ | exact zr_shl _ _) (fun c16 => ?_) (fun c16 => ?_)
        · refine z_iinc 24 dX6_placeOf_21 rfl (by decide) rfl ?_
          refine z_goto 2 dX6_placeOf_24 (by decide) ?_
          exact ih
        · exact absurd c16 (hk2 i hi)
  refine zC.of zpl_X6 (Nat.le_of_ble_eq_true rfl) ?_
  refine z_iconst 1 dX6_placeOf_0 rfl ?_
  refine z_istore_n 2 dX6_placeOf_1 rfl (by decide) ?_
  exact key 0 (Nat.zero_le _)
theorem c_X6_placeOf_none {N : Nat} {x : Int} (hT : zTel h t n m N D G E P) (hN : N ≤ 7) (hx : -2147483648 ≤ x ∧ x ≤ 2147483647) (hv : ∀ i : Nat, i < N → 0 ≤ P i ∧ P i < 8 ∧ 0 ≤ E (P i) ∧ E (P i) < 8) (hk2 : ∀ i : Nat, i < N → P i ≠ x) (hQ : Q (some (vI (-9))) h) : zC (d + 2) mX6_placeOf 0 0 [vR t, vI x] h Q := by
  have zh0 := hT.2.1
  have key : ∀ i : Nat, i ≤ N → Z (d + 2) mX6_placeOf zo 2 [some (vR t), some (vI x), some (vI i)] [] h Q := by
    refine z_loop N ?_ ?_
    · refine z_iload_n 3 dX6_placeOf_2 rfl rfl ?_
      refine z_aload_n 4 dX6_placeOf_3 rfl rfl ?_
      refine z_getf (ci := 6) 7 dX6_placeOf_4 rfl rfl zin_6 2 (by decide) zw_90 (by first | with_reducible assumption | with_reducible exact zup_same _ _ _) rfl ?_
      refine z_icmp_ge 27 10 dX6_placeOf_7 (by decide) rfl (by first | omega | exact zr_b _ | exact zr_and _ _ | exact zr_or _ _ | exact zr_shl _ _) (by first | omega | exact zr_b _ | exact zr_and _ _ | exact zr_or _ _ | exact zr_shl _ _) (fun c7 => ?_) (fun c7 => ?_)
      · refine z_bipush 29 dX6_placeOf_27 rfl (by decide) ?_
        refine z_ret dX6_placeOf_29 (by first | exact True.intro | exact Or.inl rfl | exact Or.inr rfl | exact zb_01 _ | assumption | (show _ ∨ _; omega)) ⟨Nat.le_refl _, Nat.le_refl _⟩ ?_
        exact hQ
      · exfalso; omega
    · intro i hi ih
      have hvi := hv i (by omega)
      refine z_iload_n 3 dX6_placeOf_2 rfl rfl ?_
      refine z_aload_n 4 dX6_placeOf_3 rfl rfl ?_
      refine z_getf (ci := 6) 7 dX6_placeOf_4 rfl rfl zin_6 2 (by decide) zw_90 (by first | with_reducible assumption | with_reducible exact zup_same _ _ _) rfl ?_
      refine z_icmp_ge 27 10 dX6_placeOf_7 (by decide) rfl (by first | omega | exact zr_b _ | exact zr_and _ _ | exact zr_or _ _ | exact zr_shl _ _) (by first | omega | exact zr_b _ | exact zr_and _ _ | exact zr_or _ _ | exact zr_shl _ _) (fun c7 => ?_) (fun c7 => ?_)
      · exfalso; omega
      · refine z_aload_n 11 dX6_placeOf_10 rfl rfl ?_
        refine z_iload_n 12 dX6_placeOf_11 rfl rfl ?_
        refine z_cV1 15 dX6_placeOf_12 rfl kX6_personAt zw_493 (Nat.le_of_ble_eq_true rfl) ⟨Nat.le_refl _, Nat.le_refl _⟩ (by first | with_reducible assumption | with_reducible exact zup_same _ _ _) ?_
        refine c_X6_personAt hT (by omega) ?_
        refine z_iload_n 16 dX6_placeOf_15 rfl rfl ?_
        refine z_icmp_ne 21 19 dX6_placeOf_16 (by decide) rfl (by first | omega | exact zr_b _ | exact zr_and _ _ | exact zr_or _ _ | exact zr_shl _ _) (by first | omega | exact zr_b _ | exact zr_and _ _ | exact zr_or _ _ | exact zr_shl _ _) (fun c16 => ?_) (fun c16 => ?_)
        · refine z_iinc 24 dX6_placeOf_21 rfl (by decide) rfl ?_
          refine z_goto 2 dX6_placeOf_24 (by decide) ?_
          exact ih
        · exact absurd c16 (hk2 i hi)
  refine zC.of zpl_X6 (Nat.le_of_ble_eq_true rfl) ?_
  refine z_iconst 1 dX6_placeOf_0 rfl ?_
  refine z_istore_n 2 dX6_placeOf_1 rfl (by decide) ?_
  exact key 0 (Nat.zero_le _)
theorem c_X6_branchOf {N : Nat} {p : Int} (hT : zTel h t n m N D G E P) (hN : N ≤ 7) (hv : ∀ i : Nat, i < N → 0 ≤ P i ∧ P i < 8 ∧ 0 ≤ E (P i) ∧ E (P i) < 8) (hQ : Q (some (vI (zbrn E P p N))) h) : zC (d + 2) mX6_branchOf 0 0 [vR t, vI p] h Q := by
  have zh0 := hT.2.1
  have key : ∀ i : Nat, i ≤ N → ∀ w : Option zV, Z (d + 2) mX6_branchOf zo 6 [some (vR t), some (vI p), some (vI (zbrn E P p i)), some (vI i), w] [] h Q := by
    refine z_loop N ?_ ?_
    · intro w
      refine z_iload_n 7 dX6_branchOf_6 rfl rfl ?_
      refine z_aload_n 8 dX6_branchOf_7 rfl rfl ?_
      refine z_getf (ci := 6) 11 dX6_branchOf_8 rfl rfl zin_6 2 (by decide) zw_90 (by first | with_reducible assumption | with_reducible exact zup_same _ _ _) rfl ?_
      refine z_icmp_ge 47 14 dX6_branchOf_11 (by decide) rfl (by first | omega | exact zr_b _ | exact zr_and _ _ | exact zr_or _ _ | exact zr_shl _ _) (by first | omega | exact zr_b _ | exact zr_and _ _ | exact zr_or _ _ | exact zr_shl _ _) (fun c11 => ?_) (fun c11 => ?_)
      · refine z_iload_n 48 dX6_branchOf_47 rfl rfl ?_
        refine z_ret dX6_branchOf_48 (by first | exact True.intro | exact Or.inl rfl | exact Or.inr rfl | exact zb_01 _ | assumption | (show _ ∨ _; omega)) ⟨Nat.le_refl _, Nat.le_refl _⟩ ?_
        exact hQ
      · exfalso; omega
    · intro i hi ih w
      have hvi := hv i hi
      refine z_iload_n 7 dX6_branchOf_6 rfl rfl ?_
      refine z_aload_n 8 dX6_branchOf_7 rfl rfl ?_
      refine z_getf (ci := 6) 11 dX6_branchOf_8 rfl rfl zin_6 2 (by decide) zw_90 (by first | with_reducible assumption | with_reducible exact zup_same _ _ _) rfl ?_
      refine z_icmp_ge 47 14 dX6_branchOf_11 (by decide) rfl (by first | omega | exact zr_b _ | exact zr_and _ _ | exact zr_or _ _ | exact zr_shl _ _) (by first | omega | exact zr_b _ | exact zr_and _ _ | exact zr_or _ _ | exact zr_shl _ _) (fun c11 => ?_) (fun c11 => ?_)
      · exfalso; omega
      · refine z_aload_n 15 dX6_branchOf_14 rfl rfl ?_
        refine z_iload_n 16 dX6_branchOf_15 rfl rfl ?_
        refine z_cV1 19 dX6_branchOf_16 rfl kX6_personAt zw_493 (Nat.le_of_ble_eq_true rfl) ⟨Nat.le_refl _, Nat.le_refl _⟩ (by first | with_reducible assumption | with_reducible exact zup_same _ _ _) ?_
        refine c_X6_personAt hT (by omega) ?_
        refine z_istore 21 dX6_branchOf_19 rfl (by decide) ?_
        refine z_iload_n 22 dX6_branchOf_21 rfl rfl ?_
        refine z_aload_n 23 dX6_branchOf_22 rfl rfl ?_
        refine z_iload 25 dX6_branchOf_23 rfl rfl ?_
        refine z_cV1 28 dX6_branchOf_25 rfl kX6_tellerOf zw_498 (Nat.le_of_ble_eq_true rfl) ⟨Nat.le_refl _, Nat.le_refl _⟩ (by first | with_reducible assumption | with_reducible exact zup_same _ _ _) ?_
        refine c_X6_tellerOf hT (by omega) ?_
        refine z_ishr 29 dX6_branchOf_28 rfl ?_
        refine z_iconst 30 dX6_branchOf_29 rfl ?_
        refine z_iand 31 dX6_branchOf_30 rfl ?_
        refine z_if_eq 41 34 dX6_branchOf_31 (by decide) rfl (by first | omega | exact zr_b _ | exact zr_and _ _ | exact zr_or _ _ | exact zr_shl _ _) (fun c31 => ?_) (fun c31 => ?_)
        · try replace c31 := zb_0 c31
          rw [show zbrn E P p (i + 1) = zbrn E P p i from if_pos c31] at ih
          refine z_iinc 44 dX6_branchOf_41 rfl (by decide) rfl ?_
          refine z_goto 6 dX6_branchOf_44 (by decide) ?_
          exact ih _
        · try replace c31 := zb_1 c31
          rw [show zbrn E P p (i + 1) = zor (zbrn E P p i) (zshl 1 (P i)) from if_neg c31] at ih
          refine z_iload_n 35 dX6_branchOf_34 rfl rfl ?_
          refine z_iconst 36 dX6_branchOf_35 rfl ?_
          refine z_iload 38 dX6_branchOf_36 rfl rfl ?_
          refine z_ishl 39 dX6_branchOf_38 rfl ?_
          refine z_ior 40 dX6_branchOf_39 rfl ?_
          refine z_istore_n 41 dX6_branchOf_40 rfl (by decide) ?_
          refine z_iinc 44 dX6_branchOf_41 rfl (by decide) rfl ?_
          refine z_goto 6 dX6_branchOf_44 (by decide) ?_
          exact ih _
  refine zC.of zpl_X6 (Nat.le_of_ble_eq_true rfl) ?_
  refine z_iconst 1 dX6_branchOf_0 rfl ?_
  refine z_iload_n 2 dX6_branchOf_1 rfl rfl ?_
  refine z_ishl 3 dX6_branchOf_2 rfl ?_
  refine z_istore_n 4 dX6_branchOf_3 rfl (by decide) ?_
  refine z_iconst 5 dX6_branchOf_4 rfl ?_
  refine z_istore_n 6 dX6_branchOf_5 rfl (by decide) ?_
  exact key 0 (Nat.zero_le _) _
theorem c_X6_exchange {i : Int} (hT : zTel h t n m s D G E P) (hi : 0 ≤ i ∧ i < 7) (hQ : Q none (zup h (t + 4) (zI 8 (zst (zst P i (P (i + 1))) (i + 1) (P i))))) : zC (d + 2) mX6_exchange 0 0 [vR t, vI i] h Q := by
  have h2 := hT.1
  refine zC.of zpl_X6 (Nat.le_of_ble_eq_true rfl) ?_
  have zh0 := hT.2.1
  refine z_aload_n 1 dX6_exchange_0 rfl rfl ?_
  refine z_iload_n 2 dX6_exchange_1 rfl rfl ?_
  refine z_cV1 5 dX6_exchange_2 rfl kX6_personAt zw_493 (Nat.le_of_ble_eq_true rfl) ⟨Nat.le_refl _, Nat.le_refl _⟩ (by first | with_reducible assumption | with_reducible exact zup_same _ _ _) ?_
  refine c_X6_personAt hT (by omega) ?_
  refine z_istore_n 6 dX6_exchange_5 rfl (by decide) ?_
  refine z_aload_n 7 dX6_exchange_6 rfl rfl ?_
  refine z_getf (ci := 6) 10 dX6_exchange_7 rfl rfl zin_6 6 (by decide) zw_94 (by first | with_reducible assumption | with_reducible exact zup_same _ _ _) rfl ?_
  refine z_iload_n 11 dX6_exchange_10 rfl rfl ?_
  refine z_aload_n 12 dX6_exchange_11 rfl rfl ?_
  refine z_iload_n 13 dX6_exchange_12 rfl rfl ?_
  refine z_iconst 14 dX6_exchange_13 rfl ?_
  refine z_iadd 15 dX6_exchange_14 rfl ?_
  refine z_cV1 18 dX6_exchange_15 rfl kX6_personAt zw_493 (Nat.le_of_ble_eq_true rfl) ⟨Nat.le_refl _, Nat.le_refl _⟩ (by first | with_reducible assumption | with_reducible exact zup_same _ _ _) ?_
  refine c_X6_personAt hT (by omega) ?_
  refine z_cSN3 21 dX6_exchange_18 rfl kX9_put zn_340 (Nat.le_of_ble_eq_true rfl) ⟨Nat.le_refl _, Nat.le_refl _⟩ ?_
  refine c_X9_put hT.2.2.2.2.2 (by decide) (by omega) (by omega) ?_
  have hT := hT.pl (zst P i (P (i + 1)))
  have zh0 := hT.2.1
  refine z_aload_n 22 dX6_exchange_21 rfl rfl ?_
  refine z_getf (ci := 6) 25 dX6_exchange_22 rfl rfl zin_6 6 (by decide) zw_94 (by first | with_reducible assumption | with_reducible exact zup_same _ _ _) rfl ?_
  refine z_iload_n 26 dX6_exchange_25 rfl rfl ?_
  refine z_iconst 27 dX6_exchange_26 rfl ?_
  refine z_iadd 28 dX6_exchange_27 rfl ?_
  refine z_iload_n 29 dX6_exchange_28 rfl rfl ?_
  refine z_cSN3 32 dX6_exchange_29 rfl kX9_put zn_340 (Nat.le_of_ble_eq_true rfl) ⟨Nat.le_refl _, Nat.le_refl _⟩ ?_
  refine c_X9_put hT.2.2.2.2.2 (by decide) (by omega) (by omega) ?_
  rw [zup_zup]
  refine z_vret dX6_exchange_32 (by first | exact True.intro | exact Or.inl rfl | exact Or.inr rfl | exact zb_01 _ | assumption | (show _ ∨ _; omega)) ⟨Nat.le_refl _, Nat.le_refl _⟩ ?_
  exact hQ
theorem c_X6_tellAnew0 {p v : Int} (hT : zTel h t n m s D G E P) (hp : 0 ≤ p ∧ p < 8) (hQ : Q (some (vI (D p))) (zup h (t + 1) (zI 8 (zst D p v)))) : zC (d + 2) mX6_tellAnew 0 0 [vR t, vI p, vI 0, vI v] h Q := by
  have zh0 := hT.2.1
  refine zC.of zpl_X6 (Nat.le_of_ble_eq_true rfl) ?_
  refine z_iload_n 1 dX6_tellAnew_0 rfl rfl ?_
  refine z_if_ne 20 4 dX6_tellAnew_1 (by decide) rfl (by first | omega | exact zr_b _ | exact zr_and _ _ | exact zr_or _ _ | exact zr_shl _ _) (fun c1 => ?_) (fun c1 => ?_)
  · exact absurd rfl c1
  · try replace c1 := zb_0 c1
    refine z_aload_n 5 dX6_tellAnew_4 rfl rfl ?_
    refine z_iload_n 6 dX6_tellAnew_5 rfl rfl ?_
    refine z_cV1 9 dX6_tellAnew_6 rfl kX6_delayOf zw_590 (Nat.le_of_ble_eq_true rfl) ⟨Nat.le_refl _, Nat.le_refl _⟩ (by first | with_reducible assumption | with_reducible exact zup_same _ _ _) ?_
    refine c_X6_delayOf hT (by omega) ?_
    refine z_istore 11 dX6_tellAnew_9 rfl (by decide) ?_
    refine z_aload_n 12 dX6_tellAnew_11 rfl rfl ?_
    refine z_iload_n 13 dX6_tellAnew_12 rfl rfl ?_
    refine z_iload_n 14 dX6_tellAnew_13 rfl rfl ?_
    refine z_cV2 17 dX6_tellAnew_14 rfl kX6_setDelay zw_591 (Nat.le_of_ble_eq_true rfl) ⟨Nat.le_refl _, Nat.le_refl _⟩ (by first | with_reducible assumption | with_reducible exact zup_same _ _ _) ?_
    refine c_X6_setDelay hT (by omega) ?_
    refine z_goto 52 dX6_tellAnew_17 (by decide) ?_
    refine z_iload 54 dX6_tellAnew_52 rfl rfl ?_
    refine z_ret dX6_tellAnew_54 (by first | exact True.intro | exact Or.inl rfl | exact Or.inr rfl | exact zb_01 _ | assumption | (show _ ∨ _; omega)) ⟨Nat.le_refl _, Nat.le_refl _⟩ ?_
    exact hQ
theorem c_X6_tellAnew1 {p v : Int} (hT : zTel h t n m s D G E P) (hp : 0 ≤ p ∧ p < 8) (hQ : Q (some (vI (G p))) (zup h (t + 2) (zI 8 (zst G p v)))) : zC (d + 2) mX6_tellAnew 0 0 [vR t, vI p, vI 1, vI v] h Q := by
  have zh0 := hT.2.1
  refine zC.of zpl_X6 (Nat.le_of_ble_eq_true rfl) ?_
  refine z_iload_n 1 dX6_tellAnew_0 rfl rfl ?_
  refine z_if_ne 20 4 dX6_tellAnew_1 (by decide) rfl (by first | omega | exact zr_b _ | exact zr_and _ _ | exact zr_or _ _ | exact zr_shl _ _) (fun c1 => ?_) (fun c1 => ?_)
  · try replace c1 := zb_1 c1
    refine z_iload_n 21 dX6_tellAnew_20 rfl rfl ?_
    refine z_iconst 22 dX6_tellAnew_21 rfl ?_
    refine z_icmp_ne 41 25 dX6_tellAnew_22 (by decide) rfl (by first | omega | exact zr_b _ | exact zr_and _ _ | exact zr_or _ _ | exact zr_shl _ _) (by first | omega | exact zr_b _ | exact zr_and _ _ | exact zr_or _ _ | exact zr_shl _ _) (fun c22 => ?_) (fun c22 => ?_)
    · exact absurd rfl c22
    · refine z_aload_n 26 dX6_tellAnew_25 rfl rfl ?_
      refine z_iload_n 27 dX6_tellAnew_26 rfl rfl ?_
      refine z_cV1 30 dX6_tellAnew_27 rfl kX6_gapOf zw_592 (Nat.le_of_ble_eq_true rfl) ⟨Nat.le_refl _, Nat.le_refl _⟩ (by first | with_reducible assumption | with_reducible exact zup_same _ _ _) ?_
      refine c_X6_gapOf hT (by omega) ?_
      refine z_istore 32 dX6_tellAnew_30 rfl (by decide) ?_
      refine z_aload_n 33 dX6_tellAnew_32 rfl rfl ?_
      refine z_iload_n 34 dX6_tellAnew_33 rfl rfl ?_
      refine z_iload_n 35 dX6_tellAnew_34 rfl rfl ?_
      refine z_cV2 38 dX6_tellAnew_35 rfl kX6_setGap zw_593 (Nat.le_of_ble_eq_true rfl) ⟨Nat.le_refl _, Nat.le_refl _⟩ (by first | with_reducible assumption | with_reducible exact zup_same _ _ _) ?_
      refine c_X6_setGap hT (by omega) ?_
      refine z_goto 52 dX6_tellAnew_38 (by decide) ?_
      refine z_iload 54 dX6_tellAnew_52 rfl rfl ?_
      refine z_ret dX6_tellAnew_54 (by first | exact True.intro | exact Or.inl rfl | exact Or.inr rfl | exact zb_01 _ | assumption | (show _ ∨ _; omega)) ⟨Nat.le_refl _, Nat.le_refl _⟩ ?_
      exact hQ
  · exfalso; omega
theorem c_X6_tellAnew2 {p v : Int} (hT : zTel h t n m s D G E P) (hQ : Q (some (vI m)) (zup h t (zO 6 [vI n, vI v, vI s, vR (t + 1), vR (t + 2), vR (t + 3), vR (t + 4)]))) : zC (d + 2) mX6_tellAnew 0 0 [vR t, vI p, vI 2, vI v] h Q := by
  have zh0 := hT.2.1
  have h2 := hT.1
  refine zC.of zpl_X6 (Nat.le_of_ble_eq_true rfl) ?_
  refine z_iload_n 1 dX6_tellAnew_0 rfl rfl ?_
  refine z_if_ne 20 4 dX6_tellAnew_1 (by decide) rfl (by first | omega | exact zr_b _ | exact zr_and _ _ | exact zr_or _ _ | exact zr_shl _ _) (fun c1 => ?_) (fun c1 => ?_)
  · try replace c1 := zb_1 c1
    refine z_iload_n 21 dX6_tellAnew_20 rfl rfl ?_
    refine z_iconst 22 dX6_tellAnew_21 rfl ?_
    refine z_icmp_ne 41 25 dX6_tellAnew_22 (by decide) rfl (by first | omega | exact zr_b _ | exact zr_and _ _ | exact zr_or _ _ | exact zr_shl _ _) (by first | omega | exact zr_b _ | exact zr_and _ _ | exact zr_or _ _ | exact zr_shl _ _) (fun c22 => ?_) (fun c22 => ?_)
    · refine z_aload_n 42 dX6_tellAnew_41 rfl rfl ?_
      refine z_getf (ci := 6) 45 dX6_tellAnew_42 rfl rfl zin_6 1 (by decide) zw_89 (by first | with_reducible assumption | with_reducible exact zup_same _ _ _) rfl ?_
      refine z_istore 47 dX6_tellAnew_45 rfl (by decide) ?_
      refine z_aload_n 48 dX6_tellAnew_47 rfl rfl ?_
      refine z_iload_n 49 dX6_tellAnew_48 rfl rfl ?_
      refine z_putf (ci := 6) 52 dX6_tellAnew_49 rfl rfl zin_6 tyX6_ok nmX6 1 (by decide) zw_89 rfl (fun _ => ⟨rfl, rfl⟩) (by omega) (by first | with_reducible assumption | with_reducible exact zup_same _ _ _) (Nat.le_of_ble_eq_true rfl) ?_
      refine z_iload 54 dX6_tellAnew_52 rfl rfl ?_
      refine z_ret dX6_tellAnew_54 (by first | exact True.intro | exact Or.inl rfl | exact Or.inr rfl | exact zb_01 _ | assumption | (show _ ∨ _; omega)) ⟨Nat.le_refl _, Nat.le_refl _⟩ ?_
      exact hQ
    · exfalso; omega
  · exfalso; omega
theorem c_X6_sendBehindAll {N : Nat} {a : Int} (hT : zTel h t n m N D G E P) (hN : N ≤ 7) (ha : 0 ≤ a ∧ a < N) (hQ : Q none (zup h (t + 4) (zI 8 (zrot P a N)))) : zC (d + 2) mX6_sendBehindAll 0 0 [vR t, vI a] h Q := by
  have h2 := hT.1
  obtain ⟨a0, rfl⟩ : ∃ a0 : Nat, a = (a0 : Int) := ⟨a.toNat, by omega⟩
  have key : ∀ i : Nat, i ≤ N - 1 → a0 ≤ i → Z (d + 2) mX6_sendBehindAll zo 8 [some (vR t), some (vI a0), some (vI (P a0)), some (vI i)] [] (zup h (t + 4) (zI 8 (zshf P a0 i))) Q := by
    refine z_loop (N - 1) ?_ ?_
    · intro hai
      have hT := hT.pl (zshf P a0 ((N - 1 : Nat) : Int))
      have zh0 := hT.2.1
      have e1 : ((N - 1 : Nat) : Int) = N - 1 := by omega
      refine z_iload_n 9 dX6_sendBehindAll_8 rfl rfl ?_
      refine z_aload_n 10 dX6_sendBehindAll_9 rfl rfl ?_
      refine z_getf (ci := 6) 13 dX6_sendBehindAll_10 rfl rfl zin_6 2 (by decide) zw_90 (by first | with_reducible assumption | with_reducible exact zup_same _ _ _) rfl ?_
      refine z_iconst 14 dX6_sendBehindAll_13 rfl ?_
      refine z_isub 15 dX6_sendBehindAll_14 rfl ?_
      refine z_icmp_ge 39 18 dX6_sendBehindAll_15 (by decide) rfl (by first | omega | exact zr_b _ | exact zr_and _ _ | exact zr_or _ _ | exact zr_shl _ _) (by first | omega | exact zr_b _ | exact zr_and _ _ | exact zr_or _ _ | exact zr_shl _ _) (fun c15 => ?_) (fun c15 => ?_)
      · refine z_aload_n 40 dX6_sendBehindAll_39 rfl rfl ?_
        refine z_getf (ci := 6) 43 dX6_sendBehindAll_40 rfl rfl zin_6 6 (by decide) zw_94 (by first | with_reducible assumption | with_reducible exact zup_same _ _ _) rfl ?_
        refine z_aload_n 44 dX6_sendBehindAll_43 rfl rfl ?_
        refine z_getf (ci := 6) 47 dX6_sendBehindAll_44 rfl rfl zin_6 2 (by decide) zw_90 (by first | with_reducible assumption | with_reducible exact zup_same _ _ _) rfl ?_
        refine z_iconst 48 dX6_sendBehindAll_47 rfl ?_
        refine z_isub 49 dX6_sendBehindAll_48 rfl ?_
        refine z_iload_n 50 dX6_sendBehindAll_49 rfl rfl ?_
        refine z_cSN3 53 dX6_sendBehindAll_50 rfl kX9_put zn_340 (Nat.le_of_ble_eq_true rfl) ⟨Nat.le_refl _, Nat.le_refl _⟩ ?_
        refine c_X9_put hT.2.2.2.2.2 (by decide) (by omega) (by omega) ?_
        rw [zup_zup, e1, zshf_e P (by omega)]
        refine z_vret dX6_sendBehindAll_53 (by first | exact True.intro | exact Or.inl rfl | exact Or.inr rfl | exact zb_01 _ | assumption | (show _ ∨ _; omega)) ⟨Nat.le_refl _, Nat.le_refl _⟩ ?_
        exact hQ
      · exfalso; omega
    · intro i hi ih hai
      have hT := hT.pl (zshf P a0 i)
      have zh0 := hT.2.1
      refine z_iload_n 9 dX6_sendBehindAll_8 rfl rfl ?_
      refine z_aload_n 10 dX6_sendBehindAll_9 rfl rfl ?_
      refine z_getf (ci := 6) 13 dX6_sendBehindAll_10 rfl rfl zin_6 2 (by decide) zw_90 (by first | with_reducible assumption | with_reducible exact zup_same _ _ _) rfl ?_
      refine z_iconst 14 dX6_sendBehindAll_13 rfl ?_
      refine z_isub 15 dX6_sendBehindAll_14 rfl ?_
      refine z_icmp_ge 39 18 dX6_sendBehindAll_15 (by decide) rfl (by first | omega | exact zr_b _ | exact zr_and _ _ | exact zr_or _ _ | exact zr_shl _ _) (by first | omega | exact zr_b _ | exact zr_and _ _ | exact zr_or _ _ | exact zr_shl _ _) (fun c15 => ?_) (fun c15 => ?_)
      · exfalso; omega
      · refine z_aload_n 19 dX6_sendBehindAll_18 rfl rfl ?_
        refine z_getf (ci := 6) 22 dX6_sendBehindAll_19 rfl rfl zin_6 6 (by decide) zw_94 (by first | with_reducible assumption | with_reducible exact zup_same _ _ _) rfl ?_
        refine z_iload_n 23 dX6_sendBehindAll_22 rfl rfl ?_
        refine z_aload_n 24 dX6_sendBehindAll_23 rfl rfl ?_
        refine z_iload_n 25 dX6_sendBehindAll_24 rfl rfl ?_
        refine z_iconst 26 dX6_sendBehindAll_25 rfl ?_
        refine z_iadd 27 dX6_sendBehindAll_26 rfl ?_
        refine z_cV1 30 dX6_sendBehindAll_27 rfl kX6_personAt zw_493 (Nat.le_of_ble_eq_true rfl) ⟨Nat.le_refl _, Nat.le_refl _⟩ (by first | with_reducible assumption | with_reducible exact zup_same _ _ _) ?_
        refine c_X6_personAt hT (by omega) ?_
        refine z_cSN3 33 dX6_sendBehindAll_30 rfl kX9_put zn_340 (Nat.le_of_ble_eq_true rfl) ⟨Nat.le_refl _, Nat.le_refl _⟩ ?_
        refine c_X9_put hT.2.2.2.2.2 (by decide) (by omega) (by omega) ?_
        rw [zup_zup, zshf_s P (by omega)]
        refine z_iinc 36 dX6_sendBehindAll_33 rfl (by decide) rfl ?_
        refine z_goto 8 dX6_sendBehindAll_36 (by decide) ?_
        exact ih (by omega)
  have hz := hT.2.2.2.2.2
  refine zC.of zpl_X6 (Nat.le_of_ble_eq_true rfl) ?_
  have zh0 := hT.2.1
  refine z_aload_n 1 dX6_sendBehindAll_0 rfl rfl ?_
  refine z_iload_n 2 dX6_sendBehindAll_1 rfl rfl ?_
  refine z_cV1 5 dX6_sendBehindAll_2 rfl kX6_personAt zw_493 (Nat.le_of_ble_eq_true rfl) ⟨Nat.le_refl _, Nat.le_refl _⟩ (by first | with_reducible assumption | with_reducible exact zup_same _ _ _) ?_
  refine c_X6_personAt hT (by omega) ?_
  refine z_istore_n 6 dX6_sendBehindAll_5 rfl (by decide) ?_
  refine z_iload_n 7 dX6_sendBehindAll_6 rfl rfl ?_
  refine z_istore_n 8 dX6_sendBehindAll_7 rfl (by decide) ?_
  have k := key a0 (by omega) (Nat.le_refl _)
  rw [zshf_0, zup_self h hz] at k
  exact k
theorem c_X6_giveTeller {N : Nat} {p e : Int} (hT : zTel h t n m N D G E P) (hN : N ≤ 7) (hp : 0 ≤ p ∧ p < 8) (hv : ∀ i : Nat, i < N → 0 ≤ P i ∧ P i < 8 ∧ 0 ≤ E (P i) ∧ E (P i) < 8) (hQ : Q none (zup (zup h (t + 3) (zI 8 (zst E p e))) (t + 4) (zI 8 (zgv (zbrn E P p N) N P N).2))) : zC (d + 3) mX6_giveTeller 0 0 [vR t, vI p, vI e] h Q := by
  have h2 := hT.1
  have zh0 := hT.2.1
  have hT2 := hT.tl (zst E p e)
  generalize hb : zbrn E P p N = b at hQ
  generalize hh : zup h (t + 3) (zI 8 (zst E p e)) = h1 at hQ hT2
  have key : ∀ i : Nat, i ≤ N → Z (d + 3) mX6_giveTeller zo 21 [some (vR t), some (vI p), some (vI e), some (vI b), some (vI (zgv b N P i).1), some (vI i)] [] (zup h1 (t + 4) (zI 8 (zgv b N P i).2)) Q := by
    refine z_loop N ?_ ?_
    · have hT := hT2.pl (zgv b N P N).2
      have zh0 := hT.2.1
      refine z_iload 23 dX6_giveTeller_21 rfl rfl ?_
      refine z_aload_n 24 dX6_giveTeller_23 rfl rfl ?_
      refine z_getf (ci := 6) 27 dX6_giveTeller_24 rfl rfl zin_6 2 (by decide) zw_90 (by first | with_reducible assumption | with_reducible exact zup_same _ _ _) rfl ?_
      refine z_icmp_ge 61 30 dX6_giveTeller_27 (by decide) rfl (by first | omega | exact zr_b _ | exact zr_and _ _ | exact zr_or _ _ | exact zr_shl _ _) (by first | omega | exact zr_b _ | exact zr_and _ _ | exact zr_or _ _ | exact zr_shl _ _) (fun c27 => ?_) (fun c27 => ?_)
      · refine z_vret dX6_giveTeller_61 (by first | exact True.intro | exact Or.inl rfl | exact Or.inr rfl | exact zb_01 _ | assumption | (show _ ∨ _; omega)) ⟨Nat.le_refl _, Nat.le_refl _⟩ ?_
        exact hQ
      · exfalso; omega
    · intro i hi ih
      have hT := hT2.pl (zgv b N P i).2
      have zh0 := hT.2.1
      have hg := zgv_le b N P i
      refine z_iload 23 dX6_giveTeller_21 rfl rfl ?_
      refine z_aload_n 24 dX6_giveTeller_23 rfl rfl ?_
      refine z_getf (ci := 6) 27 dX6_giveTeller_24 rfl rfl zin_6 2 (by decide) zw_90 (by first | with_reducible assumption | with_reducible exact zup_same _ _ _) rfl ?_
      refine z_icmp_ge 61 30 dX6_giveTeller_27 (by decide) rfl (by first | omega | exact zr_b _ | exact zr_and _ _ | exact zr_or _ _ | exact zr_shl _ _) (by first | omega | exact zr_b _ | exact zr_and _ _ | exact zr_or _ _ | exact zr_shl _ _) (fun c27 => ?_) (fun c27 => ?_)
      · exfalso; omega
      · refine z_iload_n 31 dX6_giveTeller_30 rfl rfl ?_
        refine z_aload_n 32 dX6_giveTeller_31 rfl rfl ?_
        refine z_iload 34 dX6_giveTeller_32 rfl rfl ?_
        refine z_cV1 37 dX6_giveTeller_34 rfl kX6_personAt zw_493 (Nat.le_of_ble_eq_true rfl) ⟨Nat.le_refl _, Nat.le_refl _⟩ (by first | with_reducible assumption | with_reducible exact zup_same _ _ _) ?_
        refine c_X6_personAt hT (by omega) ?_
        refine z_ishr 38 dX6_giveTeller_37 rfl ?_
        refine z_iconst 39 dX6_giveTeller_38 rfl ?_
        refine z_iand 40 dX6_giveTeller_39 rfl ?_
        refine z_if_eq 52 43 dX6_giveTeller_40 (by decide) rfl (by first | omega | exact zr_b _ | exact zr_and _ _ | exact zr_or _ _ | exact zr_shl _ _) (fun c40 => ?_) (fun c40 => ?_)
        · try replace c40 := zb_0 c40
          rw [show zgv b N P (i + 1) = ((zgv b N P i).1 + 1, (zgv b N P i).2) from if_pos c40] at ih
          refine z_iinc 55 dX6_giveTeller_52 rfl (by decide) rfl ?_
          refine z_iinc 58 dX6_giveTeller_55 rfl (by decide) rfl ?_
          refine z_goto 21 dX6_giveTeller_58 (by decide) ?_
          exact ih
        · try replace c40 := zb_1 c40
          rw [show zgv b N P (i + 1) = ((zgv b N P i).1, zrot (zgv b N P i).2 (zgv b N P i).1 N) from if_neg c40] at ih
          refine z_aload_n 44 dX6_giveTeller_43 rfl rfl ?_
          refine z_iload 46 dX6_giveTeller_44 rfl rfl ?_
          refine z_cV1 49 dX6_giveTeller_46 rfl kX6_sendBehindAll zw_560 (Nat.le_of_ble_eq_true rfl) ⟨Nat.le_refl _, Nat.le_refl _⟩ (by first | with_reducible assumption | with_reducible exact zup_same _ _ _) ?_
          refine c_X6_sendBehindAll hT hN (by omega) ?_
          rw [zup_zup]
          refine z_goto 55 dX6_giveTeller_49 (by decide) ?_
          refine z_iinc 58 dX6_giveTeller_55 rfl (by decide) rfl ?_
          refine z_goto 21 dX6_giveTeller_58 (by decide) ?_
          exact ih
  have hz := hT2.2.2.2.2.2
  refine zC.of zpl_X6 (Nat.le_of_ble_eq_true rfl) ?_
  refine z_aload_n 1 dX6_giveTeller_0 rfl rfl ?_
  refine z_iload_n 2 dX6_giveTeller_1 rfl rfl ?_
  refine z_cV1 5 dX6_giveTeller_2 rfl kX6_branchOf zw_559 (Nat.le_of_ble_eq_true rfl) ⟨Nat.le_refl _, Nat.le_refl _⟩ (by first | with_reducible assumption | with_reducible exact zup_same _ _ _) ?_
  refine c_X6_branchOf hT hN hv ?_
  rw [hb]
  refine z_istore_n 6 dX6_giveTeller_5 rfl (by decide) ?_
  refine z_aload_n 7 dX6_giveTeller_6 rfl rfl ?_
  refine z_getf (ci := 6) 10 dX6_giveTeller_7 rfl rfl zin_6 5 (by decide) zw_93 (by first | with_reducible assumption | with_reducible exact zup_same _ _ _) rfl ?_
  refine z_iload_n 11 dX6_giveTeller_10 rfl rfl ?_
  refine z_iload_n 12 dX6_giveTeller_11 rfl rfl ?_
  refine z_cSN3 15 dX6_giveTeller_12 rfl kX9_put zn_340 (Nat.le_of_ble_eq_true rfl) ⟨Nat.le_refl _, Nat.le_refl _⟩ ?_
  refine c_X9_put hT.2.2.2.2.1 (by decide) (by omega) (by omega) ?_
  rw [hh]
  refine z_iconst 16 dX6_giveTeller_15 rfl ?_
  refine z_istore 18 dX6_giveTeller_16 rfl (by decide) ?_
  refine z_iconst 19 dX6_giveTeller_18 rfl ?_
  refine z_istore 21 dX6_giveTeller_19 rfl (by decide) ?_
  have k := key 0 (Nat.zero_le _)
  rw [show (zgv b N P 0).2 = P from rfl, zup_self h1 hz] at k
  exact k
/-- all of another TELLING is taken over -/
theorem c_X6_become {u : Nat} {n' m' s' : Int} {D' G' E' P' : Int → Int} (hT : zTel h t n m s D G E P) (hU : zTel h u n' m' s' D' G' E' P') (hu : t + 4 < u ∨ u + 4 < t) (hQ : ∀ h', zTel h' t n' m' s' D' G' E' P' → zMod t (t + 4) h h' → Q none h') : zC (d + 1) mX6_become 0 0 [vR t, vR u] h Q := by
  have h2 := hT.1
  have h2u := hU.1
  refine zC.of zpl_X6 (Nat.le_of_ble_eq_true rfl) ?_
  have zh0 := hT.2.1
  have zh1 := hU.2.1
  refine z_aload_n 1 dX6_become_0 rfl rfl ?_
  refine z_aload_n 2 dX6_become_1 rfl rfl ?_
  refine z_getf (ci := 6) 5 dX6_become_2 rfl rfl zin_6 0 (by decide) zw_88 (by first | with_reducible assumption | with_reducible exact zup_same _ _ _) rfl ?_
  refine z_putf (ci := 6) 8 dX6_become_5 rfl rfl zin_6 tyX6_ok nmX6 0 (by decide) zw_88 rfl (fun _ => ⟨rfl, rfl⟩) (by omega) (by first | with_reducible assumption | with_reducible exact zup_same _ _ _) (Nat.le_of_ble_eq_true rfl) ?_
  show Z _ _ _ _ _ _ (zup h t (zO 6 [vI n', vI m, vI s, vR (t + 1), vR (t + 2), vR (t + 3), vR (t + 4)])) _
  have hU1 := hU.ot (a := t) (c := zO 6 [vI n', vI m, vI s, vR (t + 1), vR (t + 2), vR (t + 3), vR (t + 4)]) (by omega)
  have zh1 := hU1.2.1
  refine z_aload_n 9 dX6_become_8 rfl rfl ?_
  refine z_aload_n 10 dX6_become_9 rfl rfl ?_
  refine z_getf (ci := 6) 13 dX6_become_10 rfl rfl zin_6 1 (by decide) zw_89 (by first | with_reducible assumption | with_reducible exact zup_same _ _ _) rfl ?_
  refine z_putf (ci := 6) 16 dX6_become_13 rfl rfl zin_6 tyX6_ok nmX6 1 (by decide) zw_89 rfl (fun _ => ⟨rfl, rfl⟩) (by omega) (by first | with_reducible assumption | with_reducible exact zup_same _ _ _) (Nat.le_of_ble_eq_true rfl) ?_
  show Z _ _ _ _ _ _ (zup (zup h t (zO 6 [vI n', vI m, vI s, vR (t + 1), vR (t + 2), vR (t + 3), vR (t + 4)])) t (zO 6 [vI n', vI m', vI s, vR (t + 1), vR (t + 2), vR (t + 3), vR (t + 4)])) _
  have hU2 := hU1.ot (a := t) (c := zO 6 [vI n', vI m', vI s, vR (t + 1), vR (t + 2), vR (t + 3), vR (t + 4)]) (by omega)
  have zh1 := hU2.2.1
  refine z_aload_n 17 dX6_become_16 rfl rfl ?_
  refine z_aload_n 18 dX6_become_17 rfl rfl ?_
  refine z_getf (ci := 6) 21 dX6_become_18 rfl rfl zin_6 2 (by decide) zw_90 (by first | with_reducible assumption | with_reducible exact zup_same _ _ _) rfl ?_
  refine z_putf (ci := 6) 24 dX6_become_21 rfl rfl zin_6 tyX6_ok nmX6 2 (by decide) zw_90 rfl (fun _ => ⟨rfl, rfl⟩) (by omega) (by first | with_reducible assumption | with_reducible exact zup_same _ _ _) (Nat.le_of_ble_eq_true rfl) ?_
  rw [zup_zup, zup_zup]
  have hU3 := hU.ot (a := t) (c := zO 6 [vI n', vI m', vI s', vR (t + 1), vR (t + 2), vR (t + 3), vR (t + 4)]) (by omega)
  have hT3 := hT.fd n' m' s'
  have hM := (zMod.rf t (t + 4) h).up (a := t) (zO 6 [vI n', vI m', vI s', vR (t + 1), vR (t + 2), vR (t + 3), vR (t + 4)]) (by omega)
  show Z _ _ _ _ _ _ (zup h t (zO 6 [vI n', vI m', vI s', vR (t + 1), vR (t + 2), vR (t + 3), vR (t + 4)])) _
  generalize zup h t (zO 6 [vI n', vI m', vI s', vR (t + 1), vR (t + 2), vR (t + 3), vR (t + 4)]) = h3 at hU3 hT3 hM ⊢
  have zh0 := hT3.2.1
  have zh1 := hU3.2.1
  refine z_aload_n 25 dX6_become_24 rfl rfl ?_
  refine z_getf (ci := 6) 28 dX6_become_25 rfl rfl zin_6 3 (by decide) zw_91 (by first | with_reducible assumption | with_reducible exact zup_same _ _ _) rfl ?_
  refine z_iconst 29 dX6_become_28 rfl ?_
  refine z_aload_n 30 dX6_become_29 rfl rfl ?_
  refine z_getf (ci := 6) 33 dX6_become_30 rfl rfl zin_6 3 (by decide) zw_91 (by first | with_reducible assumption | with_reducible exact zup_same _ _ _) rfl ?_
  refine z_iconst 34 dX6_become_33 rfl ?_
  refine z_bipush 36 dX6_become_34 rfl (by decide) ?_
  refine z_copy (N := 8) 39 dX6_become_36 rfl zw_414 zw_416 zw_415 zw_72 (Nat.le_of_ble_eq_true rfl) rfl (by decide) hU3.2.2.1 hT3.2.2.1 (by omega) (by omega) ?_
  have hU4 := hU3.ot (a := t + 1) (c := zI 8 D') (by omega)
  have hT4 := hT3.dl D'
  have hM := hM.up (a := t + 1) (zI 8 D') (by omega)
  have zh0 := hT4.2.1
  have zh1 := hU4.2.1
  refine z_aload_n 40 dX6_become_39 rfl rfl ?_
  refine z_getf (ci := 6) 43 dX6_become_40 rfl rfl zin_6 4 (by decide) zw_92 (by first | with_reducible assumption | with_reducible exact zup_same _ _ _) rfl ?_
  refine z_iconst 44 dX6_become_43 rfl ?_
  refine z_aload_n 45 dX6_become_44 rfl rfl ?_
  refine z_getf (ci := 6) 48 dX6_become_45 rfl rfl zin_6 4 (by decide) zw_92 (by first | with_reducible assumption | with_reducible exact zup_same _ _ _) rfl ?_
  refine z_iconst 49 dX6_become_48 rfl ?_
  refine z_bipush 51 dX6_become_49 rfl (by decide) ?_
  refine z_copy (N := 8) 54 dX6_become_51 rfl zw_414 zw_416 zw_415 zw_72 (Nat.le_of_ble_eq_true rfl) rfl (by decide) hU4.2.2.2.1 hT4.2.2.2.1 (by omega) (by omega) ?_
  have hU5 := hU4.ot (a := t + 2) (c := zI 8 G') (by omega)
  have hT5 := hT4.gp G'
  have hM := hM.up (a := t + 2) (zI 8 G') (by omega)
  have zh0 := hT5.2.1
  have zh1 := hU5.2.1
  refine z_aload_n 55 dX6_become_54 rfl rfl ?_
  refine z_getf (ci := 6) 58 dX6_become_55 rfl rfl zin_6 5 (by decide) zw_93 (by first | with_reducible assumption | with_reducible exact zup_same _ _ _) rfl ?_
  refine z_iconst 59 dX6_become_58 rfl ?_
  refine z_aload_n 60 dX6_become_59 rfl rfl ?_
  refine z_getf (ci := 6) 63 dX6_become_60 rfl rfl zin_6 5 (by decide) zw_93 (by first | with_reducible assumption | with_reducible exact zup_same _ _ _) rfl ?_
  refine z_iconst 64 dX6_become_63 rfl ?_
  refine z_bipush 66 dX6_become_64 rfl (by decide) ?_
  refine z_copy (N := 8) 69 dX6_become_66 rfl zw_414 zw_416 zw_415 zw_72 (Nat.le_of_ble_eq_true rfl) rfl (by decide) hU5.2.2.2.2.1 hT5.2.2.2.2.1 (by omega) (by omega) ?_
  have hU6 := hU5.ot (a := t + 3) (c := zI 8 E') (by omega)
  have hT6 := hT5.tl E'
  have hM := hM.up (a := t + 3) (zI 8 E') (by omega)
  have zh0 := hT6.2.1
  have zh1 := hU6.2.1
  refine z_aload_n 70 dX6_become_69 rfl rfl ?_
  refine z_getf (ci := 6) 73 dX6_become_70 rfl rfl zin_6 6 (by decide) zw_94 (by first | with_reducible assumption | with_reducible exact zup_same _ _ _) rfl ?_
  refine z_iconst 74 dX6_become_73 rfl ?_
  refine z_aload_n 75 dX6_become_74 rfl rfl ?_
  refine z_getf (ci := 6) 78 dX6_become_75 rfl rfl zin_6 6 (by decide) zw_94 (by first | with_reducible assumption | with_reducible exact zup_same _ _ _) rfl ?_
  refine z_iconst 79 dX6_become_78 rfl ?_
  refine z_bipush 81 dX6_become_79 rfl (by decide) ?_
  refine z_copy (N := 8) 84 dX6_become_81 rfl zw_414 zw_416 zw_415 zw_72 (Nat.le_of_ble_eq_true rfl) rfl (by decide) hU6.2.2.2.2.2 hT6.2.2.2.2.2 (by omega) (by omega) ?_
  refine z_vret dX6_become_84 (by first | exact True.intro | exact Or.inl rfl | exact Or.inr rfl | exact zb_01 _ | assumption | (show _ ∨ _; omega)) ⟨Nat.le_refl _, Nat.le_refl _⟩ ?_
  exact hQ _ (hT6.pl P') (hM.up (a := t + 4) (zI 8 P') (by omega))
end TEL2
