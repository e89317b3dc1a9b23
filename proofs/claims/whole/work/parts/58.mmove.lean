/-! THE MODEL: move -/
def zOL (F : Int → Int) (l : List Int) : Prop := ∀ (j : Nat) (x : Int), l[j]? = some x → F j = x
theorem zOL.nil (F : Int → Int) : zOL F [] := fun j x h => by simp at h
theorem zOL.snoc {F : Int → Int} {l : List Int} (h : zOL F l) (x : Int) {n : Int} (hn : n = l.length) : zOL (zst F n x) (l ++ [x]) := by
  intro j y hj
  rcases Nat.lt_trichotomy j l.length with e | e | e
  · rw [List.getElem?_append_left e] at hj
    rw [zst_ne _ _ (by omega)]
    exact h j y hj
  · subst e
    rw [List.getElem?_append_right (Nat.le_refl _), Nat.sub_self] at hj
    rw [hn, zst_same]
    simpa using hj
  · rw [List.getElem?_eq_none (by simp; omega)] at hj
    exact absurd hj (by simp)
section MMOVE
variable {d : Nat} {h : zH} {Q : Option zV → zH → Prop} {C : Int → Int} {l : Int} {N M : Nat} {D G E P R DI : Int → Int} {ac nx : Int} {KP IK SW ST : Int → Int} {sn sd B : Int} {s : zMS}
theorem zbrn_r (E P : Int → Int) (p : Int) : ∀ n : Nat, -2147483648 ≤ zbrn E P p n ∧ zbrn E P p n ≤ 2147483647
  | 0 => zr_shl _ _
  | n + 1 => by
    unfold zbrn
    split
    · exact zbrn_r E P p n
    · exact zr_or _ _
theorem c_X10_below {a : Nat} {p : Int} (hob : h.1 112 = some (zMO s)) (hn : s.n = ((N + 1 : Nat) : Int)) (hr : h.1 a = some (zI 33 R)) (hR : zRo N M D G E P R) (hO : zOK B N D G E P) (hp : 0 ≤ p ∧ p ≤ N) (hQ : Q (some (vI (zbrn E P p N))) h) : zC (d + 1) mX10_below 0 0 [vR 112, vR a, vI p] h Q := by
  have hN := hO.1
  have key : ∀ i : Nat, i ≤ N → ∀ o5 : Option zV, Z (d + 1) mX10_below zo 7 [some (vR 112), some (vR a), some (vI p), some (vI (zbrn E P p i)), some (vI i), o5] [] h Q := by
    refine z_loop N ?_ ?_
    · intro o5
      refine z_iload 9 dX10_below_7 rfl rfl ?_
      refine z_aload_n 10 dX10_below_9 rfl rfl ?_
      refine z_getf (ci := 10) 13 dX10_below_10 rfl rfl zin_10 2 (by decide) zw_766 (by first | with_reducible assumption | with_reducible exact zup_same _ _ _) rfl ?_
      rw [hn]
      refine z_iconst 14 dX10_below_13 rfl ?_
      refine z_isub 15 dX10_below_14 rfl ?_
      refine z_icmp_ge 58 18 dX10_below_15 (by decide) rfl (by first | omega | exact zr_b _ | exact zr_and _ _ | exact zr_or _ _ | exact zr_shl _ _) (by first | omega | exact zr_b _ | exact zr_and _ _ | exact zr_or _ _ | exact zr_shl _ _) (fun c15 => ?_) (fun c15 => ?_)
      · refine z_iload_n 59 dX10_below_58 rfl rfl ?_
        refine z_ret dX10_below_59 (by first | exact True.intro | exact Or.inl rfl | exact Or.inr rfl | exact zb_01 _ | assumption | (show _ ∨ _; omega)) ⟨Nat.le_refl _, Nat.le_refl _⟩ ?_
        exact hQ
      · exfalso; omega
    · intro i hi ih o5
      have e25 := hR.2.2.2 i hi
      have hq := hO.2.2.1 i hi
      have v8 := hO.v8 i hi
      have e17 := hR.2.2.1 (P i) hq.1 hq.2
      have hb := zbrn_r E P p i
      refine z_iload 9 dX10_below_7 rfl rfl ?_
      refine z_aload_n 10 dX10_below_9 rfl rfl ?_
      refine z_getf (ci := 10) 13 dX10_below_10 rfl rfl zin_10 2 (by decide) zw_766 (by first | with_reducible assumption | with_reducible exact zup_same _ _ _) rfl ?_
      rw [hn]
      refine z_iconst 14 dX10_below_13 rfl ?_
      refine z_isub 15 dX10_below_14 rfl ?_
      refine z_icmp_ge 58 18 dX10_below_15 (by decide) rfl (by first | omega | exact zr_b _ | exact zr_and _ _ | exact zr_or _ _ | exact zr_shl _ _) (by first | omega | exact zr_b _ | exact zr_and _ _ | exact zr_or _ _ | exact zr_shl _ _) (fun c15 => ?_) (fun c15 => ?_)
      · exfalso; omega
      · refine z_aload_n 19 dX10_below_18 rfl rfl ?_
        refine z_bipush 21 dX10_below_19 rfl (by decide) ?_
        refine z_iload 23 dX10_below_21 rfl rfl ?_
        refine z_iadd 24 dX10_below_23 rfl ?_
        refine z_iald 25 dX10_below_24 rfl (by first | with_reducible assumption | with_reducible exact zup_same _ _ _) (by omega) (by first | omega | exact zr_b _ | exact zr_and _ _ | exact zr_or _ _ | exact zr_shl _ _) ?_
        rw [e25]
        refine z_istore 27 dX10_below_25 rfl (by decide) ?_
        refine z_iload_n 28 dX10_below_27 rfl rfl ?_
        refine z_iload_n 29 dX10_below_28 rfl rfl ?_
        refine z_aload_n 30 dX10_below_29 rfl rfl ?_
        refine z_bipush 32 dX10_below_30 rfl (by decide) ?_
        refine z_iload 34 dX10_below_32 rfl rfl ?_
        refine z_iadd 35 dX10_below_34 rfl ?_
        refine z_iald 36 dX10_below_35 rfl (by first | with_reducible assumption | with_reducible exact zup_same _ _ _) (by omega) (by first | omega | exact zr_b _ | exact zr_and _ _ | exact zr_or _ _ | exact zr_shl _ _) ?_
        rw [e17]
        refine z_cS2 39 dX10_below_36 rfl kX10_has zw_873 (Nat.le_of_ble_eq_true rfl) ⟨Nat.le_refl _, Nat.le_refl _⟩ ?_
        refine c_X10_has hb (by omega) ?_
        refine z_if_eq 49 42 dX10_below_39 (by decide) rfl (by first | omega | exact zr_b _ | exact zr_and _ _ | exact zr_or _ _ | exact zr_shl _ _) (fun c39 => ?_) (fun c39 => ?_)
        · try replace c39 := zb_0 c39
          rw [show zbrn E P p (i + 1) = zbrn E P p i from if_pos ((z_has0 (by omega)).mpr (by simpa using c39))] at ih
          refine z_iconst 50 dX10_below_49 rfl ?_
          refine z_ior 51 dX10_below_50 rfl ?_
          refine z_istore_n 52 dX10_below_51 rfl (by decide) ?_
          refine z_iinc 55 dX10_below_52 rfl (by decide) rfl ?_
          refine z_goto 7 dX10_below_55 (by decide) ?_
          try rw [zor_z hb]
          exact ih _
        · try replace c39 := zb_1 c39
          rw [show zbrn E P p (i + 1) = zor (zbrn E P p i) (zshl 1 (P i)) from if_neg (fun q => by rw [(z_has0 (by omega)).mp q] at c39; exact absurd c39 (by decide))] at ih
          refine z_iconst 43 dX10_below_42 rfl ?_
          refine z_iload 45 dX10_below_43 rfl rfl ?_
          refine z_ishl 46 dX10_below_45 rfl ?_
          refine z_goto 50 dX10_below_46 (by decide) ?_
          refine z_ior 51 dX10_below_50 rfl ?_
          refine z_istore_n 52 dX10_below_51 rfl (by decide) ?_
          refine z_iinc 55 dX10_below_52 rfl (by decide) rfl ?_
          refine z_goto 7 dX10_below_55 (by decide) ?_
          try rw [zor_z hb]
          exact ih _
  refine zC.of zpl_X10 (Nat.le_of_ble_eq_true rfl) ?_
  refine z_iconst 1 dX10_below_0 rfl ?_
  refine z_iload_n 2 dX10_below_1 rfl rfl ?_
  refine z_ishl 3 dX10_below_2 rfl ?_
  refine z_istore_n 4 dX10_below_3 rfl (by decide) ?_
  refine z_iconst 5 dX10_below_4 rfl ?_
  refine z_istore 7 dX10_below_5 rfl (by decide) ?_
  exact key 0 (Nat.zero_le _) _
theorem c_X10_mayMove {a : Nat} {p t : Int} (hob : h.1 112 = some (zMO s)) (hn : s.n = ((N + 1 : Nat) : Int)) (hr : h.1 a = some (zI 33 R)) (hR : zRo N M D G E P R) (hO : zOK B N D G E P) (hp : 1 ≤ p ∧ p ≤ N) (ht : 0 ≤ t ∧ t ≤ N) (hQ : Q (some (vI (zb (zrfM N E P p t = 0)))) h) : zC (d + 2) mX10_mayMove 0 0 [vR 112, vR a, vI p, vI t] h Q := by
  have hN := hO.1
  have e17 := hR.2.2.1 p hp.1 hp.2
  obtain ⟨j, hj, ej⟩ := hO.surj p hp.1 hp.2
  have v8 := hO.v8 j hj
  rw [ej] at v8
  have hz : zrfM N E P p t = if t = E p ∨ zkb (zbrn E P p N) t = true then -3 else 0 := if_neg (by omega)
  refine zC.of zpl_X10 (Nat.le_of_ble_eq_true rfl) ?_
  refine z_aload_n 1 dX10_mayMove_0 rfl rfl ?_
  refine z_bipush 3 dX10_mayMove_1 rfl (by decide) ?_
  refine z_iload_n 4 dX10_mayMove_3 rfl rfl ?_
  refine z_iadd 5 dX10_mayMove_4 rfl ?_
  refine z_iald 6 dX10_mayMove_5 rfl (by first | with_reducible assumption | with_reducible exact zup_same _ _ _) (by omega) (by first | omega | exact zr_b _ | exact zr_and _ _ | exact zr_or _ _ | exact zr_shl _ _) ?_
  rw [e17]
  refine z_iload_n 7 dX10_mayMove_6 rfl rfl ?_
  refine z_icmp_eq 27 10 dX10_mayMove_7 (by decide) rfl (by first | omega | exact zr_b _ | exact zr_and _ _ | exact zr_or _ _ | exact zr_shl _ _) (by first | omega | exact zr_b _ | exact zr_and _ _ | exact zr_or _ _ | exact zr_shl _ _) (fun c7 => ?_) (fun c7 => ?_)
  · rw [if_pos (Or.inl (by omega))] at hz
    rw [zb_f (by omega)] at hQ
    refine z_iconst 28 dX10_mayMove_27 rfl ?_
    refine z_ret dX10_mayMove_28 (by first | exact True.intro | exact Or.inl rfl | exact Or.inr rfl | exact zb_01 _ | assumption | (show _ ∨ _; omega)) ⟨Nat.le_refl _, Nat.le_refl _⟩ ?_
    exact hQ
  · refine z_aload_n 11 dX10_mayMove_10 rfl rfl ?_
    refine z_aload_n 12 dX10_mayMove_11 rfl rfl ?_
    refine z_iload_n 13 dX10_mayMove_12 rfl rfl ?_
    refine z_cV2 16 dX10_mayMove_13 rfl kX10_below zw_979 (Nat.le_of_ble_eq_true rfl) ⟨Nat.le_refl _, Nat.le_refl _⟩ (by first | with_reducible assumption | with_reducible exact zup_same _ _ _) ?_
    refine c_X10_below hob hn hr hR hO (by omega) ?_
    refine z_iload_n 17 dX10_mayMove_16 rfl rfl ?_
    refine z_cS2 20 dX10_mayMove_17 rfl kX10_has zw_873 (Nat.le_of_ble_eq_true rfl) ⟨Nat.le_refl _, Nat.le_refl _⟩ ?_
    refine c_X10_has (zbrn_r _ _ _ _) (by omega) ?_
    refine z_if_ne 27 23 dX10_mayMove_20 (by decide) rfl (by first | omega | exact zr_b _ | exact zr_and _ _ | exact zr_or _ _ | exact zr_shl _ _) (fun c20 => ?_) (fun c20 => ?_)
    · try replace c20 := zb_1 c20
      rw [if_pos (Or.inr c20)] at hz
      rw [zb_f (by omega)] at hQ
      refine z_iconst 28 dX10_mayMove_27 rfl ?_
      refine z_ret dX10_mayMove_28 (by first | exact True.intro | exact Or.inl rfl | exact Or.inr rfl | exact zb_01 _ | assumption | (show _ ∨ _; omega)) ⟨Nat.le_refl _, Nat.le_refl _⟩ ?_
      exact hQ
    · try replace c20 := zb_0 c20
      rw [if_neg (fun q => q.elim (by omega) c20)] at hz
      rw [zb_t hz] at hQ
      refine z_iconst 24 dX10_mayMove_23 rfl ?_
      refine z_goto 28 dX10_mayMove_24 (by decide) ?_
      refine z_ret dX10_mayMove_28 (by first | exact True.intro | exact Or.inl rfl | exact Or.inr rfl | exact zb_01 _ | assumption | (show _ ∨ _; omega)) ⟨Nat.le_refl _, Nat.le_refl _⟩ ?_
      exact hQ
theorem zRo.mov (hR : zRo N M D G E P R) (hN : N ≤ 7) {p t : Int} (hp : 1 ≤ p ∧ p ≤ N) {P' R' : Int → Int} (h1 : ∀ j : Nat, j < N → R' (25 + j) = P' j) (h2 : ∀ q : Int, 0 ≤ q → q < 25 → R' q = R q) : zRo N M D G (zst E p t) P' (zst R' (17 + p) t) := by
  obtain ⟨r0, r1, r2, r3⟩ := hR
  refine ⟨?_, fun q q0 q1 => ⟨?_, ?_⟩, fun q q0 q1 => ?_, fun k hk => ?_⟩
  · rw [zst_ne _ _ (by omega), h2 _ (by omega) (by omega)]; exact r0
  · rw [zst_ne _ _ (by omega), h2 _ (by omega) (by omega)]; exact (r1 q q0 q1).1
  · rw [zst_ne _ _ (by omega), h2 _ (by omega) (by omega)]; exact (r1 q q0 q1).2
  · by_cases e : q = p
    · subst e; rw [zst_same, zst_same]
    · rw [zst_ne _ _ (by omega), zst_ne _ _ e, h2 _ (by omega) (by omega)]; exact r2 q q0 q1
  · rw [zst_ne _ _ (by omega)]; exact h1 k hk
theorem zpl_take (P : Int → Int) {k N : Nat} (h : k ≤ N) : zpl P k = (zpl P N).take k := by
  unfold zpl; rw [← List.map_take, List.take_range]; congr 2; omega
theorem zpl_fl (P : Int → Int) (f : Int → Bool) {k N : Nat} (h : k ≤ N) : ((zpl P k).filter f).length ≤ ((zpl P N).filter f).length := by
  rw [zpl_take P h]
  exact ((List.take_sublist _ _).filter f).length_le
theorem zprt_len (b : Int) (P : Int → Int) (N : Nat) : ((zpl P N).filter (fun q => !zkb b q)).length + ((zpl P N).filter (fun q => zkb b q)).length = N := by
  have key : ∀ l : List Int, (l.filter (fun q => !zkb b q)).length + (l.filter (fun q => zkb b q)).length = l.length := by
    intro l
    induction l with
    | nil => rfl
    | cons x l ih => simp only [List.filter_cons, List.length_cons]; cases zkb b x <;> simp <;> omega
  have := key (zpl P N)
  rw [zpl_len] at this
  exact this
theorem c_X10_moveOn {a : Nat} {p t : Int} (hob : h.1 112 = some (zMO s)) (hn : s.n = ((N + 1 : Nat) : Int)) (hod : h.1 124 = some (zI 8 s.OD)) (ha : 2 ≤ a ∧ a ≠ 124 ∧ a ≠ 112) (hr : h.1 a = some (zI 33 R)) (hR : zRo N M D G E P R) (hO : zOK B N D G E P) (hp : 1 ≤ p ∧ p ≤ N)
    (hQ : ∀ OD' R' : Int → Int, zRo N M D G (zst E p t) (zgv (zbrn E P p N) N P N).2 R' → Q none (zup (zup h 124 (zI 8 OD')) a (zI 33 R'))) : zC (d + 2) mX10_moveOn 0 0 [vR 112, vR a, vI p, vI t] h Q := by
  have hN := hO.1
  have hb := zbrn_r E P p N
  generalize hbb : zbrn E P p N = b at hb hQ
  have w112 : ∀ OD' : Int → Int, (zup h 124 (zI 8 OD')).1 112 = some (zMO s) := fun OD' => by rw [zup_ne _ _ (by decide)]; exact hob
  have wa : ∀ OD' : Int → Int, (zup h 124 (zI 8 OD')).1 a = some (zI 33 R) := fun OD' => by rw [zup_ne _ _ ha.2.1]; exact hr
  have w124 : ∀ OD' : Int → Int, (zup h 124 (zI 8 OD')).1 124 = some (zI 8 OD') := fun OD' => zup_same _ _ _
  have cpy : ∀ OD' : Int → Int, zOL OD' (zprt b P N) → ∀ i : Nat, i ≤ N → ∀ (R' : Int → Int) (o7 o8 : Option zV), (∀ j : Nat, j < i → R' (25 + j) = (zgv b N P N).2 j) → (∀ q : Int, 0 ≤ q → q < 25 → R' q = R q) → Z (d + 2) mX10_moveOn zo 91 [some (vR 112), some (vR a), some (vI p), some (vI t), some (vI b), some (vI N), some (vI i), o7, o8] [] (zup (zup h 124 (zI 8 OD')) a (zI 33 R')) Q := by
    intro OD' hL
    refine z_loop N ?_ ?_
    · intro R' o7 o8 k1 k2
      have xa : (zup (zup h 124 (zI 8 OD')) a (zI 33 R')).1 a = some (zI 33 R') := zup_same _ _ _
      refine z_iload 93 dX10_moveOn_91 rfl rfl ?_
      refine z_iload 95 dX10_moveOn_93 rfl rfl ?_
      refine z_icmp_ge 118 98 dX10_moveOn_95 (by decide) rfl (by first | omega | exact zr_b _ | exact zr_and _ _ | exact zr_or _ _ | exact zr_shl _ _) (by first | omega | exact zr_b _ | exact zr_and _ _ | exact zr_or _ _ | exact zr_shl _ _) (fun c95 => ?_) (fun c95 => ?_)
      · refine z_aload_n 119 dX10_moveOn_118 rfl rfl ?_
        refine z_bipush 121 dX10_moveOn_119 rfl (by decide) ?_
        refine z_iload_n 122 dX10_moveOn_121 rfl rfl ?_
        refine z_iadd 123 dX10_moveOn_122 rfl ?_
        refine z_iload_n 124 dX10_moveOn_123 rfl rfl ?_
        refine z_iast 125 dX10_moveOn_124 rfl (by omega) (by first | with_reducible assumption | with_reducible exact zup_same _ _ _) (by omega) (by first | omega | exact zr_b _ | exact zr_and _ _ | exact zr_or _ _ | exact zr_shl _ _) ?_
        refine z_vret dX10_moveOn_125 (by first | exact True.intro | exact Or.inl rfl | exact Or.inr rfl | exact zb_01 _ | assumption | (show _ ∨ _; omega)) ⟨Nat.le_refl _, Nat.le_refl _⟩ ?_
        rw [zup_zup]; exact hQ OD' _ (hR.mov hN hp k1 k2)
      · exfalso; omega
    · intro i hi ih R' o7 o8 k1 k2
      have xa : (zup (zup h 124 (zI 8 OD')) a (zI 33 R')).1 a = some (zI 33 R') := zup_same _ _ _
      have x112 : (zup (zup h 124 (zI 8 OD')) a (zI 33 R')).1 112 = some (zMO s) := by rw [zup_ne _ _ ha.2.2.symm]; exact w112 OD'
      have x124 : (zup (zup h 124 (zI 8 OD')) a (zI 33 R')).1 124 = some (zI 8 OD') := by rw [zup_ne _ _ ha.2.1.symm]; exact w124 OD'
      have eo : OD' i = (zgv b N P N).2 i := hL i _ (zgv_prt (fun j hj => by have := hO.v8 j hj; omega) hi)
      refine z_iload 93 dX10_moveOn_91 rfl rfl ?_
      refine z_iload 95 dX10_moveOn_93 rfl rfl ?_
      refine z_icmp_ge 118 98 dX10_moveOn_95 (by decide) rfl (by first | omega | exact zr_b _ | exact zr_and _ _ | exact zr_or _ _ | exact zr_shl _ _) (by first | omega | exact zr_b _ | exact zr_and _ _ | exact zr_or _ _ | exact zr_shl _ _) (fun c95 => ?_) (fun c95 => ?_)
      · exfalso; omega
      · refine z_aload_n 99 dX10_moveOn_98 rfl rfl ?_
        refine z_bipush 101 dX10_moveOn_99 rfl (by decide) ?_
        refine z_iload 103 dX10_moveOn_101 rfl rfl ?_
        refine z_iadd 104 dX10_moveOn_103 rfl ?_
        refine z_aload_n 105 dX10_moveOn_104 rfl rfl ?_
        refine z_getf (ci := 10) 108 dX10_moveOn_105 rfl rfl zin_10 17 (by decide) zw_781 (by first | with_reducible assumption | with_reducible exact zup_same _ _ _) rfl ?_
        refine z_iload 110 dX10_moveOn_108 rfl rfl ?_
        refine z_iald 111 dX10_moveOn_110 rfl (by first | with_reducible assumption | with_reducible exact zup_same _ _ _) (by omega) (by first | omega | exact zr_b _ | exact zr_and _ _ | exact zr_or _ _ | exact zr_shl _ _) ?_
        refine z_iast 112 dX10_moveOn_111 rfl (by omega) (by first | with_reducible assumption | with_reducible exact zup_same _ _ _) (by omega) (by first | omega | exact zr_b _ | exact zr_and _ _ | exact zr_or _ _ | exact zr_shl _ _) ?_
        refine z_iinc 115 dX10_moveOn_112 rfl (by decide) rfl ?_
        refine z_goto 91 dX10_moveOn_115 (by decide) ?_
        rw [zup_zup, eo]
        refine ih (zst R' (25 + i) ((zgv b N P N).2 i)) _ _ (fun j hj => ?_) (fun q h1 h2 => ?_)
        · by_cases e : j = i
          · subst e; exact zst_same _ _ _
          · rw [zst_ne _ _ (by omega)]; exact k1 j (by omega)
        · rw [zst_ne _ _ (by omega)]; exact k2 q h1 h2
  have s1 : ∀ i : Nat, i ≤ N → ∀ (OD' : Int → Int) (o8 : Option zV) (n : Int), zOL OD' (((zpl P N).filter (fun q => !zkb b q)) ++ (zpl P i).filter (fun q => zkb b q)) → n = (((((zpl P N).filter (fun q => !zkb b q)) ++ (zpl P i).filter (fun q => zkb b q)).length : Nat) : Int) → Z (d + 2) mX10_moveOn zo 23 [some (vR 112), some (vR a), some (vI p), some (vI t), some (vI b), some (vI n), some (vI 1), some (vI i), o8] [] (zup h 124 (zI 8 OD')) Q := by
    refine z_loop N ?_ ?_
    · intro OD' o8 n hL hln
      have x112 := w112 OD'
      have ll := zprt_len b P N
      have hln' : n = N := by rw [hln, List.length_append, ll]
      subst hln'
      refine z_iload 25 dX10_moveOn_23 rfl rfl ?_
      refine z_aload_n 26 dX10_moveOn_25 rfl rfl ?_
      refine z_getf (ci := 10) 29 dX10_moveOn_26 rfl rfl zin_10 2 (by decide) zw_766 (by first | with_reducible assumption | with_reducible exact zup_same _ _ _) rfl ?_
      rw [hn]
      refine z_iconst 30 dX10_moveOn_29 rfl ?_
      refine z_isub 31 dX10_moveOn_30 rfl ?_
      refine z_icmp_ge 82 34 dX10_moveOn_31 (by decide) rfl (by first | omega | exact zr_b _ | exact zr_and _ _ | exact zr_or _ _ | exact zr_shl _ _) (by first | omega | exact zr_b _ | exact zr_and _ _ | exact zr_or _ _ | exact zr_shl _ _) (fun c31 => ?_) (fun c31 => ?_)
      · refine z_iinc 85 dX10_moveOn_82 rfl (by decide) rfl ?_
        refine z_goto 14 dX10_moveOn_85 (by decide) ?_
        refine z_iload 16 dX10_moveOn_14 rfl rfl ?_
        refine z_iconst 17 dX10_moveOn_16 rfl ?_
        refine z_icmp_ge 88 20 dX10_moveOn_17 (by decide) rfl (by first | omega | exact zr_b _ | exact zr_and _ _ | exact zr_or _ _ | exact zr_shl _ _) (by first | omega | exact zr_b _ | exact zr_and _ _ | exact zr_or _ _ | exact zr_shl _ _) (fun c17 => ?_) (fun c17 => ?_)
        · refine z_iconst 89 dX10_moveOn_88 rfl ?_
          refine z_istore 91 dX10_moveOn_89 rfl (by decide) ?_
          have k := cpy OD' hL 0 (Nat.zero_le _) R (some (vI N)) o8 (fun j hj => absurd hj (by omega)) (fun _ _ _ => rfl)
          rw [zup_self _ (wa OD')] at k
          exact k
        · exfalso; omega
      · exfalso; omega
    · intro i hi ih OD' o8 n hL hln
      have x112 := w112 OD'
      have xa := wa OD'
      have x124 := w124 OD'
      have e25 := hR.2.2.2 i hi
      have hq := hO.2.2.1 i hi
      have hl1 := zpl_fl P (fun q => zkb b q) (show i ≤ N by omega)
      have hl2 := zprt_len b P N
      have hnn : 0 ≤ n ∧ n ≤ 7 := by
        rw [hln, List.length_append]
        skip
        omega
      rw [zpl_s, List.filter_append] at ih
      cases hz : zkb b (P i) with
      | false =>
        have hf : ([P i].filter (fun q => zkb b q)) = [] := by simp [hz]
        rw [hf, List.append_nil] at ih
        refine z_iload 25 dX10_moveOn_23 rfl rfl ?_
        refine z_aload_n 26 dX10_moveOn_25 rfl rfl ?_
        refine z_getf (ci := 10) 29 dX10_moveOn_26 rfl rfl zin_10 2 (by decide) zw_766 (by first | with_reducible assumption | with_reducible exact zup_same _ _ _) rfl ?_
        rw [hn]
        refine z_iconst 30 dX10_moveOn_29 rfl ?_
        refine z_isub 31 dX10_moveOn_30 rfl ?_
        refine z_icmp_ge 82 34 dX10_moveOn_31 (by decide) rfl (by first | omega | exact zr_b _ | exact zr_and _ _ | exact zr_or _ _ | exact zr_shl _ _) (by first | omega | exact zr_b _ | exact zr_and _ _ | exact zr_or _ _ | exact zr_shl _ _) (fun c31 => ?_) (fun c31 => ?_)
        · exfalso; omega
        · refine z_aload_n 35 dX10_moveOn_34 rfl rfl ?_
          refine z_bipush 37 dX10_moveOn_35 rfl (by decide) ?_
          refine z_iload 39 dX10_moveOn_37 rfl rfl ?_
          refine z_iadd 40 dX10_moveOn_39 rfl ?_
          refine z_iald 41 dX10_moveOn_40 rfl (by first | with_reducible assumption | with_reducible exact zup_same _ _ _) (by omega) (by first | omega | exact zr_b _ | exact zr_and _ _ | exact zr_or _ _ | exact zr_shl _ _) ?_
          rw [e25]
          refine z_istore 43 dX10_moveOn_41 rfl (by decide) ?_
          refine z_iload 45 dX10_moveOn_43 rfl rfl ?_
          refine z_iload 47 dX10_moveOn_45 rfl rfl ?_
          refine z_cS2 50 dX10_moveOn_47 rfl kX10_has zw_873 (Nat.le_of_ble_eq_true rfl) ⟨Nat.le_refl _, Nat.le_refl _⟩ ?_
          refine c_X10_has hb (by omega) ?_
          rw [zb_f (by rw [hz]; decide)]
          refine z_iload 52 dX10_moveOn_50 rfl rfl ?_
          refine z_iconst 53 dX10_moveOn_52 rfl ?_
          refine z_icmp_ne 60 56 dX10_moveOn_53 (by decide) rfl (by first | omega | exact zr_b _ | exact zr_and _ _ | exact zr_or _ _ | exact zr_shl _ _) (by first | omega | exact zr_b _ | exact zr_and _ _ | exact zr_or _ _ | exact zr_shl _ _) (fun c53 => ?_) (fun c53 => ?_)
          · exfalso; omega
          · refine z_iconst 57 dX10_moveOn_56 rfl ?_
            refine z_goto 61 dX10_moveOn_57 (by decide) ?_
            refine z_icmp_ne 76 64 dX10_moveOn_61 (by decide) rfl (by first | omega | exact zr_b _ | exact zr_and _ _ | exact zr_or _ _ | exact zr_shl _ _) (by first | omega | exact zr_b _ | exact zr_and _ _ | exact zr_or _ _ | exact zr_shl _ _) (fun c61 => ?_) (fun c61 => ?_)
            · refine z_iinc 79 dX10_moveOn_76 rfl (by decide) rfl ?_
              refine z_goto 23 dX10_moveOn_79 (by decide) ?_
              skip
              exact ih _ _ _ hL hln
            · exfalso; omega
      | true =>
        have hf : ([P i].filter (fun q => zkb b q)) = [P i] := by simp [hz]
        rw [hf] at ih
        refine z_iload 25 dX10_moveOn_23 rfl rfl ?_
        refine z_aload_n 26 dX10_moveOn_25 rfl rfl ?_
        refine z_getf (ci := 10) 29 dX10_moveOn_26 rfl rfl zin_10 2 (by decide) zw_766 (by first | with_reducible assumption | with_reducible exact zup_same _ _ _) rfl ?_
        rw [hn]
        refine z_iconst 30 dX10_moveOn_29 rfl ?_
        refine z_isub 31 dX10_moveOn_30 rfl ?_
        refine z_icmp_ge 82 34 dX10_moveOn_31 (by decide) rfl (by first | omega | exact zr_b _ | exact zr_and _ _ | exact zr_or _ _ | exact zr_shl _ _) (by first | omega | exact zr_b _ | exact zr_and _ _ | exact zr_or _ _ | exact zr_shl _ _) (fun c31 => ?_) (fun c31 => ?_)
        · exfalso; omega
        · refine z_aload_n 35 dX10_moveOn_34 rfl rfl ?_
          refine z_bipush 37 dX10_moveOn_35 rfl (by decide) ?_
          refine z_iload 39 dX10_moveOn_37 rfl rfl ?_
          refine z_iadd 40 dX10_moveOn_39 rfl ?_
          refine z_iald 41 dX10_moveOn_40 rfl (by first | with_reducible assumption | with_reducible exact zup_same _ _ _) (by omega) (by first | omega | exact zr_b _ | exact zr_and _ _ | exact zr_or _ _ | exact zr_shl _ _) ?_
          rw [e25]
          refine z_istore 43 dX10_moveOn_41 rfl (by decide) ?_
          refine z_iload 45 dX10_moveOn_43 rfl rfl ?_
          refine z_iload 47 dX10_moveOn_45 rfl rfl ?_
          refine z_cS2 50 dX10_moveOn_47 rfl kX10_has zw_873 (Nat.le_of_ble_eq_true rfl) ⟨Nat.le_refl _, Nat.le_refl _⟩ ?_
          refine c_X10_has hb (by omega) ?_
          rw [zb_t hz]
          refine z_iload 52 dX10_moveOn_50 rfl rfl ?_
          refine z_iconst 53 dX10_moveOn_52 rfl ?_
          refine z_icmp_ne 60 56 dX10_moveOn_53 (by decide) rfl (by first | omega | exact zr_b _ | exact zr_and _ _ | exact zr_or _ _ | exact zr_shl _ _) (by first | omega | exact zr_b _ | exact zr_and _ _ | exact zr_or _ _ | exact zr_shl _ _) (fun c53 => ?_) (fun c53 => ?_)
          · exfalso; omega
          · refine z_iconst 57 dX10_moveOn_56 rfl ?_
            refine z_goto 61 dX10_moveOn_57 (by decide) ?_
            refine z_icmp_ne 76 64 dX10_moveOn_61 (by decide) rfl (by first | omega | exact zr_b _ | exact zr_and _ _ | exact zr_or _ _ | exact zr_shl _ _) (by first | omega | exact zr_b _ | exact zr_and _ _ | exact zr_or _ _ | exact zr_shl _ _) (fun c61 => ?_) (fun c61 => ?_)
            · exfalso; omega
            · refine z_aload_n 65 dX10_moveOn_64 rfl rfl ?_
              refine z_getf (ci := 10) 68 dX10_moveOn_65 rfl rfl zin_10 17 (by decide) zw_781 (by first | with_reducible assumption | with_reducible exact zup_same _ _ _) rfl ?_
              refine z_iload 70 dX10_moveOn_68 rfl rfl ?_
              refine z_iload 72 dX10_moveOn_70 rfl rfl ?_
              refine z_iast 73 dX10_moveOn_72 rfl (by omega) (by first | with_reducible assumption | with_reducible exact zup_same _ _ _) (by omega) (by first | omega | exact zr_b _ | exact zr_and _ _ | exact zr_or _ _ | exact zr_shl _ _) ?_
              refine z_iinc 76 dX10_moveOn_73 rfl (by decide) rfl ?_
              refine z_iinc 79 dX10_moveOn_76 rfl (by decide) rfl ?_
              refine z_goto 23 dX10_moveOn_79 (by decide) ?_
              rw [zup_zup]
              refine ih _ _ _ (List.append_assoc _ _ _ ▸ hL.snoc (P i) hln) ?_
              rw [hln]; simp only [List.length_append, List.length_cons, List.length_nil]; omega
  have s0 : ∀ i : Nat, i ≤ N → ∀ (OD' : Int → Int) (o8 : Option zV) (n : Int), zOL OD' (([] : List Int) ++ (zpl P i).filter (fun q => !zkb b q)) → n = (((([] : List Int) ++ (zpl P i).filter (fun q => !zkb b q)).length : Nat) : Int) → Z (d + 2) mX10_moveOn zo 23 [some (vR 112), some (vR a), some (vI p), some (vI t), some (vI b), some (vI n), some (vI 0), some (vI i), o8] [] (zup h 124 (zI 8 OD')) Q := by
    refine z_loop N ?_ ?_
    · intro OD' o8 n hL hln
      have x112 := w112 OD'
      refine z_iload 25 dX10_moveOn_23 rfl rfl ?_
      refine z_aload_n 26 dX10_moveOn_25 rfl rfl ?_
      refine z_getf (ci := 10) 29 dX10_moveOn_26 rfl rfl zin_10 2 (by decide) zw_766 (by first | with_reducible assumption | with_reducible exact zup_same _ _ _) rfl ?_
      rw [hn]
      refine z_iconst 30 dX10_moveOn_29 rfl ?_
      refine z_isub 31 dX10_moveOn_30 rfl ?_
      refine z_icmp_ge 82 34 dX10_moveOn_31 (by decide) rfl (by first | omega | exact zr_b _ | exact zr_and _ _ | exact zr_or _ _ | exact zr_shl _ _) (by first | omega | exact zr_b _ | exact zr_and _ _ | exact zr_or _ _ | exact zr_shl _ _) (fun c31 => ?_) (fun c31 => ?_)
      · refine z_iinc 85 dX10_moveOn_82 rfl (by decide) rfl ?_
        refine z_goto 14 dX10_moveOn_85 (by decide) ?_
        refine z_iload 16 dX10_moveOn_14 rfl rfl ?_
        refine z_iconst 17 dX10_moveOn_16 rfl ?_
        refine z_icmp_ge 88 20 dX10_moveOn_17 (by decide) rfl (by first | omega | exact zr_b _ | exact zr_and _ _ | exact zr_or _ _ | exact zr_shl _ _) (by first | omega | exact zr_b _ | exact zr_and _ _ | exact zr_or _ _ | exact zr_shl _ _) (fun c17 => ?_) (fun c17 => ?_)
        · exfalso; omega
        · refine z_iconst 21 dX10_moveOn_20 rfl ?_
          refine z_istore 23 dX10_moveOn_21 rfl (by decide) ?_
          refine s1 0 (Nat.zero_le _) OD' _ n ?_ ?_
          · rw [show (zpl P ((0 : Nat))).filter (fun q => zkb b q) = [] from rfl, List.append_nil]; exact hL
          · rw [hln]; simp [zpl]
      · exfalso; omega
    · intro i hi ih OD' o8 n hL hln
      have x112 := w112 OD'
      have xa := wa OD'
      have x124 := w124 OD'
      have e25 := hR.2.2.2 i hi
      have hq := hO.2.2.1 i hi
      have hl1 := zpl_fl P (fun q => !zkb b q) (show i ≤ N by omega)
      have hl2 := zprt_len b P N
      have hnn : 0 ≤ n ∧ n ≤ 7 := by
        rw [hln, List.length_append]
        simp only [List.length_nil]
        omega
      rw [zpl_s, List.filter_append] at ih
      cases hz : zkb b (P i) with
      | false =>
        have hf : ([P i].filter (fun q => !zkb b q)) = [P i] := by simp [hz]
        rw [hf] at ih
        refine z_iload 25 dX10_moveOn_23 rfl rfl ?_
        refine z_aload_n 26 dX10_moveOn_25 rfl rfl ?_
        refine z_getf (ci := 10) 29 dX10_moveOn_26 rfl rfl zin_10 2 (by decide) zw_766 (by first | with_reducible assumption | with_reducible exact zup_same _ _ _) rfl ?_
        rw [hn]
        refine z_iconst 30 dX10_moveOn_29 rfl ?_
        refine z_isub 31 dX10_moveOn_30 rfl ?_
        refine z_icmp_ge 82 34 dX10_moveOn_31 (by decide) rfl (by first | omega | exact zr_b _ | exact zr_and _ _ | exact zr_or _ _ | exact zr_shl _ _) (by first | omega | exact zr_b _ | exact zr_and _ _ | exact zr_or _ _ | exact zr_shl _ _) (fun c31 => ?_) (fun c31 => ?_)
        · exfalso; omega
        · refine z_aload_n 35 dX10_moveOn_34 rfl rfl ?_
          refine z_bipush 37 dX10_moveOn_35 rfl (by decide) ?_
          refine z_iload 39 dX10_moveOn_37 rfl rfl ?_
          refine z_iadd 40 dX10_moveOn_39 rfl ?_
          refine z_iald 41 dX10_moveOn_40 rfl (by first | with_reducible assumption | with_reducible exact zup_same _ _ _) (by omega) (by first | omega | exact zr_b _ | exact zr_and _ _ | exact zr_or _ _ | exact zr_shl _ _) ?_
          rw [e25]
          refine z_istore 43 dX10_moveOn_41 rfl (by decide) ?_
          refine z_iload 45 dX10_moveOn_43 rfl rfl ?_
          refine z_iload 47 dX10_moveOn_45 rfl rfl ?_
          refine z_cS2 50 dX10_moveOn_47 rfl kX10_has zw_873 (Nat.le_of_ble_eq_true rfl) ⟨Nat.le_refl _, Nat.le_refl _⟩ ?_
          refine c_X10_has hb (by omega) ?_
          rw [zb_f (by rw [hz]; decide)]
          refine z_iload 52 dX10_moveOn_50 rfl rfl ?_
          refine z_iconst 53 dX10_moveOn_52 rfl ?_
          refine z_icmp_ne 60 56 dX10_moveOn_53 (by decide) rfl (by first | omega | exact zr_b _ | exact zr_and _ _ | exact zr_or _ _ | exact zr_shl _ _) (by first | omega | exact zr_b _ | exact zr_and _ _ | exact zr_or _ _ | exact zr_shl _ _) (fun c53 => ?_) (fun c53 => ?_)
          · refine z_iconst 61 dX10_moveOn_60 rfl ?_
            refine z_icmp_ne 76 64 dX10_moveOn_61 (by decide) rfl (by first | omega | exact zr_b _ | exact zr_and _ _ | exact zr_or _ _ | exact zr_shl _ _) (by first | omega | exact zr_b _ | exact zr_and _ _ | exact zr_or _ _ | exact zr_shl _ _) (fun c61 => ?_) (fun c61 => ?_)
            · exfalso; omega
            · refine z_aload_n 65 dX10_moveOn_64 rfl rfl ?_
              refine z_getf (ci := 10) 68 dX10_moveOn_65 rfl rfl zin_10 17 (by decide) zw_781 (by first | with_reducible assumption | with_reducible exact zup_same _ _ _) rfl ?_
              refine z_iload 70 dX10_moveOn_68 rfl rfl ?_
              refine z_iload 72 dX10_moveOn_70 rfl rfl ?_
              refine z_iast 73 dX10_moveOn_72 rfl (by omega) (by first | with_reducible assumption | with_reducible exact zup_same _ _ _) (by omega) (by first | omega | exact zr_b _ | exact zr_and _ _ | exact zr_or _ _ | exact zr_shl _ _) ?_
              refine z_iinc 76 dX10_moveOn_73 rfl (by decide) rfl ?_
              refine z_iinc 79 dX10_moveOn_76 rfl (by decide) rfl ?_
              refine z_goto 23 dX10_moveOn_79 (by decide) ?_
              rw [zup_zup]
              refine ih _ _ _ (List.append_assoc _ _ _ ▸ hL.snoc (P i) hln) ?_
              rw [hln]; simp only [List.length_append, List.length_cons, List.length_nil]; omega
          · exfalso; omega
      | true =>
        have hf : ([P i].filter (fun q => !zkb b q)) = [] := by simp [hz]
        rw [hf, List.append_nil] at ih
        refine z_iload 25 dX10_moveOn_23 rfl rfl ?_
        refine z_aload_n 26 dX10_moveOn_25 rfl rfl ?_
        refine z_getf (ci := 10) 29 dX10_moveOn_26 rfl rfl zin_10 2 (by decide) zw_766 (by first | with_reducible assumption | with_reducible exact zup_same _ _ _) rfl ?_
        rw [hn]
        refine z_iconst 30 dX10_moveOn_29 rfl ?_
        refine z_isub 31 dX10_moveOn_30 rfl ?_
        refine z_icmp_ge 82 34 dX10_moveOn_31 (by decide) rfl (by first | omega | exact zr_b _ | exact zr_and _ _ | exact zr_or _ _ | exact zr_shl _ _) (by first | omega | exact zr_b _ | exact zr_and _ _ | exact zr_or _ _ | exact zr_shl _ _) (fun c31 => ?_) (fun c31 => ?_)
        · exfalso; omega
        · refine z_aload_n 35 dX10_moveOn_34 rfl rfl ?_
          refine z_bipush 37 dX10_moveOn_35 rfl (by decide) ?_
          refine z_iload 39 dX10_moveOn_37 rfl rfl ?_
          refine z_iadd 40 dX10_moveOn_39 rfl ?_
          refine z_iald 41 dX10_moveOn_40 rfl (by first | with_reducible assumption | with_reducible exact zup_same _ _ _) (by omega) (by first | omega | exact zr_b _ | exact zr_and _ _ | exact zr_or _ _ | exact zr_shl _ _) ?_
          rw [e25]
          refine z_istore 43 dX10_moveOn_41 rfl (by decide) ?_
          refine z_iload 45 dX10_moveOn_43 rfl rfl ?_
          refine z_iload 47 dX10_moveOn_45 rfl rfl ?_
          refine z_cS2 50 dX10_moveOn_47 rfl kX10_has zw_873 (Nat.le_of_ble_eq_true rfl) ⟨Nat.le_refl _, Nat.le_refl _⟩ ?_
          refine c_X10_has hb (by omega) ?_
          rw [zb_t hz]
          refine z_iload 52 dX10_moveOn_50 rfl rfl ?_
          refine z_iconst 53 dX10_moveOn_52 rfl ?_
          refine z_icmp_ne 60 56 dX10_moveOn_53 (by decide) rfl (by first | omega | exact zr_b _ | exact zr_and _ _ | exact zr_or _ _ | exact zr_shl _ _) (by first | omega | exact zr_b _ | exact zr_and _ _ | exact zr_or _ _ | exact zr_shl _ _) (fun c53 => ?_) (fun c53 => ?_)
          · refine z_iconst 61 dX10_moveOn_60 rfl ?_
            refine z_icmp_ne 76 64 dX10_moveOn_61 (by decide) rfl (by first | omega | exact zr_b _ | exact zr_and _ _ | exact zr_or _ _ | exact zr_shl _ _) (by first | omega | exact zr_b _ | exact zr_and _ _ | exact zr_or _ _ | exact zr_shl _ _) (fun c61 => ?_) (fun c61 => ?_)
            · refine z_iinc 79 dX10_moveOn_76 rfl (by decide) rfl ?_
              refine z_goto 23 dX10_moveOn_79 (by decide) ?_
              skip
              exact ih _ _ _ hL hln
            · exfalso; omega
          · exfalso; omega
  refine zC.of zpl_X10 (Nat.le_of_ble_eq_true rfl) ?_
  refine z_aload_n 1 dX10_moveOn_0 rfl rfl ?_
  refine z_aload_n 2 dX10_moveOn_1 rfl rfl ?_
  refine z_iload_n 3 dX10_moveOn_2 rfl rfl ?_
  refine z_cV2 6 dX10_moveOn_3 rfl kX10_below zw_979 (Nat.le_of_ble_eq_true rfl) ⟨Nat.le_refl _, Nat.le_refl _⟩ (by first | with_reducible assumption | with_reducible exact zup_same _ _ _) ?_
  refine c_X10_below hob hn hr hR hO (by omega) ?_
  rw [hbb]
  refine z_istore 8 dX10_moveOn_6 rfl (by decide) ?_
  refine z_iconst 9 dX10_moveOn_8 rfl ?_
  refine z_istore 11 dX10_moveOn_9 rfl (by decide) ?_
  refine z_iconst 12 dX10_moveOn_11 rfl ?_
  refine z_istore 14 dX10_moveOn_12 rfl (by decide) ?_
  refine z_iload 16 dX10_moveOn_14 rfl rfl ?_
  refine z_iconst 17 dX10_moveOn_16 rfl ?_
  refine z_icmp_ge 88 20 dX10_moveOn_17 (by decide) rfl (by first | omega | exact zr_b _ | exact zr_and _ _ | exact zr_or _ _ | exact zr_shl _ _) (by first | omega | exact zr_b _ | exact zr_and _ _ | exact zr_or _ _ | exact zr_shl _ _) (fun c17 => ?_) (fun c17 => ?_)
  · exfalso; omega
  · refine z_iconst 21 dX10_moveOn_20 rfl ?_
    refine z_istore 23 dX10_moveOn_21 rfl (by decide) ?_
    have k := s0 0 (Nat.zero_le _) s.OD none 0 (zOL.nil _) (by simp [zpl])
    rw [zup_self _ hod] at k
    exact k
end MMOVE
