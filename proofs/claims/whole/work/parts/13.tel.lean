/-! LateLetters.at, put; LateLetters$Telling -/
theorem zr_32 (x : Int32) : -2147483648 ≤ x.toInt ∧ x.toInt ≤ 2147483647 := ⟨Int32.le_toInt x, by have := Int32.toInt_lt x; omega⟩
theorem zr_and (x y : Int) : -2147483648 ≤ zand x y ∧ zand x y ≤ 2147483647 := zr_32 _
theorem zr_or (x y : Int) : -2147483648 ≤ zor x y ∧ zor x y ≤ 2147483647 := zr_32 _
theorem zr_shl (x y : Int) : -2147483648 ≤ zshl x y ∧ zshl x y ≤ 2147483647 := zr_32 _
abbrev zo : zK := (0, 0, 0, 0)
theorem c_X9_at {d : Nat} {h : zH} {a n : Nat} {f : Int → Int} {i : Int} {Q : Option zV → zH → Prop} (ha : h.1 a = some (zI n f)) (hn : n ≤ 1000) (hi : 0 ≤ i ∧ i < n) (hQ : Q (some (vI (f i))) h) : zC d mX9_at 0 0 [vR a, vI i] h Q := by
  refine zC.of zpl_X9 (Nat.le_of_ble_eq_true rfl) ?_
  refine z_iload_n 1 dX9_at_0 rfl rfl ?_
  refine z_if_lt 16 4 dX9_at_1 (by decide) rfl (by first | omega | exact zr_b _ | exact zr_and _ _ | exact zr_or _ _ | exact zr_shl _ _) (fun c1 => ?_) (fun c1 => ?_)
  · exfalso; omega
  · refine z_iload_n 5 dX9_at_4 rfl rfl ?_
    refine z_aload_n 6 dX9_at_5 rfl rfl ?_
    refine z_alen 7 dX9_at_6 rfl (by first | with_reducible assumption | with_reducible exact zup_same _ _ _) ?_
    refine z_icmp_ge 16 10 dX9_at_7 (by decide) rfl (by first | omega | exact zr_b _ | exact zr_and _ _ | exact zr_or _ _ | exact zr_shl _ _) (by first | omega | exact zr_b _ | exact zr_and _ _ | exact zr_or _ _ | exact zr_shl _ _) (fun c7 => ?_) (fun c7 => ?_)
    · exfalso; omega
    · refine z_aload_n 11 dX9_at_10 rfl rfl ?_
      refine z_iload_n 12 dX9_at_11 rfl rfl ?_
      refine z_iald 13 dX9_at_12 rfl (by first | with_reducible assumption | with_reducible exact zup_same _ _ _) (by omega) (by first | omega | exact zr_b _ | exact zr_and _ _ | exact zr_or _ _ | exact zr_shl _ _) ?_
      refine z_goto 17 dX9_at_13 (by decide) ?_
      refine z_ret dX9_at_17 (by first | exact True.intro | exact Or.inl rfl | exact Or.inr rfl | exact zb_01 _ | assumption | (show _ ∨ _; omega)) ⟨Nat.le_refl _, Nat.le_refl _⟩ ?_
      exact hQ
theorem c_X9_put {d : Nat} {h : zH} {a n : Nat} {f : Int → Int} {i x : Int} {Q : Option zV → zH → Prop} (ha : h.1 a = some (zI n f)) (hn : n ≤ 1000) (h2 : 2 ≤ a) (hi : 0 ≤ i ∧ i < n) (hQ : Q none (zup h a (zI n (zst f i x)))) : zC d mX9_put 0 0 [vR a, vI i, vI x] h Q := by
  refine zC.of zpl_X9 (Nat.le_of_ble_eq_true rfl) ?_
  refine z_iload_n 1 dX9_put_0 rfl rfl ?_
  refine z_if_lt 14 4 dX9_put_1 (by decide) rfl (by first | omega | exact zr_b _ | exact zr_and _ _ | exact zr_or _ _ | exact zr_shl _ _) (fun c1 => ?_) (fun c1 => ?_)
  · exfalso; omega
  · refine z_iload_n 5 dX9_put_4 rfl rfl ?_
    refine z_aload_n 6 dX9_put_5 rfl rfl ?_
    refine z_alen 7 dX9_put_6 rfl (by first | with_reducible assumption | with_reducible exact zup_same _ _ _) ?_
    refine z_icmp_ge 14 10 dX9_put_7 (by decide) rfl (by first | omega | exact zr_b _ | exact zr_and _ _ | exact zr_or _ _ | exact zr_shl _ _) (by first | omega | exact zr_b _ | exact zr_and _ _ | exact zr_or _ _ | exact zr_shl _ _) (fun c7 => ?_) (fun c7 => ?_)
    · exfalso; omega
    · refine z_aload_n 11 dX9_put_10 rfl rfl ?_
      refine z_iload_n 12 dX9_put_11 rfl rfl ?_
      refine z_iload_n 13 dX9_put_12 rfl rfl ?_
      refine z_iast 14 dX9_put_13 rfl (by omega) (by first | with_reducible assumption | with_reducible exact zup_same _ _ _) (by omega) (by first | omega | exact zr_b _ | exact zr_and _ _ | exact zr_or _ _ | exact zr_shl _ _) ?_
      refine z_vret dX9_put_14 (by first | exact True.intro | exact Or.inl rfl | exact Or.inr rfl | exact zb_01 _ | assumption | (show _ ∨ _; omega)) ⟨Nat.le_refl _, Nat.le_refl _⟩ ?_
      exact hQ
/-- a condition as a number -/
def zb (p : Prop) [Decidable p] : Int := if p then 1 else 0
theorem zb_0 {p : Prop} [Decidable p] (h : zb p = 0) : ¬ p := by unfold zb at h; split at h <;> simp_all
theorem zb_1 {p : Prop} [Decidable p] (h : zb p ≠ 0) : p := by unfold zb at h; split at h <;> simp_all
theorem zb_t {p : Prop} [Decidable p] (h : p) : zb p = 1 := if_pos h
theorem zb_f {p : Prop} [Decidable p] (h : ¬ p) : zb p = 0 := if_neg h
theorem zb_01 (p : Prop) [Decidable p] : zb p = 0 ∨ zb p = 1 := by unfold zb; split <;> simp
theorem zr_b (p : Prop) [Decidable p] : -2147483648 ≤ zb p ∧ zb p ≤ 2147483647 := by unfold zb; split <;> omega
/-- a TELLING's cells: people n, news m, standing s, delays D, gaps G, tellers E, plan P -/
def zTel (h : zH) (t : Nat) (n m s : Int) (D G E P : Int → Int) : Prop := 2 ≤ t ∧ h.1 t = some (zO 6 [vI n, vI m, vI s, vR (t + 1), vR (t + 2), vR (t + 3), vR (t + 4)]) ∧ h.1 (t + 1) = some (zI 8 D) ∧ h.1 (t + 2) = some (zI 8 G) ∧ h.1 (t + 3) = some (zI 8 E) ∧ h.1 (t + 4) = some (zI 8 P)
section TEL
variable {d : Nat} {h : zH} {Q : Option zV → zH → Prop} {t : Nat} {n m s : Int} {D G E P : Int → Int}
theorem zTel.ot (hT : zTel h t n m s D G E P) {a : Nat} {c : zE} (ha : a < t ∨ t + 4 < a) : zTel (zup h a c) t n m s D G E P := by
  obtain ⟨h0, h1, h2, h3, h4, h5⟩ := hT
  refine ⟨h0, ?_, ?_, ?_, ?_, ?_⟩ <;> (rw [zup_ne _ _ (by omega)]; assumption)
theorem zTel.fd (hT : zTel h t n m s D G E P) (n' m' s' : Int) : zTel (zup h t (zO 6 [vI n', vI m', vI s', vR (t + 1), vR (t + 2), vR (t + 3), vR (t + 4)])) t n' m' s' D G E P := by
  obtain ⟨h0, h1, h2, h3, h4, h5⟩ := hT
  refine ⟨h0, zup_same _ _ _, ?_, ?_, ?_, ?_⟩ <;> (rw [zup_ne _ _ (by omega)]; assumption)
theorem zTel.dl (hT : zTel h t n m s D G E P) (F : Int → Int) : zTel (zup h (t + 1) (zI 8 F)) t n m s F G E P := by
  obtain ⟨h0, h1, h2, h3, h4, h5⟩ := hT
  refine ⟨h0, ?_, zup_same _ _ _, ?_, ?_, ?_⟩ <;> (rw [zup_ne _ _ (by omega)]; assumption)
theorem zTel.gp (hT : zTel h t n m s D G E P) (F : Int → Int) : zTel (zup h (t + 2) (zI 8 F)) t n m s D F E P := by
  obtain ⟨h0, h1, h2, h3, h4, h5⟩ := hT
  refine ⟨h0, ?_, ?_, zup_same _ _ _, ?_, ?_⟩ <;> (rw [zup_ne _ _ (by omega)]; assumption)
theorem zTel.tl (hT : zTel h t n m s D G E P) (F : Int → Int) : zTel (zup h (t + 3) (zI 8 F)) t n m s D G F P := by
  obtain ⟨h0, h1, h2, h3, h4, h5⟩ := hT
  refine ⟨h0, ?_, ?_, ?_, zup_same _ _ _, ?_⟩ <;> (rw [zup_ne _ _ (by omega)]; assumption)
theorem zTel.pl (hT : zTel h t n m s D G E P) (F : Int → Int) : zTel (zup h (t + 4) (zI 8 F)) t n m s D G E F := by
  obtain ⟨h0, h1, h2, h3, h4, h5⟩ := hT
  refine ⟨h0, ?_, ?_, ?_, ?_, zup_same _ _ _⟩ <;> (rw [zup_ne _ _ (by omega)]; assumption)
theorem c_X6_people (hT : zTel h t n m s D G E P) (hQ : Q (some (vI n)) h) : zC d mX6_people 0 0 [vR t] h Q := by
  refine zC.of zpl_X6 (Nat.le_of_ble_eq_true rfl) ?_
  have zh0 := hT.2.1
  refine z_aload_n 1 dX6_people_0 rfl rfl ?_
  refine z_getf (ci := 6) 4 dX6_people_1 rfl rfl zin_6 0 (by decide) zw_88 (by first | with_reducible assumption | with_reducible exact zup_same _ _ _) rfl ?_
  refine z_ret dX6_people_4 (by first | exact True.intro | exact Or.inl rfl | exact Or.inr rfl | exact zb_01 _ | assumption | (show _ ∨ _; omega)) ⟨Nat.le_refl _, Nat.le_refl _⟩ ?_
  exact hQ
theorem c_X6_news (hT : zTel h t n m s D G E P) (hQ : Q (some (vI m)) h) : zC d mX6_news 0 0 [vR t] h Q := by
  refine zC.of zpl_X6 (Nat.le_of_ble_eq_true rfl) ?_
  have zh0 := hT.2.1
  refine z_aload_n 1 dX6_news_0 rfl rfl ?_
  refine z_getf (ci := 6) 4 dX6_news_1 rfl rfl zin_6 1 (by decide) zw_89 (by first | with_reducible assumption | with_reducible exact zup_same _ _ _) rfl ?_
  refine z_ret dX6_news_4 (by first | exact True.intro | exact Or.inl rfl | exact Or.inr rfl | exact zb_01 _ | assumption | (show _ ∨ _; omega)) ⟨Nat.le_refl _, Nat.le_refl _⟩ ?_
  exact hQ
theorem c_X6_standing (hT : zTel h t n m s D G E P) (hQ : Q (some (vI s)) h) : zC d mX6_standing 0 0 [vR t] h Q := by
  refine zC.of zpl_X6 (Nat.le_of_ble_eq_true rfl) ?_
  have zh0 := hT.2.1
  refine z_aload_n 1 dX6_standing_0 rfl rfl ?_
  refine z_getf (ci := 6) 4 dX6_standing_1 rfl rfl zin_6 2 (by decide) zw_90 (by first | with_reducible assumption | with_reducible exact zup_same _ _ _) rfl ?_
  refine z_ret dX6_standing_4 (by first | exact True.intro | exact Or.inl rfl | exact Or.inr rfl | exact zb_01 _ | assumption | (show _ ∨ _; omega)) ⟨Nat.le_refl _, Nat.le_refl _⟩ ?_
  exact hQ
theorem c_X6_hasPerson {p : Int} (hT : zTel h t n m s D G E P) (hp : -2147483648 ≤ p ∧ p ≤ 2147483647) (hn : 0 ≤ n ∧ n ≤ 8) (hQ : Q (some (vI (zb (0 ≤ p ∧ p < n)))) h) : zC d mX6_hasPerson 0 0 [vR t, vI p] h Q := by
  refine zC.of zpl_X6 (Nat.le_of_ble_eq_true rfl) ?_
  have zh0 := hT.2.1
  refine z_iload_n 1 dX6_hasPerson_0 rfl rfl ?_
  refine z_if_lt 16 4 dX6_hasPerson_1 (by decide) rfl (by first | omega | exact zr_b _ | exact zr_and _ _ | exact zr_or _ _ | exact zr_shl _ _) (fun c1 => ?_) (fun c1 => ?_)
  · refine z_iconst 17 dX6_hasPerson_16 rfl ?_
    refine z_ret dX6_hasPerson_17 (by first | exact True.intro | exact Or.inl rfl | exact Or.inr rfl | exact zb_01 _ | assumption | (show _ ∨ _; omega)) ⟨Nat.le_refl _, Nat.le_refl _⟩ ?_
    first | (rw [zb_t (by omega)] at hQ; exact hQ) | (rw [zb_f (by omega)] at hQ; exact hQ)
  · refine z_iload_n 5 dX6_hasPerson_4 rfl rfl ?_
    refine z_aload_n 6 dX6_hasPerson_5 rfl rfl ?_
    refine z_getf (ci := 6) 9 dX6_hasPerson_6 rfl rfl zin_6 0 (by decide) zw_88 (by first | with_reducible assumption | with_reducible exact zup_same _ _ _) rfl ?_
    refine z_icmp_ge 16 12 dX6_hasPerson_9 (by decide) rfl (by first | omega | exact zr_b _ | exact zr_and _ _ | exact zr_or _ _ | exact zr_shl _ _) (by first | omega | exact zr_b _ | exact zr_and _ _ | exact zr_or _ _ | exact zr_shl _ _) (fun c9 => ?_) (fun c9 => ?_)
    · refine z_iconst 17 dX6_hasPerson_16 rfl ?_
      refine z_ret dX6_hasPerson_17 (by first | exact True.intro | exact Or.inl rfl | exact Or.inr rfl | exact zb_01 _ | assumption | (show _ ∨ _; omega)) ⟨Nat.le_refl _, Nat.le_refl _⟩ ?_
      first | (rw [zb_t (by omega)] at hQ; exact hQ) | (rw [zb_f (by omega)] at hQ; exact hQ)
    · refine z_iconst 13 dX6_hasPerson_12 rfl ?_
      refine z_goto 17 dX6_hasPerson_13 (by decide) ?_
      refine z_ret dX6_hasPerson_17 (by first | exact True.intro | exact Or.inl rfl | exact Or.inr rfl | exact zb_01 _ | assumption | (show _ ∨ _; omega)) ⟨Nat.le_refl _, Nat.le_refl _⟩ ?_
      first | (rw [zb_t (by omega)] at hQ; exact hQ) | (rw [zb_f (by omega)] at hQ; exact hQ)
theorem c_X6_hasNews {p : Int} (hT : zTel h t n m s D G E P) (hp : -2147483648 ≤ p ∧ p ≤ 2147483647) (hn : 0 ≤ m ∧ m ≤ 8) (hQ : Q (some (vI (zb (0 ≤ p ∧ p < m)))) h) : zC d mX6_hasNews 0 0 [vR t, vI p] h Q := by
  refine zC.of zpl_X6 (Nat.le_of_ble_eq_true rfl) ?_
  have zh0 := hT.2.1
  refine z_iload_n 1 dX6_hasNews_0 rfl rfl ?_
  refine z_if_lt 16 4 dX6_hasNews_1 (by decide) rfl (by first | omega | exact zr_b _ | exact zr_and _ _ | exact zr_or _ _ | exact zr_shl _ _) (fun c1 => ?_) (fun c1 => ?_)
  · refine z_iconst 17 dX6_hasNews_16 rfl ?_
    refine z_ret dX6_hasNews_17 (by first | exact True.intro | exact Or.inl rfl | exact Or.inr rfl | exact zb_01 _ | assumption | (show _ ∨ _; omega)) ⟨Nat.le_refl _, Nat.le_refl _⟩ ?_
    first | (rw [zb_t (by omega)] at hQ; exact hQ) | (rw [zb_f (by omega)] at hQ; exact hQ)
  · refine z_iload_n 5 dX6_hasNews_4 rfl rfl ?_
    refine z_aload_n 6 dX6_hasNews_5 rfl rfl ?_
    refine z_getf (ci := 6) 9 dX6_hasNews_6 rfl rfl zin_6 1 (by decide) zw_89 (by first | with_reducible assumption | with_reducible exact zup_same _ _ _) rfl ?_
    refine z_icmp_ge 16 12 dX6_hasNews_9 (by decide) rfl (by first | omega | exact zr_b _ | exact zr_and _ _ | exact zr_or _ _ | exact zr_shl _ _) (by first | omega | exact zr_b _ | exact zr_and _ _ | exact zr_or _ _ | exact zr_shl _ _) (fun c9 => ?_) (fun c9 => ?_)
    · refine z_iconst 17 dX6_hasNews_16 rfl ?_
      refine z_ret dX6_hasNews_17 (by first | exact True.intro | exact Or.inl rfl | exact Or.inr rfl | exact zb_01 _ | assumption | (show _ ∨ _; omega)) ⟨Nat.le_refl _, Nat.le_refl _⟩ ?_
      first | (rw [zb_t (by omega)] at hQ; exact hQ) | (rw [zb_f (by omega)] at hQ; exact hQ)
    · refine z_iconst 13 dX6_hasNews_12 rfl ?_
      refine z_goto 17 dX6_hasNews_13 (by decide) ?_
      refine z_ret dX6_hasNews_17 (by first | exact True.intro | exact Or.inl rfl | exact Or.inr rfl | exact zb_01 _ | assumption | (show _ ∨ _; omega)) ⟨Nat.le_refl _, Nat.le_refl _⟩ ?_
      first | (rw [zb_t (by omega)] at hQ; exact hQ) | (rw [zb_f (by omega)] at hQ; exact hQ)
theorem c_X6_hasPlace {p : Int} (hT : zTel h t n m s D G E P) (hp : -2147483648 ≤ p ∧ p ≤ 2147483647) (hn : 0 ≤ s ∧ s ≤ 8) (hQ : Q (some (vI (zb (0 ≤ p ∧ p < s)))) h) : zC d mX6_hasPlace 0 0 [vR t, vI p] h Q := by
  refine zC.of zpl_X6 (Nat.le_of_ble_eq_true rfl) ?_
  have zh0 := hT.2.1
  refine z_iload_n 1 dX6_hasPlace_0 rfl rfl ?_
  refine z_if_lt 16 4 dX6_hasPlace_1 (by decide) rfl (by first | omega | exact zr_b _ | exact zr_and _ _ | exact zr_or _ _ | exact zr_shl _ _) (fun c1 => ?_) (fun c1 => ?_)
  · refine z_iconst 17 dX6_hasPlace_16 rfl ?_
    refine z_ret dX6_hasPlace_17 (by first | exact True.intro | exact Or.inl rfl | exact Or.inr rfl | exact zb_01 _ | assumption | (show _ ∨ _; omega)) ⟨Nat.le_refl _, Nat.le_refl _⟩ ?_
    first | (rw [zb_t (by omega)] at hQ; exact hQ) | (rw [zb_f (by omega)] at hQ; exact hQ)
  · refine z_iload_n 5 dX6_hasPlace_4 rfl rfl ?_
    refine z_aload_n 6 dX6_hasPlace_5 rfl rfl ?_
    refine z_getf (ci := 6) 9 dX6_hasPlace_6 rfl rfl zin_6 2 (by decide) zw_90 (by first | with_reducible assumption | with_reducible exact zup_same _ _ _) rfl ?_
    refine z_icmp_ge 16 12 dX6_hasPlace_9 (by decide) rfl (by first | omega | exact zr_b _ | exact zr_and _ _ | exact zr_or _ _ | exact zr_shl _ _) (by first | omega | exact zr_b _ | exact zr_and _ _ | exact zr_or _ _ | exact zr_shl _ _) (fun c9 => ?_) (fun c9 => ?_)
    · refine z_iconst 17 dX6_hasPlace_16 rfl ?_
      refine z_ret dX6_hasPlace_17 (by first | exact True.intro | exact Or.inl rfl | exact Or.inr rfl | exact zb_01 _ | assumption | (show _ ∨ _; omega)) ⟨Nat.le_refl _, Nat.le_refl _⟩ ?_
      first | (rw [zb_t (by omega)] at hQ; exact hQ) | (rw [zb_f (by omega)] at hQ; exact hQ)
    · refine z_iconst 13 dX6_hasPlace_12 rfl ?_
      refine z_goto 17 dX6_hasPlace_13 (by decide) ?_
      refine z_ret dX6_hasPlace_17 (by first | exact True.intro | exact Or.inl rfl | exact Or.inr rfl | exact zb_01 _ | assumption | (show _ ∨ _; omega)) ⟨Nat.le_refl _, Nat.le_refl _⟩ ?_
      first | (rw [zb_t (by omega)] at hQ; exact hQ) | (rw [zb_f (by omega)] at hQ; exact hQ)
theorem c_X6_delayOf {p : Int} (hT : zTel h t n m s D G E P) (hp : 0 ≤ p ∧ p < 8) (hQ : Q (some (vI (D p))) h) : zC (d + 1) mX6_delayOf 0 0 [vR t, vI p] h Q := by
  refine zC.of zpl_X6 (Nat.le_of_ble_eq_true rfl) ?_
  have zh0 := hT.2.1
  refine z_aload_n 1 dX6_delayOf_0 rfl rfl ?_
  refine z_getf (ci := 6) 4 dX6_delayOf_1 rfl rfl zin_6 3 (by decide) zw_91 (by first | with_reducible assumption | with_reducible exact zup_same _ _ _) rfl ?_
  refine z_iload_n 5 dX6_delayOf_4 rfl rfl ?_
  refine z_cSN2 8 dX6_delayOf_5 rfl kX9_at zn_374 (Nat.le_of_ble_eq_true rfl) ⟨Nat.le_refl _, Nat.le_refl _⟩ ?_
  refine c_X9_at hT.2.2.1 (by decide) (by omega) ?_
  refine z_ret dX6_delayOf_8 (by first | exact True.intro | exact Or.inl rfl | exact Or.inr rfl | exact zb_01 _ | assumption | (show _ ∨ _; omega)) ⟨Nat.le_refl _, Nat.le_refl _⟩ ?_
  exact hQ
theorem c_X6_gapOf {p : Int} (hT : zTel h t n m s D G E P) (hp : 0 ≤ p ∧ p < 8) (hQ : Q (some (vI (G p))) h) : zC (d + 1) mX6_gapOf 0 0 [vR t, vI p] h Q := by
  refine zC.of zpl_X6 (Nat.le_of_ble_eq_true rfl) ?_
  have zh0 := hT.2.1
  refine z_aload_n 1 dX6_gapOf_0 rfl rfl ?_
  refine z_getf (ci := 6) 4 dX6_gapOf_1 rfl rfl zin_6 4 (by decide) zw_92 (by first | with_reducible assumption | with_reducible exact zup_same _ _ _) rfl ?_
  refine z_iload_n 5 dX6_gapOf_4 rfl rfl ?_
  refine z_cSN2 8 dX6_gapOf_5 rfl kX9_at zn_374 (Nat.le_of_ble_eq_true rfl) ⟨Nat.le_refl _, Nat.le_refl _⟩ ?_
  refine c_X9_at hT.2.2.2.1 (by decide) (by omega) ?_
  refine z_ret dX6_gapOf_8 (by first | exact True.intro | exact Or.inl rfl | exact Or.inr rfl | exact zb_01 _ | assumption | (show _ ∨ _; omega)) ⟨Nat.le_refl _, Nat.le_refl _⟩ ?_
  exact hQ
theorem c_X6_tellerOf {p : Int} (hT : zTel h t n m s D G E P) (hp : 0 ≤ p ∧ p < 8) (hQ : Q (some (vI (E p))) h) : zC (d + 1) mX6_tellerOf 0 0 [vR t, vI p] h Q := by
  refine zC.of zpl_X6 (Nat.le_of_ble_eq_true rfl) ?_
  have zh0 := hT.2.1
  refine z_aload_n 1 dX6_tellerOf_0 rfl rfl ?_
  refine z_getf (ci := 6) 4 dX6_tellerOf_1 rfl rfl zin_6 5 (by decide) zw_93 (by first | with_reducible assumption | with_reducible exact zup_same _ _ _) rfl ?_
  refine z_iload_n 5 dX6_tellerOf_4 rfl rfl ?_
  refine z_cSN2 8 dX6_tellerOf_5 rfl kX9_at zn_374 (Nat.le_of_ble_eq_true rfl) ⟨Nat.le_refl _, Nat.le_refl _⟩ ?_
  refine c_X9_at hT.2.2.2.2.1 (by decide) (by omega) ?_
  refine z_ret dX6_tellerOf_8 (by first | exact True.intro | exact Or.inl rfl | exact Or.inr rfl | exact zb_01 _ | assumption | (show _ ∨ _; omega)) ⟨Nat.le_refl _, Nat.le_refl _⟩ ?_
  exact hQ
theorem c_X6_personAt {p : Int} (hT : zTel h t n m s D G E P) (hp : 0 ≤ p ∧ p < 8) (hQ : Q (some (vI (P p))) h) : zC (d + 1) mX6_personAt 0 0 [vR t, vI p] h Q := by
  refine zC.of zpl_X6 (Nat.le_of_ble_eq_true rfl) ?_
  have zh0 := hT.2.1
  refine z_aload_n 1 dX6_personAt_0 rfl rfl ?_
  refine z_getf (ci := 6) 4 dX6_personAt_1 rfl rfl zin_6 6 (by decide) zw_94 (by first | with_reducible assumption | with_reducible exact zup_same _ _ _) rfl ?_
  refine z_iload_n 5 dX6_personAt_4 rfl rfl ?_
  refine z_cSN2 8 dX6_personAt_5 rfl kX9_at zn_374 (Nat.le_of_ble_eq_true rfl) ⟨Nat.le_refl _, Nat.le_refl _⟩ ?_
  refine c_X9_at hT.2.2.2.2.2 (by decide) (by omega) ?_
  refine z_ret dX6_personAt_8 (by first | exact True.intro | exact Or.inl rfl | exact Or.inr rfl | exact zb_01 _ | assumption | (show _ ∨ _; omega)) ⟨Nat.le_refl _, Nat.le_refl _⟩ ?_
  exact hQ
theorem c_X6_setDelay {p v : Int} (hT : zTel h t n m s D G E P) (hp : 0 ≤ p ∧ p < 8) (hQ : Q none (zup h (t + 1) (zI 8 (zst D p v)))) : zC (d + 1) mX6_setDelay 0 0 [vR t, vI p, vI v] h Q := by
  have h2 := hT.1
  refine zC.of zpl_X6 (Nat.le_of_ble_eq_true rfl) ?_
  have zh0 := hT.2.1
  refine z_aload_n 1 dX6_setDelay_0 rfl rfl ?_
  refine z_getf (ci := 6) 4 dX6_setDelay_1 rfl rfl zin_6 3 (by decide) zw_91 (by first | with_reducible assumption | with_reducible exact zup_same _ _ _) rfl ?_
  refine z_iload_n 5 dX6_setDelay_4 rfl rfl ?_
  refine z_iload_n 6 dX6_setDelay_5 rfl rfl ?_
  refine z_cSN3 9 dX6_setDelay_6 rfl kX9_put zn_340 (Nat.le_of_ble_eq_true rfl) ⟨Nat.le_refl _, Nat.le_refl _⟩ ?_
  refine c_X9_put hT.2.2.1 (by decide) (by omega) (by omega) ?_
  refine z_vret dX6_setDelay_9 (by first | exact True.intro | exact Or.inl rfl | exact Or.inr rfl | exact zb_01 _ | assumption | (show _ ∨ _; omega)) ⟨Nat.le_refl _, Nat.le_refl _⟩ ?_
  exact hQ
theorem c_X6_setGap {p v : Int} (hT : zTel h t n m s D G E P) (hp : 0 ≤ p ∧ p < 8) (hQ : Q none (zup h (t + 2) (zI 8 (zst G p v)))) : zC (d + 1) mX6_setGap 0 0 [vR t, vI p, vI v] h Q := by
  have h2 := hT.1
  refine zC.of zpl_X6 (Nat.le_of_ble_eq_true rfl) ?_
  have zh0 := hT.2.1
  refine z_aload_n 1 dX6_setGap_0 rfl rfl ?_
  refine z_getf (ci := 6) 4 dX6_setGap_1 rfl rfl zin_6 4 (by decide) zw_92 (by first | with_reducible assumption | with_reducible exact zup_same _ _ _) rfl ?_
  refine z_iload_n 5 dX6_setGap_4 rfl rfl ?_
  refine z_iload_n 6 dX6_setGap_5 rfl rfl ?_
  refine z_cSN3 9 dX6_setGap_6 rfl kX9_put zn_340 (Nat.le_of_ble_eq_true rfl) ⟨Nat.le_refl _, Nat.le_refl _⟩ ?_
  refine c_X9_put hT.2.2.2.1 (by decide) (by omega) (by omega) ?_
  refine z_vret dX6_setGap_9 (by first | exact True.intro | exact Or.inl rfl | exact Or.inr rfl | exact zb_01 _ | assumption | (show _ ∨ _; omega)) ⟨Nat.le_refl _, Nat.le_refl _⟩ ?_
  exact hQ
theorem c_X6_startWith {p v : Int} (hT : zTel h t n m s D G E P) (hQ : Q none (zup h t (zO 6 [vI p, vI v, vI 0, vR (t + 1), vR (t + 2), vR (t + 3), vR (t + 4)]))) : zC d mX6_startWith 0 0 [vR t, vI p, vI v] h Q := by
  have h2 := hT.1
  refine zC.of zpl_X6 (Nat.le_of_ble_eq_true rfl) ?_
  have zh0 := hT.2.1
  refine z_aload_n 1 dX6_startWith_0 rfl rfl ?_
  refine z_iload_n 2 dX6_startWith_1 rfl rfl ?_
  refine z_putf (ci := 6) 5 dX6_startWith_2 rfl rfl zin_6 tyX6_ok nmX6 0 (by decide) zw_88 rfl (fun _ => ⟨rfl, rfl⟩) (by omega) (by first | with_reducible assumption | with_reducible exact zup_same _ _ _) (Nat.le_of_ble_eq_true rfl) ?_
  refine z_aload_n 6 dX6_startWith_5 rfl rfl ?_
  refine z_iload_n 7 dX6_startWith_6 rfl rfl ?_
  refine z_putf (ci := 6) 10 dX6_startWith_7 rfl rfl zin_6 tyX6_ok nmX6 1 (by decide) zw_89 rfl (fun _ => ⟨rfl, rfl⟩) (by omega) (by first | with_reducible assumption | with_reducible exact zup_same _ _ _) (Nat.le_of_ble_eq_true rfl) ?_
  refine z_aload_n 11 dX6_startWith_10 rfl rfl ?_
  refine z_iconst 12 dX6_startWith_11 rfl ?_
  refine z_putf (ci := 6) 15 dX6_startWith_12 rfl rfl zin_6 tyX6_ok nmX6 2 (by decide) zw_90 rfl (fun _ => ⟨rfl, rfl⟩) (by omega) (by first | with_reducible assumption | with_reducible exact zup_same _ _ _) (Nat.le_of_ble_eq_true rfl) ?_
  refine z_vret dX6_startWith_15 (by first | exact True.intro | exact Or.inl rfl | exact Or.inr rfl | exact zb_01 _ | assumption | (show _ ∨ _; omega)) ⟨Nat.le_refl _, Nat.le_refl _⟩ ?_
  simp only [zup_zup]; exact hQ
theorem c_X6_emptyPlan (hT : zTel h t n m s D G E P) (hQ : Q none (zup h t (zO 6 [vI n, vI m, vI 0, vR (t + 1), vR (t + 2), vR (t + 3), vR (t + 4)]))) : zC d mX6_emptyPlan 0 0 [vR t] h Q := by
  have h2 := hT.1
  refine zC.of zpl_X6 (Nat.le_of_ble_eq_true rfl) ?_
  have zh0 := hT.2.1
  refine z_aload_n 1 dX6_emptyPlan_0 rfl rfl ?_
  refine z_iconst 2 dX6_emptyPlan_1 rfl ?_
  refine z_putf (ci := 6) 5 dX6_emptyPlan_2 rfl rfl zin_6 tyX6_ok nmX6 2 (by decide) zw_90 rfl (fun _ => ⟨rfl, rfl⟩) (by omega) (by first | with_reducible assumption | with_reducible exact zup_same _ _ _) (Nat.le_of_ble_eq_true rfl) ?_
  refine z_vret dX6_emptyPlan_5 (by first | exact True.intro | exact Or.inl rfl | exact Or.inr rfl | exact zb_01 _ | assumption | (show _ ∨ _; omega)) ⟨Nat.le_refl _, Nat.le_refl _⟩ ?_
  exact hQ
/-- THE PLAN grows: what the cells are then -/
theorem c_X6_putLast {p e : Int} (hT : zTel h t n m s D G E P) (hs : 0 ≤ s ∧ s < 8) (hp : 0 ≤ p ∧ p < 8) (hQ : Q none (zup (zup (zup h (t + 4) (zI 8 (zst P s p))) (t + 3) (zI 8 (zst E p e))) t (zO 6 [vI n, vI m, vI (s + 1), vR (t + 1), vR (t + 2), vR (t + 3), vR (t + 4)]))) : zC (d + 1) mX6_putLast 0 0 [vR t, vI p, vI e] h Q := by
  have h2 := hT.1
  refine zC.of zpl_X6 (Nat.le_of_ble_eq_true rfl) ?_
  have zh0 := hT.2.1
  refine z_aload_n 1 dX6_putLast_0 rfl rfl ?_
  refine z_getf (ci := 6) 4 dX6_putLast_1 rfl rfl zin_6 6 (by decide) zw_94 (by first | with_reducible assumption | with_reducible exact zup_same _ _ _) rfl ?_
  refine z_aload_n 5 dX6_putLast_4 rfl rfl ?_
  refine z_getf (ci := 6) 8 dX6_putLast_5 rfl rfl zin_6 2 (by decide) zw_90 (by first | with_reducible assumption | with_reducible exact zup_same _ _ _) rfl ?_
  refine z_iload_n 9 dX6_putLast_8 rfl rfl ?_
  refine z_cSN3 12 dX6_putLast_9 rfl kX9_put zn_340 (Nat.le_of_ble_eq_true rfl) ⟨Nat.le_refl _, Nat.le_refl _⟩ ?_
  refine c_X9_put hT.2.2.2.2.2 (by decide) (by omega) (by omega) ?_
  have hT := hT.pl (zst P s p)
  have zh0 := hT.2.1
  refine z_aload_n 13 dX6_putLast_12 rfl rfl ?_
  refine z_getf (ci := 6) 16 dX6_putLast_13 rfl rfl zin_6 5 (by decide) zw_93 (by first | with_reducible assumption | with_reducible exact zup_same _ _ _) rfl ?_
  refine z_iload_n 17 dX6_putLast_16 rfl rfl ?_
  refine z_iload_n 18 dX6_putLast_17 rfl rfl ?_
  refine z_cSN3 21 dX6_putLast_18 rfl kX9_put zn_340 (Nat.le_of_ble_eq_true rfl) ⟨Nat.le_refl _, Nat.le_refl _⟩ ?_
  refine c_X9_put hT.2.2.2.2.1 (by decide) (by omega) (by omega) ?_
  have hT := hT.tl (zst E p e)
  have zh0 := hT.2.1
  refine z_aload_n 22 dX6_putLast_21 rfl rfl ?_
  refine z_dup_a 23 dX6_putLast_22 rfl ?_
  refine z_getf (ci := 6) 26 dX6_putLast_23 rfl rfl zin_6 2 (by decide) zw_90 (by first | with_reducible assumption | with_reducible exact zup_same _ _ _) rfl ?_
  refine z_iconst 27 dX6_putLast_26 rfl ?_
  refine z_iadd 28 dX6_putLast_27 rfl ?_
  refine z_putf (ci := 6) 31 dX6_putLast_28 rfl rfl zin_6 tyX6_ok nmX6 2 (by decide) zw_90 rfl (fun _ => ⟨rfl, rfl⟩) (by omega) (by first | with_reducible assumption | with_reducible exact zup_same _ _ _) (Nat.le_of_ble_eq_true rfl) ?_
  refine z_vret dX6_putLast_31 (by first | exact True.intro | exact Or.inl rfl | exact Or.inr rfl | exact zb_01 _ | assumption | (show _ ∨ _; omega)) ⟨Nat.le_refl _, Nat.le_refl _⟩ ?_
  exact hQ
end TEL
