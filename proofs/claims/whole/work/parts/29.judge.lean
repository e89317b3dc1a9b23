/-! LateLetters: judge, drawn -/
theorem zcmp_0 {x y : Int} (h : zcmp x y = 0) : x = y := by
  unfold zcmp at h
  by_cases e : y < x
  · rw [if_pos e] at h; omega
  · rw [if_neg e] at h
    by_cases e2 : x = y
    · exact e2
    · rw [if_neg e2] at h; omega
section CG
variable {B : Int} {N : Nat} {D G E P D' G' E' P' : Int → Int}
theorem zall_cg (hO : zOK B N D G E P) (h1 : ∀ p : Int, 0 ≤ p → p ≤ N → D p = D' p ∧ G p = G' p) (h2 : ∀ i : Nat, i < N → P i = P' i ∧ E (P i) = E' (P i)) (K : Int → Int) : ∀ k : Nat, zall D G E P N K k = zall D' G' E' P' N K k := by
  have hrow : ∀ (k : Int) (S : zS) (i : Nat), i ≤ N → zrow D G E P k S i = zrow D' G' E' P' k S i := by
    intro k S i
    induction i with
    | zero => intro _; rfl
    | succ i ih =>
      intro hi
      have ht := hO.tel (show i < N by omega)
      have e1 := h1 (E (P i)) ht.1 ht.2.1
      have e2 := h2 i (by omega)
      show zstep D G E k (P i) (zrow D G E P k S i) = zstep D' G' E' k (P' i) (zrow D' G' E' P' k S i)
      rw [ih (by omega), ← e2.1]
      unfold zstep zbeg
      rw [← e2.2, e1.1, e1.2]
  intro k
  induction k with
  | zero => rfl
  | succ k ih =>
    show zrow D G E P k (zall D G E P N K k) N = zrow D' G' E' P' k (zall D' G' E' P' N K k) N
    rw [ih, hrow _ _ N (Nat.le_refl _)]
theorem zLAST_cg (hO : zOK B N D G E P) (h1 : ∀ p : Int, 0 ≤ p → p ≤ N → D p = D' p ∧ G p = G' p) (h2 : ∀ i : Nat, i < N → P i = P' i ∧ E (P i) = E' (P i)) (M : Nat) : zLAST D G E P N M = zLAST D' G' E' P' N M := by
  unfold zLAST; rw [zall_cg hO h1 h2]
theorem zTK_cg (hO : zOK B N D G E P) (h1 : ∀ p : Int, 0 ≤ p → p ≤ N → D p = D' p ∧ G p = G' p) (h2 : ∀ i : Nat, i < N → P i = P' i ∧ E (P i) = E' (P i)) (M : Nat) (p : Int) (k : Nat) : zTK D G E P N M p k = zTK D' G' E' P' N M p k := by
  unfold zTK; rw [zall_cg hO h1 h2]
end CG
/-- a row's figures, by thousands -/
def zrs (row : Int) : Nat → Int
  | 0 => row
  | j + 1 => zrs row j / 1000
theorem zrs_b {row : Int} (h : 0 ≤ row ∧ row ≤ 9223372036854775807) : ∀ j : Nat, 0 ≤ zrs row j ∧ zrs row j ≤ 9223372036854775807
  | 0 => h
  | j + 1 => by have := zrs_b h j; unfold zrs; omega
theorem zl2i_small {x : Int} (h : 0 ≤ x ∧ x ≤ 2147483647) : zl2i x = x := by
  unfold zl2i
  rw [show (Int64.ofInt x).toInt32 = Int32.ofInt x from by rw [← Int32.ofInt_int64ToInt, z_rngJ (by omega)], z_rng (by omega)]
def zdoi (row : Int) (n : Nat) (O : Int → Int) : Nat → (Int → Int)
  | 0 => O
  | j + 1 => zst (zdoi row n O j) ((n : Int) - 1 - j) (zrs row j % 1000)
theorem zdoi_at {row : Int} {n : Nat} {O : Int → Int} : ∀ {j : Nat}, j ≤ n → ∀ i : Nat, i < j → zdoi row n O j ((n : Int) - 1 - i) = zrs row i % 1000
  | j + 1, hj, i, hi => by
    unfold zdoi
    by_cases e : i = j
    · subst e; rw [zst_same]
    · rw [zst_ne _ _ (by omega)]; exact zdoi_at (by omega) i (by omega)
abbrev zX : Type := (Int → Int) × (Int → Int) × (Int → Int)
/-- can a doing be, and what is so then: delays, tellers, plan -/
def zcan (N M : Nat) (G : Int → Int) (k a b : Int) (X : zX) : Bool × zX :=
  if k = 1 then (if zrfM N X.2.1 X.2.2 a b = 0 then (true, (X.1, zst X.2.1 a b, (zgv (zbrn X.2.1 X.2.2 a N) N X.2.2 N).2)) else (false, X))
  else if k = 2 then (if a = 0 ∧ zrfC N X.2.1 X.2.2 b = 0 then (true, (X.1, X.2.1, zst (zst X.2.2 b (X.2.2 (b + 1))) (b + 1) (X.2.2 b))) else (false, X))
  else if k = 3 then (if a = 0 ∧ b = 0 then (true, (X.1, (zQK X.1 G X.2.1 X.2.2 N).1, (zQK X.1 G X.2.1 X.2.2 N).2)) else (false, X))
  else if k = 4 then (if zrfS N a 0 b = 0 then (true, (zst X.1 a b, X.2.1, X.2.2)) else (false, X))
  else if k = 5 then (decide (zLAST X.1 G X.2.1 X.2.2 N M = 10 * a + b), X)
  else if k = 6 then (decide ((0 ≤ a ∧ a < N + 1) ∧ zTK X.1 G X.2.1 X.2.2 N M a 0 ≤ b), X)
  else if k = 7 then (decide ((0 ≤ a ∧ a < N + 1) ∧ zcnt X.2.1 X.2.2 a N = b), X)
  else (false, X)
theorem zrfM_0 {N : Nat} {E P : Int → Int} {p t : Int} (hr : zrfM N E P p t = 0) : (1 ≤ p ∧ p ≤ N) ∧ (0 ≤ t ∧ t ≤ N) ∧ zkb (zbrn E P p N) t = false := by
  unfold zrfM at hr
  by_cases e : p = 0 ∨ ¬ (0 ≤ p ∧ p < N + 1) ∨ ¬ (0 ≤ t ∧ t < N + 1)
  · rw [if_pos e] at hr; omega
  · rw [if_neg e] at hr
    by_cases e2 : t = E p ∨ zkb (zbrn E P p N) t = true
    · rw [if_pos e2] at hr; omega
    · exact ⟨by omega, by omega, by cases hz : zkb (zbrn E P p N) t; rfl; exact absurd (Or.inr hz) e2⟩
theorem zrfC_0 {N : Nat} {E P : Int → Int} {i : Int} (hr : zrfC N E P i = 0) : (0 ≤ i ∧ i + 1 < N) ∧ E (P (i + 1)) ≠ P i := by
  unfold zrfC at hr
  by_cases e : ¬ (0 ≤ i ∧ i + 1 < N)
  · rw [if_pos e] at hr; omega
  · rw [if_neg e] at hr
    by_cases e2 : E (P (i + 1)) = P i
    · rw [if_pos e2] at hr; omega
    · exact ⟨by omega, e2⟩
theorem zrfS_00 {N : Nat} {p v : Int} (hr : zrfS N p 0 v = 0) : (0 ≤ p ∧ p ≤ N) ∧ (1 ≤ v ∧ v ≤ 9) := by
  unfold zrfS at hr
  by_cases e : ¬ (0 ≤ p ∧ p < N + 1)
  · rw [if_pos e] at hr; omega
  · rw [if_neg e, if_neg (by omega)] at hr
    by_cases e2 : v < 1 ∨ (if (0 : Int) = 0 then 9 else if (0 : Int) = 1 then 5 else 3) < v
    · rw [if_pos e2] at hr; omega
    · exact ⟨by omega, by omega⟩
theorem zchange_ok' {B : Int} {N : Nat} {D G E P : Int → Int} {i : Int} (hO : zOK B N D G E P) (hr : zrfC N E P i = 0) : zOK B N D G E (zst (zst P i (P (i + 1))) (i + 1) (P i)) := by
  have h0 := zrfC_0 hr
  have := zchange_ok (i := i.toNat) hO (by omega) (by rw [show ((i.toNat : Nat) : Int) = i by omega]; exact h0.2)
  rw [show ((i.toNat : Nat) : Int) = i by omega] at this
  exact this
theorem zcan_ok {N M : Nat} {G : Int → Int} {k a b : Int} {X : zX} (hO : zOK 9 N X.1 G X.2.1 X.2.2) : zOK 9 N (zcan N M G k a b X).2.1 G (zcan N M G k a b X).2.2.1 (zcan N M G k a b X).2.2.2 := by
  unfold zcan
  by_cases e1 : k = 1
  · rw [if_pos e1]
    by_cases q : zrfM N X.2.1 X.2.2 a b = 0
    · rw [if_pos q]; have := zrfM_0 q; exact zmove_ok hO this.1 this.2.1 this.2.2
    · rw [if_neg q]; exact hO
  rw [if_neg e1]
  by_cases e2 : k = 2
  · rw [if_pos e2]
    by_cases q : a = 0 ∧ zrfC N X.2.1 X.2.2 b = 0
    · rw [if_pos q]; exact zchange_ok' hO q.2
    · rw [if_neg q]; exact hO
  rw [if_neg e2]
  by_cases e3 : k = 3
  · rw [if_pos e3]
    by_cases q : a = 0 ∧ b = 0
    · rw [if_pos q]; exact zQK_ok hO (by omega)
    · rw [if_neg q]; exact hO
  rw [if_neg e3]
  by_cases e4 : k = 4
  · rw [if_pos e4]
    by_cases q : zrfS N a 0 b = 0
    · rw [if_pos q]; exact hO.setD (Int.le_refl _) (zrfS_00 q).2
    · rw [if_neg q]; exact hO
  rw [if_neg e4]
  by_cases e5 : k = 5
  · rw [if_pos e5]; exact hO
  rw [if_neg e5]
  by_cases e6 : k = 6
  · rw [if_pos e6]; exact hO
  rw [if_neg e6]
  by_cases e7 : k = 7
  · rw [if_pos e7]; exact hO
  rw [if_neg e7]; exact hO
section JUDGE
variable {d : Nat} {h : zH} {Q : Option zV → zH → Prop} {N M : Nat} {D G E P : Int → Int} {T U : zTD} {C : Int → Int} {l fi ct : Int} {S : Nat → zTD} {fl : Int} {Kp : Nat → zTD} {W Kt : Int → Int} {c sd : Int} {O : Int → Int}
theorem w_give8 {p t : Int} (hW : zCW h T (N, M, D, G, E, P) C l fi ct S fl Kp W Kt c sd O) (hO : zOK 9 N D G E P) (hp : 0 ≤ p ∧ p < 8) (hQ : ∀ h' : zH, zCW h' T (N, M, D, G, zst E p t, (zgv (zbrn E P p N) N P N).2) C l fi ct S fl Kp W Kt c sd O → zMod 2 111 h h' → Q none h') : zC (d + 3) mX6_giveTeller 0 0 [vR 8, vI p, vI t] h Q := by
  refine c_X6_giveTeller hW.su hO.1 hp hO.v8 ?_
  have m2 : zMod 8 12 h (zup (zup h (8 + 3) (zI 8 (zst E p t))) (8 + 4) (zI 8 (zgv (zbrn E P p N) N P N).2)) := ((zMod.rf _ _ h).up _ (by omega)).up _ (by omega)
  exact hQ _ (hW.su_set (U' := (N, M, D, G, zst E p t, (zgv (zbrn E P p N) N P N).2)) m2 ((hW.su.tl (zst E p t)).pl (zgv (zbrn E P p N) N P N).2)) (m2.wd (by omega))
theorem w_exch8 {i : Int} (hW : zCW h T (N, M, D, G, E, P) C l fi ct S fl Kp W Kt c sd O) (hi : 0 ≤ i ∧ i < 7) (hQ : ∀ h' : zH, zCW h' T (N, M, D, G, E, zst (zst P i (P (i + 1))) (i + 1) (P i)) C l fi ct S fl Kp W Kt c sd O → zMod 2 111 h h' → Q none h') : zC (d + 2) mX6_exchange 0 0 [vR 8, vI i] h Q := by
  refine c_X6_exchange hW.su hi ?_
  have m2 : zMod 8 12 h (zup h (8 + 4) (zI 8 (zst (zst P i (P (i + 1))) (i + 1) (P i)))) := (zMod.rf _ _ h).up _ (by omega)
  exact hQ _ (hW.su_set (U' := (N, M, D, G, E, zst (zst P i (P (i + 1))) (i + 1) (P i))) m2 (hW.su.pl _)) (m2.wd (by omega))
theorem zrf_b {N : Nat} {E P : Int → Int} {a b : Int} : (-100 ≤ zrfM N E P a b ∧ zrfM N E P a b ≤ 100) ∧ (-100 ≤ zrfC N E P b ∧ zrfC N E P b ≤ 100) ∧ (-100 ≤ zrfS N a 0 b ∧ zrfS N a 0 b ≤ 100) := by
  refine ⟨?_, ?_, ?_⟩
  · unfold zrfM; split; omega; split <;> omega
  · unfold zrfC; split; omega; split <;> omega
  · unfold zrfS
    by_cases e1 : ¬ (0 ≤ a ∧ a < N + 1)
    · rw [if_pos e1]; omega
    · rw [if_neg e1, if_neg (by omega)]
      by_cases e3 : b < 1 ∨ (if (0 : Int) = 0 then 9 else if (0 : Int) = 1 then 5 else 3) < b
      · rw [if_pos e3]; omega
      · rw [if_neg e3]; omega
/-- what the calls of canBe give: the answer, the new world -/
theorem c_X9_canBeMoved {a b : Int} (hW : zCW h T (N, M, D, G, E, P) C l fi ct S fl Kp W Kt c sd O) (hO : zOK 9 N D G E P) (ha : 0 ≤ a ∧ a ≤ 9) (hb : 0 ≤ b ∧ b ≤ 9) (h1 : zrfM N E P a b = 0 → ∀ h' : zH, zCW h' T (N, M, D, G, zst E a b, (zgv (zbrn E P a N) N P N).2) C l fi ct S fl Kp W Kt c sd O → zMod 2 111 h h' → Q (some (vI 1)) h') (h0 : zrfM N E P a b ≠ 0 → Q (some (vI 0)) h) : zC (d + 4) mX9_canBeMoved 0 0 [vR 2, vI a, vI b] h Q := by
  have hN := hO.1
  have hbb := (zrf_b (N := N) (E := E) (P := P) (a := a) (b := b)).1
  have zo2 := hW.ob
  have zo8 := hW.su.2.1
  refine zC.of zpl_X9 (Nat.le_of_ble_eq_true rfl) ?_
  refine z_aload_n 1 dX9_canBeMoved_0 rfl rfl ?_
  refine z_getf (ci := 9) 4 dX9_canBeMoved_1 rfl rfl zin_9 1 (by decide) zw_225 (by first | with_reducible assumption | with_reducible exact zup_same _ _ _) rfl ?_
  refine z_iload_n 5 dX9_canBeMoved_4 rfl rfl ?_
  refine z_iload_n 6 dX9_canBeMoved_5 rfl rfl ?_
  refine z_cS3 9 dX9_canBeMoved_6 rfl kX9_refusalOfMove zw_535 (Nat.le_of_ble_eq_true rfl) ⟨Nat.le_refl _, Nat.le_refl _⟩ ?_
  refine c_X9_refusalOfMove hW.su hO (by omega) (by omega) ?_
  refine z_if_eq 14 12 dX9_canBeMoved_9 (by decide) rfl (by first | omega | exact zr_b _ | exact zr_and _ _ | exact zr_or _ _ | exact zr_shl _ _) (fun c9 => ?_) (fun c9 => ?_)
  · try replace c9 := zb_0 c9
    have hz := zrfM_0 c9
    refine z_aload_n 15 dX9_canBeMoved_14 rfl rfl ?_
    refine z_getf (ci := 9) 18 dX9_canBeMoved_15 rfl rfl zin_9 1 (by decide) zw_225 (by first | with_reducible assumption | with_reducible exact zup_same _ _ _) rfl ?_
    refine z_iload_n 19 dX9_canBeMoved_18 rfl rfl ?_
    refine z_iload_n 20 dX9_canBeMoved_19 rfl rfl ?_
    refine z_cV2 23 dX9_canBeMoved_20 rfl kX6_giveTeller zw_555 (Nat.le_of_ble_eq_true rfl) ⟨Nat.le_refl _, Nat.le_refl _⟩ (by first | with_reducible assumption | with_reducible exact zup_same _ _ _) ?_
    refine w_give8 hW hO (by omega) (fun h1' hW1 hF1 => ?_)
    refine z_iconst 24 dX9_canBeMoved_23 rfl ?_
    refine z_ret dX9_canBeMoved_24 (by first | exact True.intro | exact Or.inl rfl | exact Or.inr rfl | exact zb_01 _ | assumption | (show _ ∨ _; omega)) ⟨Nat.le_refl _, Nat.le_refl _⟩ ?_
    exact h1 c9 _ hW1 hF1
  · try replace c9 := zb_1 c9
    refine z_iconst 13 dX9_canBeMoved_12 rfl ?_
    refine z_ret dX9_canBeMoved_13 (by first | exact True.intro | exact Or.inl rfl | exact Or.inr rfl | exact zb_01 _ | assumption | (show _ ∨ _; omega)) ⟨Nat.le_refl _, Nat.le_refl _⟩ ?_
    exact h0 c9
theorem c_X9_canBeChanged {b : Int} (hW : zCW h T (N, M, D, G, E, P) C l fi ct S fl Kp W Kt c sd O) (hO : zOK 9 N D G E P) (hb : 0 ≤ b ∧ b ≤ 9) (h1 : zrfC N E P b = 0 → ∀ h' : zH, zCW h' T (N, M, D, G, E, zst (zst P b (P (b + 1))) (b + 1) (P b)) C l fi ct S fl Kp W Kt c sd O → zMod 2 111 h h' → Q (some (vI 1)) h') (h0 : zrfC N E P b ≠ 0 → Q (some (vI 0)) h) : zC (d + 4) mX9_canBeChanged 0 0 [vR 2, vI b] h Q := by
  have hN := hO.1
  have hbb := (zrf_b (N := N) (E := E) (P := P) (a := 0) (b := b)).2.1
  have zo2 := hW.ob
  have zo8 := hW.su.2.1
  refine zC.of zpl_X9 (Nat.le_of_ble_eq_true rfl) ?_
  refine z_aload_n 1 dX9_canBeChanged_0 rfl rfl ?_
  refine z_getf (ci := 9) 4 dX9_canBeChanged_1 rfl rfl zin_9 1 (by decide) zw_225 (by first | with_reducible assumption | with_reducible exact zup_same _ _ _) rfl ?_
  refine z_iload_n 5 dX9_canBeChanged_4 rfl rfl ?_
  refine z_cS2 8 dX9_canBeChanged_5 rfl kX9_refusalOfChange zw_568 (Nat.le_of_ble_eq_true rfl) ⟨Nat.le_refl _, Nat.le_refl _⟩ ?_
  refine c_X9_refusalOfChange hW.su hO (by omega) ?_
  refine z_if_eq 13 11 dX9_canBeChanged_8 (by decide) rfl (by first | omega | exact zr_b _ | exact zr_and _ _ | exact zr_or _ _ | exact zr_shl _ _) (fun c8 => ?_) (fun c8 => ?_)
  · try replace c8 := zb_0 c8
    have hz := zrfC_0 c8
    refine z_aload_n 14 dX9_canBeChanged_13 rfl rfl ?_
    refine z_getf (ci := 9) 17 dX9_canBeChanged_14 rfl rfl zin_9 1 (by decide) zw_225 (by first | with_reducible assumption | with_reducible exact zup_same _ _ _) rfl ?_
    refine z_iload_n 18 dX9_canBeChanged_17 rfl rfl ?_
    refine z_cV1 21 dX9_canBeChanged_18 rfl kX6_exchange zw_571 (Nat.le_of_ble_eq_true rfl) ⟨Nat.le_refl _, Nat.le_refl _⟩ (by first | with_reducible assumption | with_reducible exact zup_same _ _ _) ?_
    refine w_exch8 hW (by omega) (fun h1' hW1 hF1 => ?_)
    refine z_iconst 22 dX9_canBeChanged_21 rfl ?_
    refine z_ret dX9_canBeChanged_22 (by first | exact True.intro | exact Or.inl rfl | exact Or.inr rfl | exact zb_01 _ | assumption | (show _ ∨ _; omega)) ⟨Nat.le_refl _, Nat.le_refl _⟩ ?_
    exact h1 c8 _ hW1 hF1
  · try replace c8 := zb_1 c8
    refine z_iconst 12 dX9_canBeChanged_11 rfl ?_
    refine z_ret dX9_canBeChanged_12 (by first | exact True.intro | exact Or.inl rfl | exact Or.inr rfl | exact zb_01 _ | assumption | (show _ ∨ _; omega)) ⟨Nat.le_refl _, Nat.le_refl _⟩ ?_
    exact h0 c8
theorem c_X9_canBeDelayed {a b : Int} (hW : zCW h T (N, M, D, G, E, P) C l fi ct S fl Kp W Kt c sd O) (hN : N ≤ 7) (ha : 0 ≤ a ∧ a ≤ 9) (hb : 0 ≤ b ∧ b ≤ 9) (h1 : zrfS N a 0 b = 0 → ∀ h' : zH, zCW h' T (N, M, zst D a b, G, E, P) C l fi ct S fl Kp W Kt c sd O → zMod 2 111 h h' → Q (some (vI 1)) h') (h0 : zrfS N a 0 b ≠ 0 → Q (some (vI 0)) h) : zC (d + 4) mX9_canBeDelayed 0 0 [vR 2, vI a, vI b] h Q := by
  have hbb := (zrf_b (N := N) (E := E) (P := P) (a := a) (b := b)).2.2
  have zo2 := hW.ob
  have zo8 := hW.su.2.1
  refine zC.of zpl_X9 (Nat.le_of_ble_eq_true rfl) ?_
  refine z_aload_n 1 dX9_canBeDelayed_0 rfl rfl ?_
  refine z_getf (ci := 9) 4 dX9_canBeDelayed_1 rfl rfl zin_9 1 (by decide) zw_225 (by first | with_reducible assumption | with_reducible exact zup_same _ _ _) rfl ?_
  refine z_iload_n 5 dX9_canBeDelayed_4 rfl rfl ?_
  refine z_iconst 6 dX9_canBeDelayed_5 rfl ?_
  refine z_iload_n 7 dX9_canBeDelayed_6 rfl rfl ?_
  refine z_cS4 10 dX9_canBeDelayed_7 rfl kX9_refusalOfSet zw_583 (Nat.le_of_ble_eq_true rfl) ⟨Nat.le_refl _, Nat.le_refl _⟩ ?_
  refine c_X9_refusalOfSet hW.su hN (by omega) (by omega) (by omega) ?_
  refine z_if_eq 15 13 dX9_canBeDelayed_10 (by decide) rfl (by first | omega | exact zr_b _ | exact zr_and _ _ | exact zr_or _ _ | exact zr_shl _ _) (fun c10 => ?_) (fun c10 => ?_)
  · try replace c10 := zb_0 c10
    have hz := zrfS_00 c10
    refine z_aload_n 16 dX9_canBeDelayed_15 rfl rfl ?_
    refine z_getf (ci := 9) 19 dX9_canBeDelayed_16 rfl rfl zin_9 1 (by decide) zw_225 (by first | with_reducible assumption | with_reducible exact zup_same _ _ _) rfl ?_
    refine z_iload_n 20 dX9_canBeDelayed_19 rfl rfl ?_
    refine z_iload_n 21 dX9_canBeDelayed_20 rfl rfl ?_
    refine z_cV2 24 dX9_canBeDelayed_21 rfl kX6_setDelay zw_503 (Nat.le_of_ble_eq_true rfl) ⟨Nat.le_refl _, Nat.le_refl _⟩ (by first | with_reducible assumption | with_reducible exact zup_same _ _ _) ?_
    refine w_setD8 hW (by omega) (fun h1' hW1 hF1 => ?_)
    refine z_iconst 25 dX9_canBeDelayed_24 rfl ?_
    refine z_ret dX9_canBeDelayed_25 (by first | exact True.intro | exact Or.inl rfl | exact Or.inr rfl | exact zb_01 _ | assumption | (show _ ∨ _; omega)) ⟨Nat.le_refl _, Nat.le_refl _⟩ ?_
    exact h1 c10 _ hW1 hF1
  · try replace c10 := zb_1 c10
    refine z_iconst 14 dX9_canBeDelayed_13 rfl ?_
    refine z_ret dX9_canBeDelayed_14 (by first | exact True.intro | exact Or.inl rfl | exact Or.inr rfl | exact zb_01 _ | assumption | (show _ ∨ _; omega)) ⟨Nat.le_refl _, Nat.le_refl _⟩ ?_
    exact h0 c10
set_option maxHeartbeats 1000000 in
theorem c_X9_canBe {k a b : Int} {X : zX} (hW : zCW h T (N, M, X.1, G, X.2.1, X.2.2) C l fi ct S fl Kp W Kt c sd O) (hO : zOK 9 N X.1 G X.2.1 X.2.2) (hM : 1 ≤ M ∧ M ≤ 3) (hk : 0 ≤ k ∧ k ≤ 9) (ha : 0 ≤ a ∧ a ≤ 9) (hb : 0 ≤ b ∧ b ≤ 9)
    (hQ : ∀ h' : zH, zCW h' T (N, M, (zcan N M G k a b X).2.1, G, (zcan N M G k a b X).2.2.1, (zcan N M G k a b X).2.2.2) C l fi ct S fl Kp W Kt c sd O → zMod 2 111 h h' → Q (some (vI (zb ((zcan N M G k a b X).1 = true)))) h') : zC (d + 5) mX9_canBe 0 0 [vR 2, vI k, vI a, vI b] h Q := by
  obtain ⟨D, E, P⟩ := X
  dsimp only at hW hO
  have hN := hO.1
  have fin : ∀ (r : Bool) (Y : zX), zcan N M G k a b (D, E, P) = (r, Y) → ∀ h' : zH, zCW h' T (N, M, Y.1, G, Y.2.1, Y.2.2) C l fi ct S fl Kp W Kt c sd O → zMod 2 111 h h' → Q (some (vI (zb (r = true)))) h' := by
    intro r Y e h' hW' hF
    have := hQ h'
    rw [e] at this
    exact this hW' hF
  have f1 : ∀ (Y : zX), zcan N M G k a b (D, E, P) = (true, Y) → ∀ h' : zH, zCW h' T (N, M, Y.1, G, Y.2.1, Y.2.2) C l fi ct S fl Kp W Kt c sd O → zMod 2 111 h h' → Q (some (vI 1)) h' := fun Y e => fin true Y e
  have f0 : zcan N M G k a b (D, E, P) = (false, (D, E, P)) → ∀ h' : zH, zCW h' T (N, M, D, G, E, P) C l fi ct S fl Kp W Kt c sd O → zMod 2 111 h h' → Q (some (vI 0)) h' := fun e => fin false (D, E, P) e
  have self := zMod.rf 2 111 h
  rcases (show k = 1 ∨ k = 2 ∨ k = 3 ∨ k = 4 ∨ k = 5 ∨ k = 6 ∨ k = 7 ∨ (k < 1 ∨ 7 < k) by omega) with rfl | rfl | rfl | rfl | rfl | rfl | rfl | hk
  · have e : zcan N M G 1 a b (D, E, P) = if zrfM N E P a b = 0 then (true, (D, zst E a b, (zgv (zbrn E P a N) N P N).2)) else (false, (D, E, P)) := rfl
    have zo2 := hW.ob
    refine zC.of zpl_X9 (Nat.le_of_ble_eq_true rfl) ?_
    refine z_iload_n 1 dX9_canBe_0 rfl rfl ?_
    · refine z_tableIn 44 dX9_canBe_1 (by omega) (by omega) (by omega) rfl (by decide) ?_
      refine z_aload_n 45 dX9_canBe_44 rfl rfl ?_
      refine z_iload_n 46 dX9_canBe_45 rfl rfl ?_
      refine z_iload_n 47 dX9_canBe_46 rfl rfl ?_
      refine z_cV2 50 dX9_canBe_47 rfl kX9_canBeMoved zw_645 (Nat.le_of_ble_eq_true rfl) ⟨Nat.le_refl _, Nat.le_refl _⟩ (by first | with_reducible assumption | with_reducible exact zup_same _ _ _) ?_
      refine c_X9_canBeMoved hW hO ha hb (fun q h' hW' hF => ?_) (fun q => ?_)
      · refine z_ret dX9_canBe_50 (Or.inr rfl) ⟨Nat.le_refl _, Nat.le_refl _⟩ ?_
        exact f1 _ (by rw [e, if_pos q]) _ hW' hF
      · refine z_ret dX9_canBe_50 (Or.inl rfl) ⟨Nat.le_refl _, Nat.le_refl _⟩ ?_
        exact f0 (by rw [e, if_neg q]) _ hW self
  · have e : zcan N M G 2 a b (D, E, P) = if a = 0 ∧ zrfC N E P b = 0 then (true, (D, E, zst (zst P b (P (b + 1))) (b + 1) (P b))) else (false, (D, E, P)) := rfl
    have zo2 := hW.ob
    refine zC.of zpl_X9 (Nat.le_of_ble_eq_true rfl) ?_
    refine z_iload_n 1 dX9_canBe_0 rfl rfl ?_
    · refine z_tableIn 51 dX9_canBe_1 (by omega) (by omega) (by omega) rfl (by decide) ?_
      refine z_iload_n 52 dX9_canBe_51 rfl rfl ?_
      refine z_if_ne 67 55 dX9_canBe_52 (by decide) rfl (by first | omega | exact zr_b _ | exact zr_and _ _ | exact zr_or _ _ | exact zr_shl _ _) (fun c52 => ?_) (fun c52 => ?_)
      · try replace c52 := zb_1 c52
        refine z_iconst 68 dX9_canBe_67 rfl ?_
        refine z_ret dX9_canBe_68 (by first | exact True.intro | exact Or.inl rfl | exact Or.inr rfl | exact zb_01 _ | assumption | (show _ ∨ _; omega)) ⟨Nat.le_refl _, Nat.le_refl _⟩ ?_
        exact f0 (by rw [e, if_neg (fun q => c52 q.1)]) _ hW self
      · try replace c52 := zb_0 c52
        refine z_aload_n 56 dX9_canBe_55 rfl rfl ?_
        refine z_iload_n 57 dX9_canBe_56 rfl rfl ?_
        refine z_cV1 60 dX9_canBe_57 rfl kX9_canBeChanged zw_649 (Nat.le_of_ble_eq_true rfl) ⟨Nat.le_refl _, Nat.le_refl _⟩ (by first | with_reducible assumption | with_reducible exact zup_same _ _ _) ?_
        refine c_X9_canBeChanged hW hO hb (fun q h' hW' hF => ?_) (fun q => ?_)
        · refine z_if_eq 67 63 dX9_canBe_60 (by decide) rfl (by omega) (fun c60 => ?_) (fun c60 => ?_)
          · exfalso; omega
          · refine z_iconst 64 dX9_canBe_63 rfl ?_
            refine z_goto 68 dX9_canBe_64 (by decide) ?_
            refine z_ret dX9_canBe_68 (Or.inr rfl) ⟨Nat.le_refl _, Nat.le_refl _⟩ ?_
            exact f1 _ (by rw [e, if_pos ⟨c52, q⟩]) _ hW' hF
        · refine z_if_eq 67 63 dX9_canBe_60 (by decide) rfl (by omega) (fun c60 => ?_) (fun c60 => ?_)
          · refine z_iconst 68 dX9_canBe_67 rfl ?_
            refine z_ret dX9_canBe_68 (Or.inl rfl) ⟨Nat.le_refl _, Nat.le_refl _⟩ ?_
            exact f0 (by rw [e, if_neg (fun w => q w.2)]) _ hW self
          · exact absurd rfl c60
  · have e : zcan N M G 3 a b (D, E, P) = if a = 0 ∧ b = 0 then (true, (D, (zQK D G E P N).1, (zQK D G E P N).2)) else (false, (D, E, P)) := rfl
    have zo2 := hW.ob
    have zo8 := hW.su.2.1
    obtain ⟨V, w, hY⟩ := hW.tl
    have zo16 := hY.2.1
    refine zC.of zpl_X9 (Nat.le_of_ble_eq_true rfl) ?_
    refine z_iload_n 1 dX9_canBe_0 rfl rfl ?_
    · refine z_tableIn 69 dX9_canBe_1 (by omega) (by omega) (by omega) rfl (by decide) ?_
      refine z_iload_n 70 dX9_canBe_69 rfl rfl ?_
      refine z_if_ne 77 73 dX9_canBe_70 (by decide) rfl (by first | omega | exact zr_b _ | exact zr_and _ _ | exact zr_or _ _ | exact zr_shl _ _) (fun c70 => ?_) (fun c70 => ?_)
      · try replace c70 := zb_1 c70
        refine z_iconst 78 dX9_canBe_77 rfl ?_
        refine z_ret dX9_canBe_78 (by first | exact True.intro | exact Or.inl rfl | exact Or.inr rfl | exact zb_01 _ | assumption | (show _ ∨ _; omega)) ⟨Nat.le_refl _, Nat.le_refl _⟩ ?_
        exact f0 (by rw [e, if_neg (by omega)]) _ hW self
      · try replace c70 := zb_0 c70
        refine z_iload_n 74 dX9_canBe_73 rfl rfl ?_
        refine z_if_eq 79 77 dX9_canBe_74 (by decide) rfl (by first | omega | exact zr_b _ | exact zr_and _ _ | exact zr_or _ _ | exact zr_shl _ _) (fun c74 => ?_) (fun c74 => ?_)
        · try replace c74 := zb_0 c74
          refine z_aload_n 80 dX9_canBe_79 rfl rfl ?_
          refine z_getf (ci := 9) 83 dX9_canBe_80 rfl rfl zin_9 3 (by decide) zw_227 (by first | with_reducible assumption | with_reducible exact zup_same _ _ _) rfl ?_
          refine z_aload_n 84 dX9_canBe_83 rfl rfl ?_
          refine z_getf (ci := 9) 87 dX9_canBe_84 rfl rfl zin_9 1 (by decide) zw_225 (by first | with_reducible assumption | with_reducible exact zup_same _ _ _) rfl ?_
          refine z_cV1 90 dX9_canBe_87 rfl kX5_layQuickPlan zw_417 (Nat.le_of_ble_eq_true rfl) ⟨Nat.le_refl _, Nat.le_refl _⟩ (by first | with_reducible assumption | with_reducible exact zup_same _ _ _) ?_
          refine w_quick8 hW hO (by omega) (fun h' hW' hF => ?_)
          refine z_iconst 91 dX9_canBe_90 rfl ?_
          refine z_ret dX9_canBe_91 (by first | exact True.intro | exact Or.inl rfl | exact Or.inr rfl | exact zb_01 _ | assumption | (show _ ∨ _; omega)) ⟨Nat.le_refl _, Nat.le_refl _⟩ ?_
          exact f1 _ (by rw [e, if_pos (by omega)]) _ hW' hF
        · try replace c74 := zb_1 c74
          refine z_iconst 78 dX9_canBe_77 rfl ?_
          refine z_ret dX9_canBe_78 (by first | exact True.intro | exact Or.inl rfl | exact Or.inr rfl | exact zb_01 _ | assumption | (show _ ∨ _; omega)) ⟨Nat.le_refl _, Nat.le_refl _⟩ ?_
          exact f0 (by rw [e, if_neg (by omega)]) _ hW self
  · have e : zcan N M G 4 a b (D, E, P) = if zrfS N a 0 b = 0 then (true, (zst D a b, E, P)) else (false, (D, E, P)) := rfl
    have zo2 := hW.ob
    refine zC.of zpl_X9 (Nat.le_of_ble_eq_true rfl) ?_
    refine z_iload_n 1 dX9_canBe_0 rfl rfl ?_
    · refine z_tableIn 92 dX9_canBe_1 (by omega) (by omega) (by omega) rfl (by decide) ?_
      refine z_aload_n 93 dX9_canBe_92 rfl rfl ?_
      refine z_iload_n 94 dX9_canBe_93 rfl rfl ?_
      refine z_iload_n 95 dX9_canBe_94 rfl rfl ?_
      refine z_cV2 98 dX9_canBe_95 rfl kX9_canBeDelayed zw_653 (Nat.le_of_ble_eq_true rfl) ⟨Nat.le_refl _, Nat.le_refl _⟩ (by first | with_reducible assumption | with_reducible exact zup_same _ _ _) ?_
      refine c_X9_canBeDelayed hW hN ha hb (fun q h' hW' hF => ?_) (fun q => ?_)
      · refine z_ret dX9_canBe_98 (Or.inr rfl) ⟨Nat.le_refl _, Nat.le_refl _⟩ ?_
        exact f1 _ (by rw [e, if_pos q]) _ hW' hF
      · refine z_ret dX9_canBe_98 (Or.inl rfl) ⟨Nat.le_refl _, Nat.le_refl _⟩ ?_
        exact f0 (by rw [e, if_neg q]) _ hW self
  · have e : zcan N M G 5 a b (D, E, P) = (decide (zLAST D G E P N M = 10 * a + b), (D, E, P)) := rfl
    have hl := zLAST_b hO (by omega) hM.2
    have zo2 := hW.ob
    have zo8 := hW.su.2.1
    obtain ⟨K, F, hX, hK0⟩ := hW.ti
    have zo13 := hX.2.1
    refine zC.of zpl_X9 (Nat.le_of_ble_eq_true rfl) ?_
    refine z_iload_n 1 dX9_canBe_0 rfl rfl ?_
    · refine z_tableIn 99 dX9_canBe_1 (by omega) (by omega) (by omega) rfl (by decide) ?_
      refine z_aload_n 100 dX9_canBe_99 rfl rfl ?_
      refine z_getf (ci := 9) 103 dX9_canBe_100 rfl rfl zin_9 2 (by decide) zw_226 (by first | with_reducible assumption | with_reducible exact zup_same _ _ _) rfl ?_
      refine z_aload_n 104 dX9_canBe_103 rfl rfl ?_
      refine z_getf (ci := 9) 107 dX9_canBe_104 rfl rfl zin_9 1 (by decide) zw_225 (by first | with_reducible assumption | with_reducible exact zup_same _ _ _) rfl ?_
      refine z_cV1 110 dX9_canBe_107 rfl kX8_follow zw_357 (Nat.le_of_ble_eq_true rfl) ⟨Nat.le_refl _, Nat.le_refl _⟩ (by first | with_reducible assumption | with_reducible exact zup_same _ _ _) ?_
      refine w_fol8 hW hO (by omega) hM.2 (fun h' K' F' hW' hX' hT' hF => ?_)
      refine z_bipush 112 dX9_canBe_110 rfl (by decide) ?_
      refine z_iload_n 113 dX9_canBe_112 rfl rfl ?_
      refine z_imul 114 dX9_canBe_113 rfl ?_
      refine z_iload_n 115 dX9_canBe_114 rfl rfl ?_
      refine z_iadd 116 dX9_canBe_115 rfl ?_
      refine z_icmp_ne 123 119 dX9_canBe_116 (by decide) rfl (by first | omega | exact zr_b _ | exact zr_and _ _ | exact zr_or _ _ | exact zr_shl _ _) (by first | omega | exact zr_b _ | exact zr_and _ _ | exact zr_or _ _ | exact zr_shl _ _) (fun c116 => ?_) (fun c116 => ?_)
      · refine z_iconst 124 dX9_canBe_123 rfl ?_
        refine z_ret dX9_canBe_124 (by first | exact True.intro | exact Or.inl rfl | exact Or.inr rfl | exact zb_01 _ | assumption | (show _ ∨ _; omega)) ⟨Nat.le_refl _, Nat.le_refl _⟩ ?_
        first | exact f1 _ (by rw [e, decide_eq_true c116]) _ hW' hF | exact f0 (by rw [e, decide_eq_false c116]) _ hW' hF
      · refine z_iconst 120 dX9_canBe_119 rfl ?_
        refine z_goto 124 dX9_canBe_120 (by decide) ?_
        refine z_ret dX9_canBe_124 (by first | exact True.intro | exact Or.inl rfl | exact Or.inr rfl | exact zb_01 _ | assumption | (show _ ∨ _; omega)) ⟨Nat.le_refl _, Nat.le_refl _⟩ ?_
        first | exact f1 _ (by rw [e, decide_eq_true c116]) _ hW' hF | exact f0 (by rw [e, decide_eq_false c116]) _ hW' hF
  · have e : zcan N M G 6 a b (D, E, P) = (decide ((0 ≤ a ∧ a < N + 1) ∧ zTK D G E P N M a 0 ≤ b), (D, E, P)) := rfl
    have zo2 := hW.ob
    have zo8 := hW.su.2.1
    obtain ⟨K, F, hX, hK0⟩ := hW.ti
    have zo13 := hX.2.1
    refine zC.of zpl_X9 (Nat.le_of_ble_eq_true rfl) ?_
    refine z_iload_n 1 dX9_canBe_0 rfl rfl ?_
    · refine z_tableIn 125 dX9_canBe_1 (by omega) (by omega) (by omega) rfl (by decide) ?_
      refine z_aload_n 126 dX9_canBe_125 rfl rfl ?_
      refine z_getf (ci := 9) 129 dX9_canBe_126 rfl rfl zin_9 2 (by decide) zw_226 (by first | with_reducible assumption | with_reducible exact zup_same _ _ _) rfl ?_
      refine z_aload_n 130 dX9_canBe_129 rfl rfl ?_
      refine z_getf (ci := 9) 133 dX9_canBe_130 rfl rfl zin_9 1 (by decide) zw_225 (by first | with_reducible assumption | with_reducible exact zup_same _ _ _) rfl ?_
      refine z_cV1 136 dX9_canBe_133 rfl kX8_follow zw_357 (Nat.le_of_ble_eq_true rfl) ⟨Nat.le_refl _, Nat.le_refl _⟩ (by first | with_reducible assumption | with_reducible exact zup_same _ _ _) ?_
      refine w_fol8 hW hO (by omega) hM.2 (fun h' K' F' hW' hX' hT' hF => ?_)
      have zo2 := hW'.ob
      have zo8 := hW'.su.2.1
      have zo13 := hX'.2.1
      refine z_pop 137 dX9_canBe_136 rfl ?_
      refine z_aload_n 138 dX9_canBe_137 rfl rfl ?_
      refine z_getf (ci := 9) 141 dX9_canBe_138 rfl rfl zin_9 1 (by decide) zw_225 (by first | with_reducible assumption | with_reducible exact zup_same _ _ _) rfl ?_
      refine z_iload_n 142 dX9_canBe_141 rfl rfl ?_
      refine z_cV1 145 dX9_canBe_142 rfl kX6_hasPerson zw_482 (Nat.le_of_ble_eq_true rfl) ⟨Nat.le_refl _, Nat.le_refl _⟩ (by first | with_reducible assumption | with_reducible exact zup_same _ _ _) ?_
      refine c_X6_hasPerson hW'.su (by omega) (by omega) ?_
      refine z_if_eq 165 148 dX9_canBe_145 (by decide) rfl (by first | omega | exact zr_b _ | exact zr_and _ _ | exact zr_or _ _ | exact zr_shl _ _) (fun c145 => ?_) (fun c145 => ?_)
      · try replace c145 := zb_0 c145
        refine z_iconst 166 dX9_canBe_165 rfl ?_
        refine z_ret dX9_canBe_166 (by first | exact True.intro | exact Or.inl rfl | exact Or.inr rfl | exact zb_01 _ | assumption | (show _ ∨ _; omega)) ⟨Nat.le_refl _, Nat.le_refl _⟩ ?_
        first | exact f1 _ (by rw [e, decide_eq_true (by omega)]) _ hW' hF | exact f0 (by rw [e, decide_eq_false (by omega)]) _ hW' hF
      · try replace c145 := zb_1 c145
        have hb2 := zTK_b hO (by omega) hM.2 (p := a) (k := 0) (by omega) (by omega) (by omega)
        refine z_aload_n 149 dX9_canBe_148 rfl rfl ?_
        refine z_getf (ci := 9) 152 dX9_canBe_149 rfl rfl zin_9 2 (by decide) zw_226 (by first | with_reducible assumption | with_reducible exact zup_same _ _ _) rfl ?_
        refine z_iload_n 153 dX9_canBe_152 rfl rfl ?_
        refine z_iconst 154 dX9_canBe_153 rfl ?_
        refine z_cV2 157 dX9_canBe_154 rfl kX8_tickOf zw_508 (Nat.le_of_ble_eq_true rfl) ⟨Nat.le_refl _, Nat.le_refl _⟩ (by first | with_reducible assumption | with_reducible exact zup_same _ _ _) ?_
        refine c_X8_tickOf hX' (by omega) ?_
        have e2 := hT' a 0 (by omega) (by omega) (by omega)
        rw [show ((0 : Nat) : Int) * 8 + a = 0 * 8 + a by omega] at e2
        rw [e2]
        refine z_iload_n 158 dX9_canBe_157 rfl rfl ?_
        refine z_icmp_gt 165 161 dX9_canBe_158 (by decide) rfl (by first | omega | exact zr_b _ | exact zr_and _ _ | exact zr_or _ _ | exact zr_shl _ _) (by first | omega | exact zr_b _ | exact zr_and _ _ | exact zr_or _ _ | exact zr_shl _ _) (fun c158 => ?_) (fun c158 => ?_)
        · refine z_iconst 166 dX9_canBe_165 rfl ?_
          refine z_ret dX9_canBe_166 (by first | exact True.intro | exact Or.inl rfl | exact Or.inr rfl | exact zb_01 _ | assumption | (show _ ∨ _; omega)) ⟨Nat.le_refl _, Nat.le_refl _⟩ ?_
          first | exact f1 _ (by rw [e, decide_eq_true (by omega)]) _ hW' hF | exact f0 (by rw [e, decide_eq_false (by omega)]) _ hW' hF
        · refine z_iconst 162 dX9_canBe_161 rfl ?_
          refine z_goto 166 dX9_canBe_162 (by decide) ?_
          refine z_ret dX9_canBe_166 (by first | exact True.intro | exact Or.inl rfl | exact Or.inr rfl | exact zb_01 _ | assumption | (show _ ∨ _; omega)) ⟨Nat.le_refl _, Nat.le_refl _⟩ ?_
          first | exact f1 _ (by rw [e, decide_eq_true (by omega)]) _ hW' hF | exact f0 (by rw [e, decide_eq_false (by omega)]) _ hW' hF
  · have e : zcan N M G 7 a b (D, E, P) = (decide ((0 ≤ a ∧ a < N + 1) ∧ zcnt E P a N = b), (D, E, P)) := rfl
    have hcb : ∀ i : Nat, 0 ≤ zcnt E P a i ∧ zcnt E P a i ≤ i := by
      intro i
      induction i with
      | zero => unfold zcnt; omega
      | succ i ih => unfold zcnt; have := zb_01 (E (P i) = a); omega
    have hcN := hcb N
    have zo2 := hW.ob
    have zo8 := hW.su.2.1
    refine zC.of zpl_X9 (Nat.le_of_ble_eq_true rfl) ?_
    refine z_iload_n 1 dX9_canBe_0 rfl rfl ?_
    · refine z_tableIn 167 dX9_canBe_1 (by omega) (by omega) (by omega) rfl (by decide) ?_
      refine z_aload_n 168 dX9_canBe_167 rfl rfl ?_
      refine z_getf (ci := 9) 171 dX9_canBe_168 rfl rfl zin_9 1 (by decide) zw_225 (by first | with_reducible assumption | with_reducible exact zup_same _ _ _) rfl ?_
      refine z_iload_n 172 dX9_canBe_171 rfl rfl ?_
      refine z_cV1 175 dX9_canBe_172 rfl kX6_hasPerson zw_482 (Nat.le_of_ble_eq_true rfl) ⟨Nat.le_refl _, Nat.le_refl _⟩ (by first | with_reducible assumption | with_reducible exact zup_same _ _ _) ?_
      refine c_X6_hasPerson hW.su (by omega) (by omega) ?_
      refine z_if_eq 194 178 dX9_canBe_175 (by decide) rfl (by first | omega | exact zr_b _ | exact zr_and _ _ | exact zr_or _ _ | exact zr_shl _ _) (fun c175 => ?_) (fun c175 => ?_)
      · try replace c175 := zb_0 c175
        refine z_iconst 195 dX9_canBe_194 rfl ?_
        refine z_ret dX9_canBe_195 (by first | exact True.intro | exact Or.inl rfl | exact Or.inr rfl | exact zb_01 _ | assumption | (show _ ∨ _; omega)) ⟨Nat.le_refl _, Nat.le_refl _⟩ ?_
        first | exact f1 _ (by rw [e, decide_eq_true (by omega)]) _ hW self | exact f0 (by rw [e, decide_eq_false (by omega)]) _ hW self
      · try replace c175 := zb_1 c175
        refine z_aload_n 179 dX9_canBe_178 rfl rfl ?_
        refine z_getf (ci := 9) 182 dX9_canBe_179 rfl rfl zin_9 1 (by decide) zw_225 (by first | with_reducible assumption | with_reducible exact zup_same _ _ _) rfl ?_
        refine z_iload_n 183 dX9_canBe_182 rfl rfl ?_
        refine z_cV1 186 dX9_canBe_183 rfl kX6_countToldBy zw_494 (Nat.le_of_ble_eq_true rfl) ⟨Nat.le_refl _, Nat.le_refl _⟩ (by first | with_reducible assumption | with_reducible exact zup_same _ _ _) ?_
        refine c_X6_countToldBy hW.su hN (by omega) hO.v8 ?_
        refine z_iload_n 187 dX9_canBe_186 rfl rfl ?_
        refine z_icmp_ne 194 190 dX9_canBe_187 (by decide) rfl (by first | omega | exact zr_b _ | exact zr_and _ _ | exact zr_or _ _ | exact zr_shl _ _) (by first | omega | exact zr_b _ | exact zr_and _ _ | exact zr_or _ _ | exact zr_shl _ _) (fun c187 => ?_) (fun c187 => ?_)
        · refine z_iconst 195 dX9_canBe_194 rfl ?_
          refine z_ret dX9_canBe_195 (by first | exact True.intro | exact Or.inl rfl | exact Or.inr rfl | exact zb_01 _ | assumption | (show _ ∨ _; omega)) ⟨Nat.le_refl _, Nat.le_refl _⟩ ?_
          first | exact f1 _ (by rw [e, decide_eq_true (by omega)]) _ hW self | exact f0 (by rw [e, decide_eq_false (by omega)]) _ hW self
        · refine z_iconst 191 dX9_canBe_190 rfl ?_
          refine z_goto 195 dX9_canBe_191 (by decide) ?_
          refine z_ret dX9_canBe_195 (by first | exact True.intro | exact Or.inl rfl | exact Or.inr rfl | exact zb_01 _ | assumption | (show _ ∨ _; omega)) ⟨Nat.le_refl _, Nat.le_refl _⟩ ?_
          first | exact f1 _ (by rw [e, decide_eq_true (by omega)]) _ hW self | exact f0 (by rw [e, decide_eq_false (by omega)]) _ hW self
  · have e : zcan N M G k a b (D, E, P) = (false, (D, E, P)) := by
      unfold zcan
      rw [if_neg (by omega), if_neg (by omega), if_neg (by omega), if_neg (by omega), if_neg (by omega), if_neg (by omega), if_neg (by omega)]
    refine zC.of zpl_X9 (Nat.le_of_ble_eq_true rfl) ?_
    refine z_iload_n 1 dX9_canBe_0 rfl rfl ?_
    · refine z_tableOut 196 dX9_canBe_1 (by omega) hk (by decide) ?_
      refine z_iconst 197 dX9_canBe_196 rfl ?_
      refine z_ret dX9_canBe_197 (by first | exact True.intro | exact Or.inl rfl | exact Or.inr rfl | exact zb_01 _ | assumption | (show _ ∨ _; omega)) ⟨Nat.le_refl _, Nat.le_refl _⟩ ?_
      exact f0 e _ hW self
theorem c_X9_readDoings {n : Nat} {row : Int} (hW : zCW h T U C l fi ct S fl Kp W Kt c sd O) (hn : 1 ≤ n ∧ n ≤ 4) (hr : 0 ≤ row ∧ row ≤ 9223372036854775807) (hQ : ∀ (h' : zH) (O' : Int → Int), zCW h' T U C l fi ct S fl Kp W Kt c sd O' → (∀ i : Nat, i < n → O' i = zrs row (n - 1 - i) % 1000) → zMod 2 111 h h' → Q (some (vI (zb (zrs row n = 0)))) h') : zC (d + 2) mX9_readDoings 0 0 [vR 2, vI n, vJ row] h Q := by
  have key : ∀ j : Nat, j ≤ n → ∀ h' : zH, zCW h' T U C l fi ct S fl Kp W Kt c sd (zdoi row n O j) → zMod 2 111 h h' → Z (d + 2) mX9_readDoings zo 8 [some (vR 2), some (vI n), some (vJ row), none, some (vJ (zrs row j)), none, some (vI ((n : Int) - 1 - j))] [] h' Q := by
    refine z_loop n ?_ ?_
    · intro h' hW' hF
      have hb := zrs_b hr n
      have k := hQ h' _ hW' (fun i hi => by
        have := zdoi_at (row := row) (n := n) (O := O) (Nat.le_refl n) (n - 1 - i) (by omega)
        rw [show (n : Int) - 1 - ((n - 1 - i : Nat) : Int) = i by omega] at this
        exact this) hF
      refine z_iload 10 dX9_readDoings_8 rfl rfl ?_
      refine z_if_lt 43 13 dX9_readDoings_10 (by decide) rfl (by first | omega | exact zr_b _ | exact zr_and _ _ | exact zr_or _ _ | exact zr_shl _ _) (fun c10 => ?_) (fun c10 => ?_)
      · refine z_lload 45 dX9_readDoings_43 rfl rfl ?_
        refine z_lconst 46 dX9_readDoings_45 rfl ?_
        refine z_lcmp 47 dX9_readDoings_46 rfl (by first | omega | exact zr_b _ | exact zr_and _ _ | exact zr_or _ _ | exact zr_shl _ _) (by first | omega | exact zr_b _ | exact zr_and _ _ | exact zr_or _ _ | exact zr_shl _ _) ?_
        refine z_if_ne 54 50 dX9_readDoings_47 (by decide) rfl (by unfold zcmp; split; omega; split <;> omega) (fun c47 => ?_) (fun c47 => ?_)
        · try replace c47 := zb_1 c47
          have q0 : ¬ zrs row n = 0 := fun q => c47 (by rw [q]; rfl)
          rw [zb_f q0] at k
          refine z_iconst 55 dX9_readDoings_54 rfl ?_
          refine z_ret dX9_readDoings_55 (by first | exact True.intro | exact Or.inl rfl | exact Or.inr rfl | exact zb_01 _ | assumption | (show _ ∨ _; omega)) ⟨Nat.le_refl _, Nat.le_refl _⟩ ?_
          exact k
        · try replace c47 := zb_0 c47
          have q0 : zrs row n = 0 := zcmp_0 c47
          rw [zb_t q0] at k
          refine z_iconst 51 dX9_readDoings_50 rfl ?_
          refine z_goto 55 dX9_readDoings_51 (by decide) ?_
          refine z_ret dX9_readDoings_55 (by first | exact True.intro | exact Or.inl rfl | exact Or.inr rfl | exact zb_01 _ | assumption | (show _ ∨ _; omega)) ⟨Nat.le_refl _, Nat.le_refl _⟩ ?_
          exact k
      · exfalso; omega
    · intro j hj ih h' hW' hF
      have hb := zrs_b hr j
      have zo2 := hW'.ob
      refine z_iload 10 dX9_readDoings_8 rfl rfl ?_
      refine z_if_lt 43 13 dX9_readDoings_10 (by decide) rfl (by first | omega | exact zr_b _ | exact zr_and _ _ | exact zr_or _ _ | exact zr_shl _ _) (fun c10 => ?_) (fun c10 => ?_)
      · exfalso; omega
      · refine z_aload_n 14 dX9_readDoings_13 rfl rfl ?_
        refine z_getf (ci := 9) 17 dX9_readDoings_14 rfl rfl zin_9 9 (by decide) zw_233 (by first | with_reducible assumption | with_reducible exact zup_same _ _ _) rfl ?_
        refine z_iload 19 dX9_readDoings_17 rfl rfl ?_
        refine z_lload 21 dX9_readDoings_19 rfl rfl ?_
        refine z_ldc2 (x := 1000) 24 dX9_readDoings_21 rfl zw_638 ?_
        refine z_lrem 25 dX9_readDoings_24 rfl (by omega) (by omega) ?_
        refine z_l2i 26 dX9_readDoings_25 rfl ?_
        refine z_cS3 29 dX9_readDoings_26 rfl kX9_put zw_639 (Nat.le_of_ble_eq_true rfl) ⟨Nat.le_refl _, Nat.le_refl _⟩ ?_
        rw [zl2i_small (by omega)]
        refine c_X9_put hW'.do_ (by decide) (by omega) (by omega) ?_
        have m1 : zMod 111 111 h' (zup h' 111 (zI 4 (zst (zdoi row n O j) ((n : Int) - 1 - j) (zrs row j % 1000)))) := (zMod.rf _ _ h').up _ (by omega)
        have W1 := hW'.do__set m1 (zup_same _ _ _)
        refine z_lload 31 dX9_readDoings_29 rfl rfl ?_
        refine z_ldc2 (x := 1000) 34 dX9_readDoings_31 rfl zw_638 ?_
        refine z_ldiv 35 dX9_readDoings_34 rfl (by first | omega | exact zr_b _ | exact zr_and _ _ | exact zr_or _ _ | exact zr_shl _ _) (by first | omega | exact zr_b _ | exact zr_and _ _ | exact zr_or _ _ | exact zr_shl _ _) ?_
        refine z_lstore 37 dX9_readDoings_35 rfl (by decide) ?_
        refine z_iinc 40 dX9_readDoings_37 rfl (by decide) rfl ?_
        refine z_goto 8 dX9_readDoings_40 (by decide) ?_
        have k := ih _ W1 (hF.tr (m1.wd (by omega)))
        rw [show (n : Int) - 1 - ((j + 1 : Nat) : Int) = (n : Int) - 1 - j + (-1) by omega] at k
        exact k
  refine zC.of zpl_X9 (Nat.le_of_ble_eq_true rfl) ?_
  refine z_lload_n 1 dX9_readDoings_0 rfl rfl ?_
  refine z_lstore 3 dX9_readDoings_1 rfl (by decide) ?_
  refine z_iload_n 4 dX9_readDoings_3 rfl rfl ?_
  refine z_iconst 5 dX9_readDoings_4 rfl ?_
  refine z_isub 6 dX9_readDoings_5 rfl ?_
  refine z_istore 8 dX9_readDoings_6 rfl (by decide) ?_
  have k := key 0 (Nat.zero_le _) h hW (zMod.rf _ _ _)
  rw [show (n : Int) - 1 - ((0 : Nat) : Int) = (n : Int) - 1 by omega] at k
  exact k
end JUDGE
