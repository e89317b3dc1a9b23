/-! THE MODEL: the last tick -/
section MLASTM
variable {B : Int} {N M : Nat} {D G E P : Int → Int}
theorem zlstk_ge {T : Int → Int} : ∀ {n i : Nat}, i < n → T i ≤ zlstk T n
  | 0, _, h => absurd h (by omega)
  | n + 1, i, h => by
    unfold zlstk
    by_cases e : i = n
    · subst e; omega
    · have := zlstk_ge (T := T) (n := n) (i := i) (by omega); omega
theorem zlstk_0 {T : Int → Int} : ∀ n : Nat, 0 ≤ zlstk T n
  | 0 => by unfold zlstk; omega
  | n + 1 => by have := zlstk_0 (T := T) n; unfold zlstk; omega
theorem zlstk_le {T : Int → Int} {b : Int} (hb : 0 ≤ b) : ∀ {n : Nat}, (∀ i : Nat, i < n → T i ≤ b) → zlstk T n ≤ b
  | 0, _ => by unfold zlstk; omega
  | n + 1, h => by
    have := zlstk_le hb (n := n) (fun i hi => h i (by omega))
    have := h n (by omega)
    unfold zlstk; omega
theorem zlstk_cg {T T' : Int → Int} : ∀ {n : Nat}, (∀ i : Nat, i < n → T i = T' i) → zlstk T n = zlstk T' n
  | 0, _ => rfl
  | n + 1, h => by unfold zlstk; rw [zlstk_cg (n := n) (fun i hi => h i (by omega)), h n (by omega)]
theorem zTK_in (h : zOK B N D G E P) {k : Nat} (hk : k < M) {i : Nat} (hi : i < N) : (zrow D G E P k (zall D G E P N (fun _ => 0) k) (i + 1)).1 (k * 8 + P i) = zTK D G E P N M (P i) k := by
  have h8 := h.v8 i hi
  rw [zTK_row h hk (by omega)]
  have b := zrow_k h k (zall D G E P N (fun _ => 0) k) (i := i) (N - (i + 1)) (by omega)
  rw [show i + 1 + (N - (i + 1)) = N by omega] at b
  exact b.symm
theorem zrow_mx (k : Nat) (S : zS) : ∀ i : Nat, S.2.2 ≤ (zrow D G E P k S i).2.2 ∧ (∀ j : Nat, j < i → (zrow D G E P k S (j + 1)).1 (k * 8 + P j) ≤ (zrow D G E P k S i).2.2) ∧ ∀ b : Int, S.2.2 ≤ b → (∀ j : Nat, j < i → (zrow D G E P k S (j + 1)).1 (k * 8 + P j) ≤ b) → (zrow D G E P k S i).2.2 ≤ b := by
  intro i
  induction i with
  | zero => exact ⟨Int.le_refl _, fun j hj => absurd hj (by omega), fun b hb _ => hb⟩
  | succ i ih =>
    obtain ⟨i1, i2, i3⟩ := ih
    have e2 : (zrow D G E P k S (i + 1)).2.2 = max (zrow D G E P k S i).2.2 (zbeg E k (P i) (zrow D G E P k S i) + D (E (P i))) := rfl
    have e1 : (zrow D G E P k S (i + 1)).1 (k * 8 + P i) = zbeg E k (P i) (zrow D G E P k S i) + D (E (P i)) := zst_same _ _ _
    refine ⟨by omega, fun j hj => ?_, fun b hb hj => ?_⟩
    · by_cases e : j = i
      · subst e; omega
      · have := i2 j (by omega); omega
    · have a := i3 b hb (fun j h1 => hj j (by omega))
      have c := hj i (by omega)
      omega
theorem zall_mx (h : zOK B N D G E P) : ∀ m : Nat, m ≤ M → (∀ i k : Nat, i < N → k < m → zTK D G E P N M (P i) k ≤ (zall D G E P N (fun _ => 0) m).2.2) ∧ 0 ≤ (zall D G E P N (fun _ => 0) m).2.2 ∧ ∀ b : Int, 0 ≤ b → (∀ i k : Nat, i < N → k < m → zTK D G E P N M (P i) k ≤ b) → (zall D G E P N (fun _ => 0) m).2.2 ≤ b := by
  intro m
  induction m with
  | zero => intro _; exact ⟨fun i k _ hk => absurd hk (by omega), Int.le_refl _, fun b hb _ => hb⟩
  | succ m ih =>
    intro hm
    obtain ⟨i1, i2, i3⟩ := ih (by omega)
    obtain ⟨j1, j2, j3⟩ := zrow_mx (D := D) (G := G) (E := E) (P := P) m (zall D G E P N (fun _ => 0) m) N
    refine ⟨fun i k hi hk => ?_, Int.le_trans i2 j1, fun b hb hx => ?_⟩
    · by_cases e : k = m
      · subst e
        have := j2 i hi
        rw [zTK_in (M := M) h (by omega) hi] at this
        exact this
      · exact Int.le_trans (i1 i k hi (by omega)) j1
    · refine j3 b (i3 b hb (fun i k hi hk => hx i k hi (by omega))) (fun i hi => ?_)
      rw [zTK_in (M := M) h (by omega) hi]
      exact hx i m hi (by omega)
/-- the last tick, by news and by person -/
theorem zLAST_eq (h : zOK B N D G E P) (hB : B ≤ 40) (hM : M ≤ 3) : zlstk (fun k => zlstk (fun p => zTK D G E P N M p k.toNat) (N + 1)) M = zLAST D G E P N M := by
  obtain ⟨a1, a2, a3⟩ := zall_mx h M (Nat.le_refl _)
  refine Int.le_antisymm ?_ ?_
  · refine zlstk_le a2 (fun k hk => zlstk_le a2 (fun p hp => ?_))
    rw [Int.toNat_natCast]
    by_cases e : p = 0
    · subst e
      have := zTK_0 h hB hk hM
      rw [show ((0 : Nat) : Int) = 0 from rfl, this]; exact a2
    · obtain ⟨i, hi, ei⟩ := h.surj p (by omega) (by omega)
      rw [← ei]
      exact a1 i k hi hk
  · refine a3 _ (zlstk_0 _) (fun i k hi hk => ?_)
    have hp := h.2.2.1 i hi
    have h1 := zlstk_ge (T := fun p => zTK D G E P N M p k) (n := N + 1) (i := (P i).toNat) (by omega)
    have h2 := zlstk_ge (T := fun k => zlstk (fun p => zTK D G E P N M p k.toNat) (N + 1)) (n := M) (i := k) hk
    try dsimp only at h1
    try dsimp only at h2
    rw [Int.toNat_of_nonneg (by omega)] at h1
    rw [Int.toNat_natCast] at h2
    exact Int.le_trans h1 h2
end MLASTM
section MLAST
variable {d : Nat} {h : zH} {Q : Option zV → zH → Prop} {s : zMS} {B : Int} {N M : Nat} {D G E P R TI : Int → Int} {a : Nat}
theorem c_X10_layTicks (hob : h.1 112 = some (zMO s)) (hn : s.n = ((N + 1 : Nat) : Int)) (hr : h.1 a = some (zI 33 R)) (ha : 2 ≤ a ∧ a ≠ 121) (hti : h.1 121 = some (zI 24 TI)) (hR : zRo N M D G E P R) (hO : zOK B N D G E P) (hB : B ≤ 40) (hM : M ≤ 3)
    (hQ : ∀ T' : Int → Int, (∀ (p : Int) (k : Nat), 0 ≤ p → p ≤ N → k < M → T' (3 * p + k) = zTK D G E P N M p k) → Q none (zup h 121 (zI 24 T'))) : zC (d + 1) mX10_layTicks 0 0 [vR 112, vR a] h Q := by
  have hN := hO.1
  have hob' : ∀ T' : Int → Int, (zup h 121 (zI 24 T')).1 112 = some (zMO s) := fun T' => by rw [zup_ne _ _ (by decide)]; exact hob
  have hr' : ∀ T' : Int → Int, (zup h 121 (zI 24 T')).1 a = some (zI 33 R) := fun T' => by rw [zup_ne _ _ ha.2]; exact hr
  have r3 := hR.2.2.2
  have lo : ∀ j : Nat, j ≤ N → ∀ T' : Int → Int, (∀ k : Nat, k < M → T' (3 * 0 + k) = zTK D G E P N M 0 k) → (∀ i : Nat, i < N → (E (P i) = 0 ∨ ∃ j' : Nat, j' < j ∧ E (P i) = P j') → ∀ k : Nat, k < M → T' (3 * P i + k) = zTK D G E P N M (P i) k) → Z (d + 1) mX10_layTicks zo 28 [some (vR 112), some (vR a), some (vI j)] [] (zup h 121 (zI 24 T')) Q := by
    refine z_loop N ?_ ?_
    · intro T' k1 k2
      have w112 := hob' T'
      refine z_iload_n 29 dX10_layTicks_28 rfl rfl ?_
      refine z_aload_n 30 dX10_layTicks_29 rfl rfl ?_
      refine z_getf (ci := 10) 33 dX10_layTicks_30 rfl rfl zin_10 2 (by decide) zw_766 (by first | with_reducible assumption | with_reducible exact zup_same _ _ _) rfl ?_
      rw [hn]
      refine z_iconst 34 dX10_layTicks_33 rfl ?_
      refine z_isub 35 dX10_layTicks_34 rfl ?_
      refine z_icmp_ge 55 38 dX10_layTicks_35 (by decide) rfl (by first | omega | exact zr_b _ | exact zr_and _ _ | exact zr_or _ _ | exact zr_shl _ _) (by first | omega | exact zr_b _ | exact zr_and _ _ | exact zr_or _ _ | exact zr_shl _ _) (fun c35 => ?_) (fun c35 => ?_)
      · refine z_vret dX10_layTicks_55 (by first | exact True.intro | exact Or.inl rfl | exact Or.inr rfl | exact zb_01 _ | assumption | (show _ ∨ _; omega)) ⟨Nat.le_refl _, Nat.le_refl _⟩ ?_
        refine hQ T' (fun p k p0 p1 hk => ?_)
        by_cases e : p = 0
        · rw [e]; exact k1 k hk
        · obtain ⟨i, hi, ei⟩ := hO.surj p (by omega) (by omega)
          rw [← ei]
          refine k2 i hi ?_ k hk
          rcases hO.2.2.2.2 i hi with q | ⟨j, hj, q⟩
          · exact Or.inl q
          · exact Or.inr ⟨j, by omega, q⟩
      · exfalso; omega
    · intro j hj ih T' k1 k2
      have w112 := hob' T'
      have wa := hr' T'
      have e25 := r3 j hj
      have hp := hO.2.2.1 j hj
      refine z_iload_n 29 dX10_layTicks_28 rfl rfl ?_
      refine z_aload_n 30 dX10_layTicks_29 rfl rfl ?_
      refine z_getf (ci := 10) 33 dX10_layTicks_30 rfl rfl zin_10 2 (by decide) zw_766 (by first | with_reducible assumption | with_reducible exact zup_same _ _ _) rfl ?_
      rw [hn]
      refine z_iconst 34 dX10_layTicks_33 rfl ?_
      refine z_isub 35 dX10_layTicks_34 rfl ?_
      refine z_icmp_ge 55 38 dX10_layTicks_35 (by decide) rfl (by first | omega | exact zr_b _ | exact zr_and _ _ | exact zr_or _ _ | exact zr_shl _ _) (by first | omega | exact zr_b _ | exact zr_and _ _ | exact zr_or _ _ | exact zr_shl _ _) (fun c35 => ?_) (fun c35 => ?_)
      · exfalso; omega
      · refine z_aload_n 39 dX10_layTicks_38 rfl rfl ?_
        refine z_aload_n 40 dX10_layTicks_39 rfl rfl ?_
        refine z_aload_n 41 dX10_layTicks_40 rfl rfl ?_
        refine z_bipush 43 dX10_layTicks_41 rfl (by decide) ?_
        refine z_iload_n 44 dX10_layTicks_43 rfl rfl ?_
        refine z_iadd 45 dX10_layTicks_44 rfl ?_
        refine z_iald 46 dX10_layTicks_45 rfl (by first | with_reducible assumption | with_reducible exact zup_same _ _ _) (by omega) (by first | omega | exact zr_b _ | exact zr_and _ _ | exact zr_or _ _ | exact zr_shl _ _) ?_
        rw [e25]
        refine z_cV2 49 dX10_layTicks_46 rfl kX10_layTold zw_895 (Nat.le_of_ble_eq_true rfl) ⟨Nat.le_refl _, Nat.le_refl _⟩ (by first | with_reducible assumption | with_reducible exact zup_same _ _ _) ?_
        refine c_X10_layTold (N := N) (M := M) w112 hn wa ha (zup_same _ _ _) hR hO hB hM (by omega) (fun k hk => k2 j hj ?_ k hk) (fun T2 q1 q2 => ?_)
        · rcases hO.2.2.2.2 j hj with q | ⟨j', hj', q⟩
          · exact Or.inl q
          · exact Or.inr ⟨j', by omega, q⟩
        rw [zup_zup]
        refine z_iinc 52 dX10_layTicks_49 rfl (by decide) rfl ?_
        refine z_goto 28 dX10_layTicks_52 (by decide) ?_
        refine ih T2 (fun k hk => ?_) (fun i hi hx k hk => ?_)
        · rw [q2 _ (fun i' k' h1 h2 h3 => by have := hO.2.2.1 i' h1; omega)]; exact k1 k hk
        · by_cases e : E (P i) = P j
          · exact q1 i k hi hk e
          · rw [q2 _ (fun i' k' h1 h2 h3 => ?_)]
            · refine k2 i hi ?_ k hk
              rcases hx with q | ⟨j', hj', q⟩
              · exact Or.inl q
              · refine Or.inr ⟨j', ?_, q⟩
                have : j' ≠ j := fun w => e (by rw [← w]; exact q)
                omega
            · intro w
              have := hO.2.2.2.1 i i' hi h1 (by omega)
              subst this
              exact e h3
  have fi : ∀ i : Nat, i ≤ 3 → ∀ T' : Int → Int, (∀ j : Nat, j < i → T' j = 0) → Z (d + 1) mX10_layTicks zo 2 [some (vR 112), some (vR a), some (vI i)] [] (zup h 121 (zI 24 T')) Q := by
    refine z_loop 3 ?_ ?_
    · intro T' k1
      have w112 := hob' T'
      have wa := hr' T'
      refine z_iload_n 3 dX10_layTicks_2 rfl rfl ?_
      refine z_iconst 4 dX10_layTicks_3 rfl ?_
      refine z_icmp_ge 20 7 dX10_layTicks_4 (by decide) rfl (by first | omega | exact zr_b _ | exact zr_and _ _ | exact zr_or _ _ | exact zr_shl _ _) (by first | omega | exact zr_b _ | exact zr_and _ _ | exact zr_or _ _ | exact zr_shl _ _) (fun c4 => ?_) (fun c4 => ?_)
      · refine z_aload_n 21 dX10_layTicks_20 rfl rfl ?_
        refine z_aload_n 22 dX10_layTicks_21 rfl rfl ?_
        refine z_iconst 23 dX10_layTicks_22 rfl ?_
        refine z_cV2 26 dX10_layTicks_23 rfl kX10_layTold zw_895 (Nat.le_of_ble_eq_true rfl) ⟨Nat.le_refl _, Nat.le_refl _⟩ (by first | with_reducible assumption | with_reducible exact zup_same _ _ _) ?_
        refine c_X10_layTold (N := N) (M := M) w112 hn wa ha (zup_same _ _ _) hR hO hB hM (by omega) (fun k hk => by rw [zTK_0 hO hB hk hM, show (3 * 0 + (k : Int)) = k by omega]; exact k1 k (by omega)) (fun T2 q1 q2 => ?_)
        rw [zup_zup]
        refine z_iconst 27 dX10_layTicks_26 rfl ?_
        refine z_istore_n 28 dX10_layTicks_27 rfl (by decide) ?_
        refine lo 0 (Nat.zero_le _) T2 (fun k hk => ?_) (fun i hi hx k hk => ?_)
        · rw [q2 _ (fun i' k' h1 h2 h3 => by have := hO.2.2.1 i' h1; omega), zTK_0 hO hB hk hM, show (3 * 0 + (k : Int)) = k by omega]; exact k1 k (by omega)
        · rcases hx with q | ⟨j', hj', q⟩
          · exact q1 i k hi hk q
          · exfalso; omega
      · exfalso; omega
    · intro i hi ih T' k1
      have w112 := hob' T'
      refine z_iload_n 3 dX10_layTicks_2 rfl rfl ?_
      refine z_iconst 4 dX10_layTicks_3 rfl ?_
      refine z_icmp_ge 20 7 dX10_layTicks_4 (by decide) rfl (by first | omega | exact zr_b _ | exact zr_and _ _ | exact zr_or _ _ | exact zr_shl _ _) (by first | omega | exact zr_b _ | exact zr_and _ _ | exact zr_or _ _ | exact zr_shl _ _) (fun c4 => ?_) (fun c4 => ?_)
      · exfalso; omega
      · refine z_aload_n 8 dX10_layTicks_7 rfl rfl ?_
        refine z_getf (ci := 10) 11 dX10_layTicks_8 rfl rfl zin_10 14 (by decide) zw_778 (by first | with_reducible assumption | with_reducible exact zup_same _ _ _) rfl ?_
        refine z_iload_n 12 dX10_layTicks_11 rfl rfl ?_
        refine z_iconst 13 dX10_layTicks_12 rfl ?_
        refine z_iast 14 dX10_layTicks_13 rfl (by omega) (by first | with_reducible assumption | with_reducible exact zup_same _ _ _) (by omega) (by first | omega | exact zr_b _ | exact zr_and _ _ | exact zr_or _ _ | exact zr_shl _ _) ?_
        refine z_iinc 17 dX10_layTicks_14 rfl (by decide) rfl ?_
        refine z_goto 2 dX10_layTicks_17 (by decide) ?_
        have k := ih (zst T' i 0) (fun j hj => by
          by_cases e : j = i
          · subst e; exact zst_same _ _ _
          · rw [zst_ne _ _ (by omega)]; exact k1 j (by omega))
        rw [← zup_zup h 121 (zI 24 T')] at k
        exact k
  refine zC.of zpl_X10 (Nat.le_of_ble_eq_true rfl) ?_
  refine z_iconst 1 dX10_layTicks_0 rfl ?_
  refine z_istore_n 2 dX10_layTicks_1 rfl (by decide) ?_
  have k := fi 0 (by omega) TI (fun j hj => by exfalso; omega)
  rw [zup_self h hti] at k
  exact k
theorem c_X10_lastOfNews {k : Nat} (hob : h.1 112 = some (zMO s)) (hn : s.n = ((N + 1 : Nat) : Int)) (hr : h.1 a = some (zI 33 R)) (ha : 2 ≤ a ∧ a ≠ 121) (hti : h.1 121 = some (zI 24 TI)) (hR : zRo N M D G E P R) (hO : zOK B N D G E P) (hB : B ≤ 40) (hM : M ≤ 3) (hk : k < M)
    (hQ : ∀ T' : Int → Int, (∀ (p : Int) (k : Nat), 0 ≤ p → p ≤ N → k < M → T' (3 * p + k) = zTK D G E P N M p k) → Q (some (vI (zlstk (fun p => zTK D G E P N M p k) (N + 1)))) (zup h 121 (zI 24 T'))) : zC (d + 2) mX10_lastOfNews 0 0 [vR 112, vR a, vI k] h Q := by
  have hN := hO.1
  have e1 : zlstk (fun p => zTK D G E P N M p k) 1 = 0 := by
    show max 0 (zTK D G E P N M 0 k) = 0
    rw [zTK_0 hO hB hk hM]; rfl
  have key : ∀ T' : Int → Int, (∀ (p : Int) (k : Nat), 0 ≤ p → p ≤ N → k < M → T' (3 * p + k) = zTK D G E P N M p k) → ∀ i : Nat, i ≤ N + 1 → Z (d + 2) mX10_lastOfNews zo 10 [some (vR 112), some (vR a), some (vI k), some (vI (zlstk (fun p => zTK D G E P N M p k) i)), some (vI i)] [] (zup h 121 (zI 24 T')) Q := by
    intro T' hT
    have w112 : (zup h 121 (zI 24 T')).1 112 = some (zMO s) := by rw [zup_ne _ _ (by decide)]; exact hob
    refine z_loop (N + 1) ?_ ?_
    · refine z_iload 12 dX10_lastOfNews_10 rfl rfl ?_
      refine z_aload_n 13 dX10_lastOfNews_12 rfl rfl ?_
      refine z_getf (ci := 10) 16 dX10_lastOfNews_13 rfl rfl zin_10 2 (by decide) zw_766 (by first | with_reducible assumption | with_reducible exact zup_same _ _ _) rfl ?_
      rw [hn]
      refine z_icmp_ge 56 19 dX10_lastOfNews_16 (by decide) rfl (by first | omega | exact zr_b _ | exact zr_and _ _ | exact zr_or _ _ | exact zr_shl _ _) (by first | omega | exact zr_b _ | exact zr_and _ _ | exact zr_or _ _ | exact zr_shl _ _) (fun c16 => ?_) (fun c16 => ?_)
      · refine z_iload_n 57 dX10_lastOfNews_56 rfl rfl ?_
        refine z_ret dX10_lastOfNews_57 (by first | exact True.intro | exact Or.inl rfl | exact Or.inr rfl | exact zb_01 _ | assumption | (show _ ∨ _; omega)) ⟨Nat.le_refl _, Nat.le_refl _⟩ ?_
        exact hQ T' hT
      · exfalso; omega
    · intro i hi ih
      have eT := hT i k (by omega) (by omega) hk
      have b2 := zTK_b hO hB hM (p := i) (k := k) (by omega) (by omega) hk
      have b1 := zlstk_b (T := fun p => zTK D G E P N M p k) (b := 840) (by omega) (n := i) (fun j hj => zTK_b hO hB hM (p := j) (k := k) (by omega) (by omega) hk)
      refine z_iload 12 dX10_lastOfNews_10 rfl rfl ?_
      refine z_aload_n 13 dX10_lastOfNews_12 rfl rfl ?_
      refine z_getf (ci := 10) 16 dX10_lastOfNews_13 rfl rfl zin_10 2 (by decide) zw_766 (by first | with_reducible assumption | with_reducible exact zup_same _ _ _) rfl ?_
      rw [hn]
      refine z_icmp_ge 56 19 dX10_lastOfNews_16 (by decide) rfl (by first | omega | exact zr_b _ | exact zr_and _ _ | exact zr_or _ _ | exact zr_shl _ _) (by first | omega | exact zr_b _ | exact zr_and _ _ | exact zr_or _ _ | exact zr_shl _ _) (fun c16 => ?_) (fun c16 => ?_)
      · exfalso; omega
      · refine z_aload_n 20 dX10_lastOfNews_19 rfl rfl ?_
        refine z_getf (ci := 10) 23 dX10_lastOfNews_20 rfl rfl zin_10 14 (by decide) zw_778 (by first | with_reducible assumption | with_reducible exact zup_same _ _ _) rfl ?_
        refine z_iconst 24 dX10_lastOfNews_23 rfl ?_
        refine z_iload 26 dX10_lastOfNews_24 rfl rfl ?_
        refine z_imul 27 dX10_lastOfNews_26 rfl ?_
        refine z_iload_n 28 dX10_lastOfNews_27 rfl rfl ?_
        refine z_iadd 29 dX10_lastOfNews_28 rfl ?_
        refine z_iald 30 dX10_lastOfNews_29 rfl (by first | with_reducible assumption | with_reducible exact zup_same _ _ _) (by omega) (by first | omega | exact zr_b _ | exact zr_and _ _ | exact zr_or _ _ | exact zr_shl _ _) ?_
        rw [eT]
        refine z_iload_n 31 dX10_lastOfNews_30 rfl rfl ?_
        refine z_icmp_le 48 34 dX10_lastOfNews_31 (by decide) rfl (by first | omega | exact zr_b _ | exact zr_and _ _ | exact zr_or _ _ | exact zr_shl _ _) (by first | omega | exact zr_b _ | exact zr_and _ _ | exact zr_or _ _ | exact zr_shl _ _) (fun c31 => ?_) (fun c31 => ?_)
        · refine z_iload_n 49 dX10_lastOfNews_48 rfl rfl ?_
          refine z_istore_n 50 dX10_lastOfNews_49 rfl (by decide) ?_
          refine z_iinc 53 dX10_lastOfNews_50 rfl (by decide) rfl ?_
          refine z_goto 10 dX10_lastOfNews_53 (by decide) ?_
          have e : zlstk (fun p => zTK D G E P N M p k) (i + 1) = max (zlstk (fun p => zTK D G E P N M p k) i) (zTK D G E P N M i k) := rfl
          first | (rw [show zlstk (fun p => zTK D G E P N M p k) (i + 1) = zTK D G E P N M i k by omega] at ih; exact ih) | (rw [show zlstk (fun p => zTK D G E P N M p k) (i + 1) = zlstk (fun p => zTK D G E P N M p k) i by omega] at ih; exact ih)
        · refine z_aload_n 35 dX10_lastOfNews_34 rfl rfl ?_
          refine z_getf (ci := 10) 38 dX10_lastOfNews_35 rfl rfl zin_10 14 (by decide) zw_778 (by first | with_reducible assumption | with_reducible exact zup_same _ _ _) rfl ?_
          refine z_iconst 39 dX10_lastOfNews_38 rfl ?_
          refine z_iload 41 dX10_lastOfNews_39 rfl rfl ?_
          refine z_imul 42 dX10_lastOfNews_41 rfl ?_
          refine z_iload_n 43 dX10_lastOfNews_42 rfl rfl ?_
          refine z_iadd 44 dX10_lastOfNews_43 rfl ?_
          refine z_iald 45 dX10_lastOfNews_44 rfl (by first | with_reducible assumption | with_reducible exact zup_same _ _ _) (by omega) (by first | omega | exact zr_b _ | exact zr_and _ _ | exact zr_or _ _ | exact zr_shl _ _) ?_
          rw [eT]
          refine z_goto 49 dX10_lastOfNews_45 (by decide) ?_
          refine z_istore_n 50 dX10_lastOfNews_49 rfl (by decide) ?_
          refine z_iinc 53 dX10_lastOfNews_50 rfl (by decide) rfl ?_
          refine z_goto 10 dX10_lastOfNews_53 (by decide) ?_
          have e : zlstk (fun p => zTK D G E P N M p k) (i + 1) = max (zlstk (fun p => zTK D G E P N M p k) i) (zTK D G E P N M i k) := rfl
          first | (rw [show zlstk (fun p => zTK D G E P N M p k) (i + 1) = zTK D G E P N M i k by omega] at ih; exact ih) | (rw [show zlstk (fun p => zTK D G E P N M p k) (i + 1) = zlstk (fun p => zTK D G E P N M p k) i by omega] at ih; exact ih)
  refine zC.of zpl_X10 (Nat.le_of_ble_eq_true rfl) ?_
  refine z_aload_n 1 dX10_lastOfNews_0 rfl rfl ?_
  refine z_aload_n 2 dX10_lastOfNews_1 rfl rfl ?_
  refine z_cV1 5 dX10_lastOfNews_2 rfl kX10_layTicks zw_891 (Nat.le_of_ble_eq_true rfl) ⟨Nat.le_refl _, Nat.le_refl _⟩ (by first | with_reducible assumption | with_reducible exact zup_same _ _ _) ?_
  refine c_X10_layTicks hob hn hr ha hti hR hO hB hM (fun T' hT => ?_)
  refine z_iconst 6 dX10_lastOfNews_5 rfl ?_
  refine z_istore_n 7 dX10_lastOfNews_6 rfl (by decide) ?_
  refine z_iconst 8 dX10_lastOfNews_7 rfl ?_
  refine z_istore 10 dX10_lastOfNews_8 rfl (by decide) ?_
  have k := key T' hT 1 (by omega)
  rw [e1] at k
  exact k
theorem c_X10_lastOf (hob : h.1 112 = some (zMO s)) (hn : s.n = ((N + 1 : Nat) : Int)) (hr : h.1 a = some (zI 33 R)) (ha : 2 ≤ a ∧ a ≠ 121) (hti : h.1 121 = some (zI 24 TI)) (hR : zRo N M D G E P R) (hO : zOK B N D G E P) (hB : B ≤ 40) (hM : M ≤ 3)
    (hQ : ∀ T' : Int → Int, Q (some (vI (zLAST D G E P N M))) (zup h 121 (zI 24 T'))) : zC (d + 3) mX10_lastOf 0 0 [vR 112, vR a] h Q := by
  have hN := hO.1
  have r0 := hR.1
  have key : ∀ k : Nat, k ≤ M → ∀ (T' : Int → Int) (o4 : Option zV), Z (d + 3) mX10_lastOf zo 4 [some (vR 112), some (vR a), some (vI (zlstk (fun k => zlstk (fun p => zTK D G E P N M p k.toNat) (N + 1)) k)), some (vI k), o4] [] (zup h 121 (zI 24 T')) Q := by
    refine z_loop M ?_ ?_
    · intro T' o4
      have wa : (zup h 121 (zI 24 T')).1 a = some (zI 33 R) := by rw [zup_ne _ _ ha.2]; exact hr
      refine z_iload_n 5 dX10_lastOf_4 rfl rfl ?_
      refine z_aload_n 6 dX10_lastOf_5 rfl rfl ?_
      refine z_iconst 7 dX10_lastOf_6 rfl ?_
      refine z_iald 8 dX10_lastOf_7 rfl (by first | with_reducible assumption | with_reducible exact zup_same _ _ _) (by omega) (by first | omega | exact zr_b _ | exact zr_and _ _ | exact zr_or _ _ | exact zr_shl _ _) ?_
      rw [r0]
      refine z_icmp_ge 38 11 dX10_lastOf_8 (by decide) rfl (by first | omega | exact zr_b _ | exact zr_and _ _ | exact zr_or _ _ | exact zr_shl _ _) (by first | omega | exact zr_b _ | exact zr_and _ _ | exact zr_or _ _ | exact zr_shl _ _) (fun c8 => ?_) (fun c8 => ?_)
      · refine z_iload_n 39 dX10_lastOf_38 rfl rfl ?_
        refine z_ret dX10_lastOf_39 (by first | exact True.intro | exact Or.inl rfl | exact Or.inr rfl | exact zb_01 _ | assumption | (show _ ∨ _; omega)) ⟨Nat.le_refl _, Nat.le_refl _⟩ ?_
        rw [zLAST_eq hO hB hM]; exact hQ T'
      · exfalso; omega
    · intro k hk ih T' o4
      have wa : (zup h 121 (zI 24 T')).1 a = some (zI 33 R) := by rw [zup_ne _ _ ha.2]; exact hr
      have w112 : (zup h 121 (zI 24 T')).1 112 = some (zMO s) := by rw [zup_ne _ _ (by decide)]; exact hob
      have bb : ∀ k : Nat, k < M → 0 ≤ zlstk (fun p => zTK D G E P N M p k) (N + 1) ∧ zlstk (fun p => zTK D G E P N M p k) (N + 1) ≤ 840 := fun k hk => zlstk_b (by omega) (fun j hj => zTK_b hO hB hM (p := j) (k := k) (by omega) (by omega) hk)
      have b1 := bb k hk
      have b2 := zlstk_b (T := fun k => zlstk (fun p => zTK D G E P N M p k.toNat) (N + 1)) (b := 840) (by omega) (n := k) (fun j hj => bb j (by omega))
      have e : zlstk (fun k => zlstk (fun p => zTK D G E P N M p k.toNat) (N + 1)) (k + 1) = max (zlstk (fun k => zlstk (fun p => zTK D G E P N M p k.toNat) (N + 1)) k) (zlstk (fun p => zTK D G E P N M p k) (N + 1)) := rfl
      refine z_iload_n 5 dX10_lastOf_4 rfl rfl ?_
      refine z_aload_n 6 dX10_lastOf_5 rfl rfl ?_
      refine z_iconst 7 dX10_lastOf_6 rfl ?_
      refine z_iald 8 dX10_lastOf_7 rfl (by first | with_reducible assumption | with_reducible exact zup_same _ _ _) (by omega) (by first | omega | exact zr_b _ | exact zr_and _ _ | exact zr_or _ _ | exact zr_shl _ _) ?_
      rw [r0]
      refine z_icmp_ge 38 11 dX10_lastOf_8 (by decide) rfl (by first | omega | exact zr_b _ | exact zr_and _ _ | exact zr_or _ _ | exact zr_shl _ _) (by first | omega | exact zr_b _ | exact zr_and _ _ | exact zr_or _ _ | exact zr_shl _ _) (fun c8 => ?_) (fun c8 => ?_)
      · exfalso; omega
      · refine z_aload_n 12 dX10_lastOf_11 rfl rfl ?_
        refine z_aload_n 13 dX10_lastOf_12 rfl rfl ?_
        refine z_iload_n 14 dX10_lastOf_13 rfl rfl ?_
        refine z_cV2 17 dX10_lastOf_14 rfl kX10_lastOfNews zw_887 (Nat.le_of_ble_eq_true rfl) ⟨Nat.le_refl _, Nat.le_refl _⟩ (by first | with_reducible assumption | with_reducible exact zup_same _ _ _) ?_
        refine c_X10_lastOfNews w112 hn wa ha (zup_same _ _ _) hR hO hB hM hk (fun T2 hT => ?_)
        rw [zup_zup]
        refine z_istore 19 dX10_lastOf_17 rfl (by decide) ?_
        refine z_iload 21 dX10_lastOf_19 rfl rfl ?_
        refine z_iload_n 22 dX10_lastOf_21 rfl rfl ?_
        refine z_icmp_le 30 25 dX10_lastOf_22 (by decide) rfl (by first | omega | exact zr_b _ | exact zr_and _ _ | exact zr_or _ _ | exact zr_shl _ _) (by first | omega | exact zr_b _ | exact zr_and _ _ | exact zr_or _ _ | exact zr_shl _ _) (fun c22 => ?_) (fun c22 => ?_)
        · refine z_iload_n 31 dX10_lastOf_30 rfl rfl ?_
          refine z_istore_n 32 dX10_lastOf_31 rfl (by decide) ?_
          refine z_iinc 35 dX10_lastOf_32 rfl (by decide) rfl ?_
          refine z_goto 4 dX10_lastOf_35 (by decide) ?_
          have ih := ih T2 (some (vI (zlstk (fun p => zTK D G E P N M p k) (N + 1))))
          first | (rw [show zlstk (fun k => zlstk (fun p => zTK D G E P N M p k.toNat) (N + 1)) (k + 1) = zlstk (fun p => zTK D G E P N M p k) (N + 1) by omega] at ih; exact ih) | (rw [show zlstk (fun k => zlstk (fun p => zTK D G E P N M p k.toNat) (N + 1)) (k + 1) = zlstk (fun k => zlstk (fun p => zTK D G E P N M p k.toNat) (N + 1)) k by omega] at ih; exact ih)
        · refine z_iload 27 dX10_lastOf_25 rfl rfl ?_
          refine z_goto 31 dX10_lastOf_27 (by decide) ?_
          refine z_istore_n 32 dX10_lastOf_31 rfl (by decide) ?_
          refine z_iinc 35 dX10_lastOf_32 rfl (by decide) rfl ?_
          refine z_goto 4 dX10_lastOf_35 (by decide) ?_
          have ih := ih T2 (some (vI (zlstk (fun p => zTK D G E P N M p k) (N + 1))))
          first | (rw [show zlstk (fun k => zlstk (fun p => zTK D G E P N M p k.toNat) (N + 1)) (k + 1) = zlstk (fun p => zTK D G E P N M p k) (N + 1) by omega] at ih; exact ih) | (rw [show zlstk (fun k => zlstk (fun p => zTK D G E P N M p k.toNat) (N + 1)) (k + 1) = zlstk (fun k => zlstk (fun p => zTK D G E P N M p k.toNat) (N + 1)) k by omega] at ih; exact ih)
  refine zC.of zpl_X10 (Nat.le_of_ble_eq_true rfl) ?_
  refine z_iconst 1 dX10_lastOf_0 rfl ?_
  refine z_istore_n 2 dX10_lastOf_1 rfl (by decide) ?_
  refine z_iconst 3 dX10_lastOf_2 rfl ?_
  refine z_istore_n 4 dX10_lastOf_3 rfl (by decide) ?_
  have k := key 0 (Nat.zero_le _) TI none
  rw [zup_self h hti] at k
  exact k
end MLAST
