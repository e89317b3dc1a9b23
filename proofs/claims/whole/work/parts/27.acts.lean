/-! LateLetters: acts, slots -/
section PERM
variable {B : Int} {N : Nat} {D G E P : Int → Int}
theorem zperm_ok {E' P' : Int → Int} (hO : zOK B N D G E P) (f : Nat → Nat) (hf : ∀ i : Nat, i < N → f i < N ∧ P' (f i) = P i) (ht : ∀ i : Nat, i < N → E' (P i) = 0 ∨ ∃ j : Nat, j < N ∧ f j < f i ∧ E' (P i) = P j) : zOK B N D G E' P' := by
  have hinj : ∀ i j : Nat, i < N → j < N → f i = f j → i = j := fun i j hi hj e => hO.2.2.2.1 i j hi hj (by rw [← (hf i hi).2, ← (hf j hj).2, e])
  have hsur : ∀ k : Nat, k < N → ∃ i : Nat, i < N ∧ f i = k := by
    intro k hk
    obtain ⟨i, hi, e⟩ := z_pigeon N (fun i => (f i : Int) + 1) (fun i hi => by have := (hf i hi).1; omega) (fun i j hi hj e => hinj i j hi hj (by (try dsimp only at e); omega)) ((k : Int) + 1) (by omega) (by omega)
    exact ⟨i, hi, by (try dsimp only at e); omega⟩
  refine ⟨hO.1, hO.2.1, fun k hk => ?_, fun k k' hk hk' e => ?_, fun k hk => ?_⟩
  · obtain ⟨i, hi, e⟩ := hsur k hk
    rw [← e, (hf i hi).2]; exact hO.2.2.1 i hi
  · obtain ⟨i, hi, e1⟩ := hsur k hk
    obtain ⟨i', hi', e2⟩ := hsur k' hk'
    rw [← e1, ← e2, (hf i hi).2, (hf i' hi').2] at e
    rw [← e1, ← e2, hO.2.2.2.1 i i' hi hi' e]
  · obtain ⟨i, hi, e1⟩ := hsur k hk
    rw [← e1, (hf i hi).2]
    rcases ht i hi with e | ⟨j, hj, hlt, e⟩
    · exact Or.inl e
    · exact Or.inr ⟨f j, hlt, by rw [(hf j hj).2]; exact e⟩
theorem zmove_ok (hO : zOK B N D G E P) {p t : Int} (hp : 1 ≤ p ∧ p ≤ N) (ht : 0 ≤ t ∧ t ≤ N) (hnb : zkb (zbrn E P p N) t = false) : zOK B N D G (zst E p t) (zgv (zbrn E P p N) N P N).2 := by
  have hN := hO.1
  obtain ⟨b1, b2, b3⟩ := zbrn_i hO hp N (Nat.le_refl _)
  obtain ⟨f, f1, f2, f3⟩ := zprt_pos (zbrn E P p N) P N
  have hP : ∀ i : Nat, i < N → 0 ≤ P i ∧ P i < 32 := fun i hi => by have := hO.2.2.1 i hi; omega
  refine zperm_ok hO f (fun i hi => ⟨(f1 i hi).1, ?_⟩) (fun i hi => ?_)
  · have h1 := (f1 i hi).2
    rw [zgv_prt hP (f1 i hi).1] at h1
    exact Option.some.inj h1
  · by_cases e : P i = p
    · rw [e, zst_same]
      by_cases e0 : t = 0
      · exact Or.inl e0
      · obtain ⟨j, hj, ej⟩ := hO.surj t (by omega) ht.2
        exact Or.inr ⟨j, hj, f3 i j hi hj (by rw [e]; exact b1) (by rw [ej]; exact hnb), ej.symm⟩
    · rw [zst_ne _ _ e]
      rcases hO.2.2.2.2 i hi with q | ⟨j, hj, q⟩
      · exact Or.inl q
      · refine Or.inr ⟨j, by omega, f2 i j hi hj ?_, q⟩
        have := b3 i hi
        rw [q] at this
        rw [Bool.eq_iff_iff, this]
        constructor
        · rintro (a | a)
          · exact absurd a e
          · exact a
        · exact Or.inr
theorem zchange_ok (hO : zOK B N D G E P) {i : Nat} (hi : i + 1 < N) (hne : E (P (i + 1)) ≠ P i) : zOK B N D G E (zst (zst P i (P (i + 1))) (i + 1) (P i)) := by
  refine zperm_ok hO (fun j => if j = i then i + 1 else if j = i + 1 then i else j) (fun j hj => ?_) (fun j hj => ?_)
  · try dsimp only
    by_cases e1 : j = i
    · subst e1
      rw [if_pos rfl]
      refine ⟨hi, ?_⟩
      rw [show (((j + 1 : Nat)) : Int) = (j : Int) + 1 by omega, zst_same]
    · rw [if_neg e1]
      by_cases e2 : j = i + 1
      · rw [if_pos e2]
        refine ⟨by omega, ?_⟩
        rw [zst_ne _ _ (by omega), zst_same, e2]
        congr 1
      · rw [if_neg e2]
        refine ⟨hj, ?_⟩
        rw [zst_ne _ _ (by omega), zst_ne _ _ (by omega)]
  · rcases hO.2.2.2.2 j hj with q | ⟨k, hk, q⟩
    · exact Or.inl q
    · refine Or.inr ⟨k, by omega, ?_, q⟩
      try dsimp only
      by_cases e1 : j = i
      · subst e1
        rw [if_pos rfl, if_neg (by omega), if_neg (by omega)]; omega
      · rw [if_neg e1]
        by_cases e2 : j = i + 1
        · subst e2
          have hki : k ≠ i := fun e => hne (by rw [show ((i : Int) + 1) = ((i + 1 : Nat) : Int) by omega, q, e])
          rw [if_pos rfl, if_neg hki, if_neg (by omega)]; omega
        · rw [if_neg e2]
          by_cases e3 : k = i
          · rw [if_pos e3]; omega
          · rw [if_neg e3]
            by_cases e4 : k = i + 1
            · rw [if_pos e4]; omega
            · rw [if_neg e4]; exact hk
end PERM
def zrfM (N : Nat) (E P : Int → Int) (p t : Int) : Int := if p = 0 ∨ ¬ (0 ≤ p ∧ p < N + 1) ∨ ¬ (0 ≤ t ∧ t < N + 1) then -1 else if t = E p ∨ zkb (zbrn E P p N) t = true then -3 else 0
def zrfC (N : Nat) (E P : Int → Int) (i : Int) : Int := if ¬ (0 ≤ i ∧ i + 1 < N) then -1 else if E (P (i + 1)) = P i then -3 else 0
def zrfS (N : Nat) (p w v : Int) : Int := if ¬ (0 ≤ p ∧ p < N + 1) then -1 else if w < 0 ∨ 2 < w ∨ (w = 2 ∧ p ≠ 0) then -2 else if v < 1 ∨ (if w = 0 then 9 else if w = 1 then 5 else 3) < v then -2 else 0
/-- the ring of acts: first, count ahead of the new one, its place -/
def zfi (fi ct : Int) : Int := if ct = 14 then (fi + 1) % 14 else fi
def zcm (ct : Int) : Int := if ct = 14 then 13 else ct
def zjj (fi ct : Int) : Nat := ((zfi fi ct + zcm ct) % 14).toNat
section ACTS
variable {d : Nat} {h : zH} {Q : Option zV → zH → Prop} {N M : Nat} {D G E P : Int → Int} {T U : zTD} {C : Int → Int} {l fi ct : Int} {S : Nat → zTD} {fl : Int} {Kp : Nat → zTD} {W Kt : Int → Int} {c sd : Int} {O : Int → Int}
theorem c_X9_refusalOfMove {B : Int} {a : Nat} {p t : Int} (hT : zTel h a ((N + 1 : Nat) : Int) M N D G E P) (hO : zOK B N D G E P) (hp : -2147483648 ≤ p ∧ p ≤ 2147483647) (ht : -2147483648 ≤ t ∧ t ≤ 2147483647) (hQ : Q (some (vI (zrfM N E P p t))) h) : zC (d + 3) mX9_refusalOfMove 0 0 [vR a, vI p, vI t] h Q := by
  have hN := hO.1
  have zo := hT.2.1
  refine zC.of zpl_X9 (Nat.le_of_ble_eq_true rfl) ?_
  refine z_iload_n 1 dX9_refusalOfMove_0 rfl rfl ?_
  refine z_if_eq 20 4 dX9_refusalOfMove_1 (by decide) rfl (by first | omega | exact zr_b _ | exact zr_and _ _ | exact zr_or _ _ | exact zr_shl _ _) (fun c1 => ?_) (fun c1 => ?_)
  · try replace c1 := zb_0 c1
    refine z_iconst 21 dX9_refusalOfMove_20 rfl ?_
    refine z_ret dX9_refusalOfMove_21 (by first | exact True.intro | exact Or.inl rfl | exact Or.inr rfl | exact zb_01 _ | assumption | (show _ ∨ _; omega)) ⟨Nat.le_refl _, Nat.le_refl _⟩ ?_
    rw [show zrfM N E P p t = -1 from if_pos (by omega)] at hQ
    exact hQ
  · try replace c1 := zb_1 c1
    refine z_aload_n 5 dX9_refusalOfMove_4 rfl rfl ?_
    refine z_iload_n 6 dX9_refusalOfMove_5 rfl rfl ?_
    refine z_cV1 9 dX9_refusalOfMove_6 rfl kX6_hasPerson zw_482 (Nat.le_of_ble_eq_true rfl) ⟨Nat.le_refl _, Nat.le_refl _⟩ (by first | with_reducible assumption | with_reducible exact zup_same _ _ _) ?_
    refine c_X6_hasPerson hT (by omega) (by omega) ?_
    refine z_if_eq 20 12 dX9_refusalOfMove_9 (by decide) rfl (by first | omega | exact zr_b _ | exact zr_and _ _ | exact zr_or _ _ | exact zr_shl _ _) (fun c9 => ?_) (fun c9 => ?_)
    · try replace c9 := zb_0 c9
      refine z_iconst 21 dX9_refusalOfMove_20 rfl ?_
      refine z_ret dX9_refusalOfMove_21 (by first | exact True.intro | exact Or.inl rfl | exact Or.inr rfl | exact zb_01 _ | assumption | (show _ ∨ _; omega)) ⟨Nat.le_refl _, Nat.le_refl _⟩ ?_
      rw [show zrfM N E P p t = -1 from if_pos (by omega)] at hQ
      exact hQ
    · try replace c9 := zb_1 c9
      refine z_aload_n 13 dX9_refusalOfMove_12 rfl rfl ?_
      refine z_iload_n 14 dX9_refusalOfMove_13 rfl rfl ?_
      refine z_cV1 17 dX9_refusalOfMove_14 rfl kX6_hasPerson zw_482 (Nat.le_of_ble_eq_true rfl) ⟨Nat.le_refl _, Nat.le_refl _⟩ (by first | with_reducible assumption | with_reducible exact zup_same _ _ _) ?_
      refine c_X6_hasPerson hT (by omega) (by omega) ?_
      refine z_if_ne 22 20 dX9_refusalOfMove_17 (by decide) rfl (by first | omega | exact zr_b _ | exact zr_and _ _ | exact zr_or _ _ | exact zr_shl _ _) (fun c17 => ?_) (fun c17 => ?_)
      · try replace c17 := zb_1 c17
        obtain ⟨i0, hi0, e0⟩ := hO.surj p (by omega) (by omega)
        have he0 := hO.tel hi0
        rw [e0] at he0
        rw [show zrfM N E P p t = if t = E p ∨ zkb (zbrn E P p N) t = true then -3 else 0 from if_neg (by omega)] at hQ
        refine z_iload_n 23 dX9_refusalOfMove_22 rfl rfl ?_
        refine z_aload_n 24 dX9_refusalOfMove_23 rfl rfl ?_
        refine z_iload_n 25 dX9_refusalOfMove_24 rfl rfl ?_
        refine z_cV1 28 dX9_refusalOfMove_25 rfl kX6_tellerOf zw_488 (Nat.le_of_ble_eq_true rfl) ⟨Nat.le_refl _, Nat.le_refl _⟩ (by first | with_reducible assumption | with_reducible exact zup_same _ _ _) ?_
        refine c_X6_tellerOf hT (by omega) ?_
        refine z_icmp_eq 43 31 dX9_refusalOfMove_28 (by decide) rfl (by first | omega | exact zr_b _ | exact zr_and _ _ | exact zr_or _ _ | exact zr_shl _ _) (by first | omega | exact zr_b _ | exact zr_and _ _ | exact zr_or _ _ | exact zr_shl _ _) (fun c28 => ?_) (fun c28 => ?_)
        · refine z_iconst 44 dX9_refusalOfMove_43 rfl ?_
          refine z_goto 48 dX9_refusalOfMove_44 (by decide) ?_
          refine z_istore_n 49 dX9_refusalOfMove_48 rfl (by decide) ?_
          refine z_iload_n 50 dX9_refusalOfMove_49 rfl rfl ?_
          refine z_if_eq 58 53 dX9_refusalOfMove_50 (by decide) rfl (by first | omega | exact zr_b _ | exact zr_and _ _ | exact zr_or _ _ | exact zr_shl _ _) (fun c50 => ?_) (fun c50 => ?_)
          · try replace c50 := zb_0 c50
            refine z_iconst 59 dX9_refusalOfMove_58 rfl ?_
            refine z_ret dX9_refusalOfMove_59 (by first | exact True.intro | exact Or.inl rfl | exact Or.inr rfl | exact zb_01 _ | assumption | (show _ ∨ _; omega)) ⟨Nat.le_refl _, Nat.le_refl _⟩ ?_
            first | exact absurd c50 (by decide) | exact absurd rfl c50 | (rw [if_pos (Or.inl c28)] at hQ; exact hQ) | (rw [if_neg (fun q => q.elim c28 (fun q => by rw [(z_has0 (by omega)).mp c40] at q; exact absurd q (by decide)))] at hQ; exact hQ) | (rw [if_pos (Or.inr (by cases hz : zkb (zbrn E P p N) t; exact absurd ((z_has0 (by omega)).mpr hz) c40; rfl))] at hQ; exact hQ)
          · try replace c50 := zb_1 c50
            refine z_bipush 55 dX9_refusalOfMove_53 rfl (by decide) ?_
            refine z_goto 59 dX9_refusalOfMove_55 (by decide) ?_
            refine z_ret dX9_refusalOfMove_59 (by first | exact True.intro | exact Or.inl rfl | exact Or.inr rfl | exact zb_01 _ | assumption | (show _ ∨ _; omega)) ⟨Nat.le_refl _, Nat.le_refl _⟩ ?_
            first | exact absurd c50 (by decide) | exact absurd rfl c50 | (rw [if_pos (Or.inl c28)] at hQ; exact hQ) | (rw [if_neg (fun q => q.elim c28 (fun q => by rw [(z_has0 (by omega)).mp c40] at q; exact absurd q (by decide)))] at hQ; exact hQ) | (rw [if_pos (Or.inr (by cases hz : zkb (zbrn E P p N) t; exact absurd ((z_has0 (by omega)).mpr hz) c40; rfl))] at hQ; exact hQ)
        · refine z_aload_n 32 dX9_refusalOfMove_31 rfl rfl ?_
          refine z_iload_n 33 dX9_refusalOfMove_32 rfl rfl ?_
          refine z_cV1 36 dX9_refusalOfMove_33 rfl kX6_branchOf zw_538 (Nat.le_of_ble_eq_true rfl) ⟨Nat.le_refl _, Nat.le_refl _⟩ (by first | with_reducible assumption | with_reducible exact zup_same _ _ _) ?_
          refine c_X6_branchOf hT hN hO.v8 ?_
          refine z_iload_n 37 dX9_refusalOfMove_36 rfl rfl ?_
          refine z_ishr 38 dX9_refusalOfMove_37 rfl ?_
          refine z_iconst 39 dX9_refusalOfMove_38 rfl ?_
          refine z_iand 40 dX9_refusalOfMove_39 rfl ?_
          refine z_if_eq 47 43 dX9_refusalOfMove_40 (by decide) rfl (by first | omega | exact zr_b _ | exact zr_and _ _ | exact zr_or _ _ | exact zr_shl _ _) (fun c40 => ?_) (fun c40 => ?_)
          · try replace c40 := zb_0 c40
            refine z_iconst 48 dX9_refusalOfMove_47 rfl ?_
            refine z_istore_n 49 dX9_refusalOfMove_48 rfl (by decide) ?_
            refine z_iload_n 50 dX9_refusalOfMove_49 rfl rfl ?_
            refine z_if_eq 58 53 dX9_refusalOfMove_50 (by decide) rfl (by first | omega | exact zr_b _ | exact zr_and _ _ | exact zr_or _ _ | exact zr_shl _ _) (fun c50 => ?_) (fun c50 => ?_)
            · try replace c50 := zb_0 c50
              refine z_iconst 59 dX9_refusalOfMove_58 rfl ?_
              refine z_ret dX9_refusalOfMove_59 (by first | exact True.intro | exact Or.inl rfl | exact Or.inr rfl | exact zb_01 _ | assumption | (show _ ∨ _; omega)) ⟨Nat.le_refl _, Nat.le_refl _⟩ ?_
              first | exact absurd c50 (by decide) | exact absurd rfl c50 | (rw [if_pos (Or.inl c28)] at hQ; exact hQ) | (rw [if_neg (fun q => q.elim c28 (fun q => by rw [(z_has0 (by omega)).mp c40] at q; exact absurd q (by decide)))] at hQ; exact hQ) | (rw [if_pos (Or.inr (by cases hz : zkb (zbrn E P p N) t; exact absurd ((z_has0 (by omega)).mpr hz) c40; rfl))] at hQ; exact hQ)
            · try replace c50 := zb_1 c50
              refine z_bipush 55 dX9_refusalOfMove_53 rfl (by decide) ?_
              refine z_goto 59 dX9_refusalOfMove_55 (by decide) ?_
              refine z_ret dX9_refusalOfMove_59 (by first | exact True.intro | exact Or.inl rfl | exact Or.inr rfl | exact zb_01 _ | assumption | (show _ ∨ _; omega)) ⟨Nat.le_refl _, Nat.le_refl _⟩ ?_
              first | exact absurd c50 (by decide) | exact absurd rfl c50 | (rw [if_pos (Or.inl c28)] at hQ; exact hQ) | (rw [if_neg (fun q => q.elim c28 (fun q => by rw [(z_has0 (by omega)).mp c40] at q; exact absurd q (by decide)))] at hQ; exact hQ) | (rw [if_pos (Or.inr (by cases hz : zkb (zbrn E P p N) t; exact absurd ((z_has0 (by omega)).mpr hz) c40; rfl))] at hQ; exact hQ)
          · try replace c40 := zb_1 c40
            refine z_iconst 44 dX9_refusalOfMove_43 rfl ?_
            refine z_goto 48 dX9_refusalOfMove_44 (by decide) ?_
            refine z_istore_n 49 dX9_refusalOfMove_48 rfl (by decide) ?_
            refine z_iload_n 50 dX9_refusalOfMove_49 rfl rfl ?_
            refine z_if_eq 58 53 dX9_refusalOfMove_50 (by decide) rfl (by first | omega | exact zr_b _ | exact zr_and _ _ | exact zr_or _ _ | exact zr_shl _ _) (fun c50 => ?_) (fun c50 => ?_)
            · try replace c50 := zb_0 c50
              refine z_iconst 59 dX9_refusalOfMove_58 rfl ?_
              refine z_ret dX9_refusalOfMove_59 (by first | exact True.intro | exact Or.inl rfl | exact Or.inr rfl | exact zb_01 _ | assumption | (show _ ∨ _; omega)) ⟨Nat.le_refl _, Nat.le_refl _⟩ ?_
              first | exact absurd c50 (by decide) | exact absurd rfl c50 | (rw [if_pos (Or.inl c28)] at hQ; exact hQ) | (rw [if_neg (fun q => q.elim c28 (fun q => by rw [(z_has0 (by omega)).mp c40] at q; exact absurd q (by decide)))] at hQ; exact hQ) | (rw [if_pos (Or.inr (by cases hz : zkb (zbrn E P p N) t; exact absurd ((z_has0 (by omega)).mpr hz) c40; rfl))] at hQ; exact hQ)
            · try replace c50 := zb_1 c50
              refine z_bipush 55 dX9_refusalOfMove_53 rfl (by decide) ?_
              refine z_goto 59 dX9_refusalOfMove_55 (by decide) ?_
              refine z_ret dX9_refusalOfMove_59 (by first | exact True.intro | exact Or.inl rfl | exact Or.inr rfl | exact zb_01 _ | assumption | (show _ ∨ _; omega)) ⟨Nat.le_refl _, Nat.le_refl _⟩ ?_
              first | exact absurd c50 (by decide) | exact absurd rfl c50 | (rw [if_pos (Or.inl c28)] at hQ; exact hQ) | (rw [if_neg (fun q => q.elim c28 (fun q => by rw [(z_has0 (by omega)).mp c40] at q; exact absurd q (by decide)))] at hQ; exact hQ) | (rw [if_pos (Or.inr (by cases hz : zkb (zbrn E P p N) t; exact absurd ((z_has0 (by omega)).mpr hz) c40; rfl))] at hQ; exact hQ)
      · try replace c17 := zb_0 c17
        refine z_iconst 21 dX9_refusalOfMove_20 rfl ?_
        refine z_ret dX9_refusalOfMove_21 (by first | exact True.intro | exact Or.inl rfl | exact Or.inr rfl | exact zb_01 _ | assumption | (show _ ∨ _; omega)) ⟨Nat.le_refl _, Nat.le_refl _⟩ ?_
        rw [show zrfM N E P p t = -1 from if_pos (by omega)] at hQ
        exact hQ
theorem c_X9_refusalOfChange {B : Int} {a : Nat} {i : Int} (hT : zTel h a ((N + 1 : Nat) : Int) M N D G E P) (hO : zOK B N D G E P) (hp : -2147483648 ≤ i ∧ i ≤ 2147483647) (hQ : Q (some (vI (zrfC N E P i))) h) : zC (d + 3) mX9_refusalOfChange 0 0 [vR a, vI i] h Q := by
  have hN := hO.1
  have zo := hT.2.1
  refine zC.of zpl_X9 (Nat.le_of_ble_eq_true rfl) ?_
  refine z_aload_n 1 dX9_refusalOfChange_0 rfl rfl ?_
  refine z_iload_n 2 dX9_refusalOfChange_1 rfl rfl ?_
  refine z_cV1 5 dX9_refusalOfChange_2 rfl kX6_hasPlace zw_513 (Nat.le_of_ble_eq_true rfl) ⟨Nat.le_refl _, Nat.le_refl _⟩ (by first | with_reducible assumption | with_reducible exact zup_same _ _ _) ?_
  refine c_X6_hasPlace hT (by omega) (by omega) ?_
  refine z_if_eq 18 8 dX9_refusalOfChange_5 (by decide) rfl (by first | omega | exact zr_b _ | exact zr_and _ _ | exact zr_or _ _ | exact zr_shl _ _) (fun c5 => ?_) (fun c5 => ?_)
  · try replace c5 := zb_0 c5
    refine z_iconst 19 dX9_refusalOfChange_18 rfl ?_
    refine z_ret dX9_refusalOfChange_19 (by first | exact True.intro | exact Or.inl rfl | exact Or.inr rfl | exact zb_01 _ | assumption | (show _ ∨ _; omega)) ⟨Nat.le_refl _, Nat.le_refl _⟩ ?_
    rw [show zrfC N E P i = -1 from if_pos (by omega)] at hQ
    exact hQ
  · try replace c5 := zb_1 c5
    refine z_aload_n 9 dX9_refusalOfChange_8 rfl rfl ?_
    refine z_iload_n 10 dX9_refusalOfChange_9 rfl rfl ?_
    refine z_iconst 11 dX9_refusalOfChange_10 rfl ?_
    refine z_iadd 12 dX9_refusalOfChange_11 rfl ?_
    refine z_cV1 15 dX9_refusalOfChange_12 rfl kX6_hasPlace zw_513 (Nat.le_of_ble_eq_true rfl) ⟨Nat.le_refl _, Nat.le_refl _⟩ (by first | with_reducible assumption | with_reducible exact zup_same _ _ _) ?_
    refine c_X6_hasPlace hT (by omega) (by omega) ?_
    refine z_if_ne 20 18 dX9_refusalOfChange_15 (by decide) rfl (by first | omega | exact zr_b _ | exact zr_and _ _ | exact zr_or _ _ | exact zr_shl _ _) (fun c15 => ?_) (fun c15 => ?_)
    · try replace c15 := zb_1 c15
      have v1 := hO.v8 i.toNat (by omega)
      have v2 := hO.v8 (i + 1).toNat (by omega)
      rw [show (((i + 1).toNat : Nat) : Int) = i + 1 by omega] at v2
      rw [show ((i.toNat : Nat) : Int) = i by omega] at v1
      rw [show zrfC N E P i = if E (P (i + 1)) = P i then -3 else 0 from if_neg (by omega)] at hQ
      refine z_aload_n 21 dX9_refusalOfChange_20 rfl rfl ?_
      refine z_aload_n 22 dX9_refusalOfChange_21 rfl rfl ?_
      refine z_iload_n 23 dX9_refusalOfChange_22 rfl rfl ?_
      refine z_iconst 24 dX9_refusalOfChange_23 rfl ?_
      refine z_iadd 25 dX9_refusalOfChange_24 rfl ?_
      refine z_cV1 28 dX9_refusalOfChange_25 rfl kX6_personAt zw_517 (Nat.le_of_ble_eq_true rfl) ⟨Nat.le_refl _, Nat.le_refl _⟩ (by first | with_reducible assumption | with_reducible exact zup_same _ _ _) ?_
      refine c_X6_personAt hT (by omega) ?_
      refine z_cV1 31 dX9_refusalOfChange_28 rfl kX6_tellerOf zw_488 (Nat.le_of_ble_eq_true rfl) ⟨Nat.le_refl _, Nat.le_refl _⟩ (by first | with_reducible assumption | with_reducible exact zup_same _ _ _) ?_
      refine c_X6_tellerOf hT (by omega) ?_
      refine z_aload_n 32 dX9_refusalOfChange_31 rfl rfl ?_
      refine z_iload_n 33 dX9_refusalOfChange_32 rfl rfl ?_
      refine z_cV1 36 dX9_refusalOfChange_33 rfl kX6_personAt zw_517 (Nat.le_of_ble_eq_true rfl) ⟨Nat.le_refl _, Nat.le_refl _⟩ (by first | with_reducible assumption | with_reducible exact zup_same _ _ _) ?_
      refine c_X6_personAt hT (by omega) ?_
      refine z_icmp_ne 44 39 dX9_refusalOfChange_36 (by decide) rfl (by first | omega | exact zr_b _ | exact zr_and _ _ | exact zr_or _ _ | exact zr_shl _ _) (by first | omega | exact zr_b _ | exact zr_and _ _ | exact zr_or _ _ | exact zr_shl _ _) (fun c36 => ?_) (fun c36 => ?_)
      · refine z_iconst 45 dX9_refusalOfChange_44 rfl ?_
        refine z_ret dX9_refusalOfChange_45 (by first | exact True.intro | exact Or.inl rfl | exact Or.inr rfl | exact zb_01 _ | assumption | (show _ ∨ _; omega)) ⟨Nat.le_refl _, Nat.le_refl _⟩ ?_
        first | (rw [if_pos c36] at hQ; exact hQ) | (rw [if_neg c36] at hQ; exact hQ)
      · refine z_bipush 41 dX9_refusalOfChange_39 rfl (by decide) ?_
        refine z_goto 45 dX9_refusalOfChange_41 (by decide) ?_
        refine z_ret dX9_refusalOfChange_45 (by first | exact True.intro | exact Or.inl rfl | exact Or.inr rfl | exact zb_01 _ | assumption | (show _ ∨ _; omega)) ⟨Nat.le_refl _, Nat.le_refl _⟩ ?_
        first | (rw [if_pos c36] at hQ; exact hQ) | (rw [if_neg c36] at hQ; exact hQ)
    · try replace c15 := zb_0 c15
      refine z_iconst 19 dX9_refusalOfChange_18 rfl ?_
      refine z_ret dX9_refusalOfChange_19 (by first | exact True.intro | exact Or.inl rfl | exact Or.inr rfl | exact zb_01 _ | assumption | (show _ ∨ _; omega)) ⟨Nat.le_refl _, Nat.le_refl _⟩ ?_
      rw [show zrfC N E P i = -1 from if_pos (by omega)] at hQ
      exact hQ
theorem c_X9_refusalOfSet {a : Nat} {m s p w v : Int} (hT : zTel h a ((N + 1 : Nat) : Int) m s D G E P) (hN : N ≤ 7) (hp : -2147483648 ≤ p ∧ p ≤ 2147483647) (hw : -2147483648 ≤ w ∧ w ≤ 2147483647) (hv : -2147483648 ≤ v ∧ v ≤ 2147483647) (hQ : Q (some (vI (zrfS N p w v))) h) : zC (d + 1) mX9_refusalOfSet 0 0 [vR a, vI p, vI w, vI v] h Q := by
  have zo := hT.2.1
  have fin : ∀ x : Int, zrfS N p w v = x → Q (some (vI x)) h := fun x e => e ▸ hQ
  refine zC.of zpl_X9 (Nat.le_of_ble_eq_true rfl) ?_
  refine z_aload_n 1 dX9_refusalOfSet_0 rfl rfl ?_
  refine z_iload_n 2 dX9_refusalOfSet_1 rfl rfl ?_
  refine z_cV1 5 dX9_refusalOfSet_2 rfl kX6_hasPerson zw_482 (Nat.le_of_ble_eq_true rfl) ⟨Nat.le_refl _, Nat.le_refl _⟩ (by first | with_reducible assumption | with_reducible exact zup_same _ _ _) ?_
  refine c_X6_hasPerson hT (by omega) (by omega) ?_
  refine z_if_ne 10 8 dX9_refusalOfSet_5 (by decide) rfl (by first | omega | exact zr_b _ | exact zr_and _ _ | exact zr_or _ _ | exact zr_shl _ _) (fun c5 => ?_) (fun c5 => ?_)
  · try replace c5 := zb_1 c5
    refine z_iload_n 11 dX9_refusalOfSet_10 rfl rfl ?_
    refine z_if_lt 28 14 dX9_refusalOfSet_11 (by decide) rfl (by first | omega | exact zr_b _ | exact zr_and _ _ | exact zr_or _ _ | exact zr_shl _ _) (fun c11 => ?_) (fun c11 => ?_)
    · refine z_bipush 30 dX9_refusalOfSet_28 rfl (by decide) ?_
      refine z_ret dX9_refusalOfSet_30 (by first | exact True.intro | exact Or.inl rfl | exact Or.inr rfl | exact zb_01 _ | assumption | (show _ ∨ _; omega)) ⟨Nat.le_refl _, Nat.le_refl _⟩ ?_
      refine fin _ ?_
      unfold zrfS
      first | (rw [if_pos (by omega)]; done) | (rw [if_neg (by omega), if_pos (by omega)]; done) | (rw [if_neg (by omega), if_neg (by omega)]; first | (rw [if_pos (by omega : w = 0)]; first | (rw [if_pos (by omega)]; done) | (rw [if_neg (by omega)]; done)) | (rw [if_neg (by omega : ¬ w = 0)]; first | (rw [if_pos (by omega : w = 1)]; first | (rw [if_pos (by omega)]; done) | (rw [if_neg (by omega)]; done)) | (rw [if_neg (by omega : ¬ w = 1)]; first | (rw [if_pos (by omega)]; done) | (rw [if_neg (by omega)]; done))))
    · refine z_iload_n 15 dX9_refusalOfSet_14 rfl rfl ?_
      refine z_iconst 16 dX9_refusalOfSet_15 rfl ?_
      refine z_icmp_gt 28 19 dX9_refusalOfSet_16 (by decide) rfl (by first | omega | exact zr_b _ | exact zr_and _ _ | exact zr_or _ _ | exact zr_shl _ _) (by first | omega | exact zr_b _ | exact zr_and _ _ | exact zr_or _ _ | exact zr_shl _ _) (fun c16 => ?_) (fun c16 => ?_)
      · refine z_bipush 30 dX9_refusalOfSet_28 rfl (by decide) ?_
        refine z_ret dX9_refusalOfSet_30 (by first | exact True.intro | exact Or.inl rfl | exact Or.inr rfl | exact zb_01 _ | assumption | (show _ ∨ _; omega)) ⟨Nat.le_refl _, Nat.le_refl _⟩ ?_
        refine fin _ ?_
        unfold zrfS
        first | (rw [if_pos (by omega)]; done) | (rw [if_neg (by omega), if_pos (by omega)]; done) | (rw [if_neg (by omega), if_neg (by omega)]; first | (rw [if_pos (by omega : w = 0)]; first | (rw [if_pos (by omega)]; done) | (rw [if_neg (by omega)]; done)) | (rw [if_neg (by omega : ¬ w = 0)]; first | (rw [if_pos (by omega : w = 1)]; first | (rw [if_pos (by omega)]; done) | (rw [if_neg (by omega)]; done)) | (rw [if_neg (by omega : ¬ w = 1)]; first | (rw [if_pos (by omega)]; done) | (rw [if_neg (by omega)]; done))))
      · refine z_iload_n 20 dX9_refusalOfSet_19 rfl rfl ?_
        refine z_iconst 21 dX9_refusalOfSet_20 rfl ?_
        refine z_icmp_ne 31 24 dX9_refusalOfSet_21 (by decide) rfl (by first | omega | exact zr_b _ | exact zr_and _ _ | exact zr_or _ _ | exact zr_shl _ _) (by first | omega | exact zr_b _ | exact zr_and _ _ | exact zr_or _ _ | exact zr_shl _ _) (fun c21 => ?_) (fun c21 => ?_)
        · refine z_iload_n 32 dX9_refusalOfSet_31 rfl rfl ?_
          refine z_if_ne 40 35 dX9_refusalOfSet_32 (by decide) rfl (by first | omega | exact zr_b _ | exact zr_and _ _ | exact zr_or _ _ | exact zr_shl _ _) (fun c32 => ?_) (fun c32 => ?_)
          · try replace c32 := zb_1 c32
            refine z_iload_n 41 dX9_refusalOfSet_40 rfl rfl ?_
            refine z_iconst 42 dX9_refusalOfSet_41 rfl ?_
            refine z_icmp_ne 49 45 dX9_refusalOfSet_42 (by decide) rfl (by first | omega | exact zr_b _ | exact zr_and _ _ | exact zr_or _ _ | exact zr_shl _ _) (by first | omega | exact zr_b _ | exact zr_and _ _ | exact zr_or _ _ | exact zr_shl _ _) (fun c42 => ?_) (fun c42 => ?_)
            · refine z_iconst 50 dX9_refusalOfSet_49 rfl ?_
              refine z_istore 52 dX9_refusalOfSet_50 rfl (by decide) ?_
              refine z_iload_n 53 dX9_refusalOfSet_52 rfl rfl ?_
              refine z_iconst 54 dX9_refusalOfSet_53 rfl ?_
              refine z_icmp_lt 63 57 dX9_refusalOfSet_54 (by decide) rfl (by first | omega | exact zr_b _ | exact zr_and _ _ | exact zr_or _ _ | exact zr_shl _ _) (by first | omega | exact zr_b _ | exact zr_and _ _ | exact zr_or _ _ | exact zr_shl _ _) (fun c54 => ?_) (fun c54 => ?_)
              · refine z_bipush 65 dX9_refusalOfSet_63 rfl (by decide) ?_
                refine z_goto 69 dX9_refusalOfSet_65 (by decide) ?_
                refine z_ret dX9_refusalOfSet_69 (by first | exact True.intro | exact Or.inl rfl | exact Or.inr rfl | exact zb_01 _ | assumption | (show _ ∨ _; omega)) ⟨Nat.le_refl _, Nat.le_refl _⟩ ?_
                refine fin _ ?_
                unfold zrfS
                first | (rw [if_pos (by omega)]; done) | (rw [if_neg (by omega), if_pos (by omega)]; done) | (rw [if_neg (by omega), if_neg (by omega)]; first | (rw [if_pos (by omega : w = 0)]; first | (rw [if_pos (by omega)]; done) | (rw [if_neg (by omega)]; done)) | (rw [if_neg (by omega : ¬ w = 0)]; first | (rw [if_pos (by omega : w = 1)]; first | (rw [if_pos (by omega)]; done) | (rw [if_neg (by omega)]; done)) | (rw [if_neg (by omega : ¬ w = 1)]; first | (rw [if_pos (by omega)]; done) | (rw [if_neg (by omega)]; done))))
              · refine z_iload_n 58 dX9_refusalOfSet_57 rfl rfl ?_
                refine z_iload 60 dX9_refusalOfSet_58 rfl rfl ?_
                refine z_icmp_le 68 63 dX9_refusalOfSet_60 (by decide) rfl (by first | omega | exact zr_b _ | exact zr_and _ _ | exact zr_or _ _ | exact zr_shl _ _) (by first | omega | exact zr_b _ | exact zr_and _ _ | exact zr_or _ _ | exact zr_shl _ _) (fun c60 => ?_) (fun c60 => ?_)
                · refine z_iconst 69 dX9_refusalOfSet_68 rfl ?_
                  refine z_ret dX9_refusalOfSet_69 (by first | exact True.intro | exact Or.inl rfl | exact Or.inr rfl | exact zb_01 _ | assumption | (show _ ∨ _; omega)) ⟨Nat.le_refl _, Nat.le_refl _⟩ ?_
                  refine fin _ ?_
                  unfold zrfS
                  first | (rw [if_pos (by omega)]; done) | (rw [if_neg (by omega), if_pos (by omega)]; done) | (rw [if_neg (by omega), if_neg (by omega)]; first | (rw [if_pos (by omega : w = 0)]; first | (rw [if_pos (by omega)]; done) | (rw [if_neg (by omega)]; done)) | (rw [if_neg (by omega : ¬ w = 0)]; first | (rw [if_pos (by omega : w = 1)]; first | (rw [if_pos (by omega)]; done) | (rw [if_neg (by omega)]; done)) | (rw [if_neg (by omega : ¬ w = 1)]; first | (rw [if_pos (by omega)]; done) | (rw [if_neg (by omega)]; done))))
                · refine z_bipush 65 dX9_refusalOfSet_63 rfl (by decide) ?_
                  refine z_goto 69 dX9_refusalOfSet_65 (by decide) ?_
                  refine z_ret dX9_refusalOfSet_69 (by first | exact True.intro | exact Or.inl rfl | exact Or.inr rfl | exact zb_01 _ | assumption | (show _ ∨ _; omega)) ⟨Nat.le_refl _, Nat.le_refl _⟩ ?_
                  refine fin _ ?_
                  unfold zrfS
                  first | (rw [if_pos (by omega)]; done) | (rw [if_neg (by omega), if_pos (by omega)]; done) | (rw [if_neg (by omega), if_neg (by omega)]; first | (rw [if_pos (by omega : w = 0)]; first | (rw [if_pos (by omega)]; done) | (rw [if_neg (by omega)]; done)) | (rw [if_neg (by omega : ¬ w = 0)]; first | (rw [if_pos (by omega : w = 1)]; first | (rw [if_pos (by omega)]; done) | (rw [if_neg (by omega)]; done)) | (rw [if_neg (by omega : ¬ w = 1)]; first | (rw [if_pos (by omega)]; done) | (rw [if_neg (by omega)]; done))))
            · refine z_iconst 46 dX9_refusalOfSet_45 rfl ?_
              refine z_goto 50 dX9_refusalOfSet_46 (by decide) ?_
              refine z_istore 52 dX9_refusalOfSet_50 rfl (by decide) ?_
              refine z_iload_n 53 dX9_refusalOfSet_52 rfl rfl ?_
              refine z_iconst 54 dX9_refusalOfSet_53 rfl ?_
              refine z_icmp_lt 63 57 dX9_refusalOfSet_54 (by decide) rfl (by first | omega | exact zr_b _ | exact zr_and _ _ | exact zr_or _ _ | exact zr_shl _ _) (by first | omega | exact zr_b _ | exact zr_and _ _ | exact zr_or _ _ | exact zr_shl _ _) (fun c54 => ?_) (fun c54 => ?_)
              · refine z_bipush 65 dX9_refusalOfSet_63 rfl (by decide) ?_
                refine z_goto 69 dX9_refusalOfSet_65 (by decide) ?_
                refine z_ret dX9_refusalOfSet_69 (by first | exact True.intro | exact Or.inl rfl | exact Or.inr rfl | exact zb_01 _ | assumption | (show _ ∨ _; omega)) ⟨Nat.le_refl _, Nat.le_refl _⟩ ?_
                refine fin _ ?_
                unfold zrfS
                first | (rw [if_pos (by omega)]; done) | (rw [if_neg (by omega), if_pos (by omega)]; done) | (rw [if_neg (by omega), if_neg (by omega)]; first | (rw [if_pos (by omega : w = 0)]; first | (rw [if_pos (by omega)]; done) | (rw [if_neg (by omega)]; done)) | (rw [if_neg (by omega : ¬ w = 0)]; first | (rw [if_pos (by omega : w = 1)]; first | (rw [if_pos (by omega)]; done) | (rw [if_neg (by omega)]; done)) | (rw [if_neg (by omega : ¬ w = 1)]; first | (rw [if_pos (by omega)]; done) | (rw [if_neg (by omega)]; done))))
              · refine z_iload_n 58 dX9_refusalOfSet_57 rfl rfl ?_
                refine z_iload 60 dX9_refusalOfSet_58 rfl rfl ?_
                refine z_icmp_le 68 63 dX9_refusalOfSet_60 (by decide) rfl (by first | omega | exact zr_b _ | exact zr_and _ _ | exact zr_or _ _ | exact zr_shl _ _) (by first | omega | exact zr_b _ | exact zr_and _ _ | exact zr_or _ _ | exact zr_shl _ _) (fun c60 => ?_) (fun c60 => ?_)
                · refine z_iconst 69 dX9_refusalOfSet_68 rfl ?_
                  refine z_ret dX9_refusalOfSet_69 (by first | exact True.intro | exact Or.inl rfl | exact Or.inr rfl | exact zb_01 _ | assumption | (show _ ∨ _; omega)) ⟨Nat.le_refl _, Nat.le_refl _⟩ ?_
                  refine fin _ ?_
                  unfold zrfS
                  first | (rw [if_pos (by omega)]; done) | (rw [if_neg (by omega), if_pos (by omega)]; done) | (rw [if_neg (by omega), if_neg (by omega)]; first | (rw [if_pos (by omega : w = 0)]; first | (rw [if_pos (by omega)]; done) | (rw [if_neg (by omega)]; done)) | (rw [if_neg (by omega : ¬ w = 0)]; first | (rw [if_pos (by omega : w = 1)]; first | (rw [if_pos (by omega)]; done) | (rw [if_neg (by omega)]; done)) | (rw [if_neg (by omega : ¬ w = 1)]; first | (rw [if_pos (by omega)]; done) | (rw [if_neg (by omega)]; done))))
                · refine z_bipush 65 dX9_refusalOfSet_63 rfl (by decide) ?_
                  refine z_goto 69 dX9_refusalOfSet_65 (by decide) ?_
                  refine z_ret dX9_refusalOfSet_69 (by first | exact True.intro | exact Or.inl rfl | exact Or.inr rfl | exact zb_01 _ | assumption | (show _ ∨ _; omega)) ⟨Nat.le_refl _, Nat.le_refl _⟩ ?_
                  refine fin _ ?_
                  unfold zrfS
                  first | (rw [if_pos (by omega)]; done) | (rw [if_neg (by omega), if_pos (by omega)]; done) | (rw [if_neg (by omega), if_neg (by omega)]; first | (rw [if_pos (by omega : w = 0)]; first | (rw [if_pos (by omega)]; done) | (rw [if_neg (by omega)]; done)) | (rw [if_neg (by omega : ¬ w = 0)]; first | (rw [if_pos (by omega : w = 1)]; first | (rw [if_pos (by omega)]; done) | (rw [if_neg (by omega)]; done)) | (rw [if_neg (by omega : ¬ w = 1)]; first | (rw [if_pos (by omega)]; done) | (rw [if_neg (by omega)]; done))))
          · try replace c32 := zb_0 c32
            refine z_bipush 37 dX9_refusalOfSet_35 rfl (by decide) ?_
            refine z_goto 50 dX9_refusalOfSet_37 (by decide) ?_
            refine z_istore 52 dX9_refusalOfSet_50 rfl (by decide) ?_
            refine z_iload_n 53 dX9_refusalOfSet_52 rfl rfl ?_
            refine z_iconst 54 dX9_refusalOfSet_53 rfl ?_
            refine z_icmp_lt 63 57 dX9_refusalOfSet_54 (by decide) rfl (by first | omega | exact zr_b _ | exact zr_and _ _ | exact zr_or _ _ | exact zr_shl _ _) (by first | omega | exact zr_b _ | exact zr_and _ _ | exact zr_or _ _ | exact zr_shl _ _) (fun c54 => ?_) (fun c54 => ?_)
            · refine z_bipush 65 dX9_refusalOfSet_63 rfl (by decide) ?_
              refine z_goto 69 dX9_refusalOfSet_65 (by decide) ?_
              refine z_ret dX9_refusalOfSet_69 (by first | exact True.intro | exact Or.inl rfl | exact Or.inr rfl | exact zb_01 _ | assumption | (show _ ∨ _; omega)) ⟨Nat.le_refl _, Nat.le_refl _⟩ ?_
              refine fin _ ?_
              unfold zrfS
              first | (rw [if_pos (by omega)]; done) | (rw [if_neg (by omega), if_pos (by omega)]; done) | (rw [if_neg (by omega), if_neg (by omega)]; first | (rw [if_pos (by omega : w = 0)]; first | (rw [if_pos (by omega)]; done) | (rw [if_neg (by omega)]; done)) | (rw [if_neg (by omega : ¬ w = 0)]; first | (rw [if_pos (by omega : w = 1)]; first | (rw [if_pos (by omega)]; done) | (rw [if_neg (by omega)]; done)) | (rw [if_neg (by omega : ¬ w = 1)]; first | (rw [if_pos (by omega)]; done) | (rw [if_neg (by omega)]; done))))
            · refine z_iload_n 58 dX9_refusalOfSet_57 rfl rfl ?_
              refine z_iload 60 dX9_refusalOfSet_58 rfl rfl ?_
              refine z_icmp_le 68 63 dX9_refusalOfSet_60 (by decide) rfl (by first | omega | exact zr_b _ | exact zr_and _ _ | exact zr_or _ _ | exact zr_shl _ _) (by first | omega | exact zr_b _ | exact zr_and _ _ | exact zr_or _ _ | exact zr_shl _ _) (fun c60 => ?_) (fun c60 => ?_)
              · refine z_iconst 69 dX9_refusalOfSet_68 rfl ?_
                refine z_ret dX9_refusalOfSet_69 (by first | exact True.intro | exact Or.inl rfl | exact Or.inr rfl | exact zb_01 _ | assumption | (show _ ∨ _; omega)) ⟨Nat.le_refl _, Nat.le_refl _⟩ ?_
                refine fin _ ?_
                unfold zrfS
                first | (rw [if_pos (by omega)]; done) | (rw [if_neg (by omega), if_pos (by omega)]; done) | (rw [if_neg (by omega), if_neg (by omega)]; first | (rw [if_pos (by omega : w = 0)]; first | (rw [if_pos (by omega)]; done) | (rw [if_neg (by omega)]; done)) | (rw [if_neg (by omega : ¬ w = 0)]; first | (rw [if_pos (by omega : w = 1)]; first | (rw [if_pos (by omega)]; done) | (rw [if_neg (by omega)]; done)) | (rw [if_neg (by omega : ¬ w = 1)]; first | (rw [if_pos (by omega)]; done) | (rw [if_neg (by omega)]; done))))
              · refine z_bipush 65 dX9_refusalOfSet_63 rfl (by decide) ?_
                refine z_goto 69 dX9_refusalOfSet_65 (by decide) ?_
                refine z_ret dX9_refusalOfSet_69 (by first | exact True.intro | exact Or.inl rfl | exact Or.inr rfl | exact zb_01 _ | assumption | (show _ ∨ _; omega)) ⟨Nat.le_refl _, Nat.le_refl _⟩ ?_
                refine fin _ ?_
                unfold zrfS
                first | (rw [if_pos (by omega)]; done) | (rw [if_neg (by omega), if_pos (by omega)]; done) | (rw [if_neg (by omega), if_neg (by omega)]; first | (rw [if_pos (by omega : w = 0)]; first | (rw [if_pos (by omega)]; done) | (rw [if_neg (by omega)]; done)) | (rw [if_neg (by omega : ¬ w = 0)]; first | (rw [if_pos (by omega : w = 1)]; first | (rw [if_pos (by omega)]; done) | (rw [if_neg (by omega)]; done)) | (rw [if_neg (by omega : ¬ w = 1)]; first | (rw [if_pos (by omega)]; done) | (rw [if_neg (by omega)]; done))))
        · refine z_iload_n 25 dX9_refusalOfSet_24 rfl rfl ?_
          refine z_if_eq 31 28 dX9_refusalOfSet_25 (by decide) rfl (by first | omega | exact zr_b _ | exact zr_and _ _ | exact zr_or _ _ | exact zr_shl _ _) (fun c25 => ?_) (fun c25 => ?_)
          · try replace c25 := zb_0 c25
            refine z_iload_n 32 dX9_refusalOfSet_31 rfl rfl ?_
            refine z_if_ne 40 35 dX9_refusalOfSet_32 (by decide) rfl (by first | omega | exact zr_b _ | exact zr_and _ _ | exact zr_or _ _ | exact zr_shl _ _) (fun c32 => ?_) (fun c32 => ?_)
            · try replace c32 := zb_1 c32
              refine z_iload_n 41 dX9_refusalOfSet_40 rfl rfl ?_
              refine z_iconst 42 dX9_refusalOfSet_41 rfl ?_
              refine z_icmp_ne 49 45 dX9_refusalOfSet_42 (by decide) rfl (by first | omega | exact zr_b _ | exact zr_and _ _ | exact zr_or _ _ | exact zr_shl _ _) (by first | omega | exact zr_b _ | exact zr_and _ _ | exact zr_or _ _ | exact zr_shl _ _) (fun c42 => ?_) (fun c42 => ?_)
              · refine z_iconst 50 dX9_refusalOfSet_49 rfl ?_
                refine z_istore 52 dX9_refusalOfSet_50 rfl (by decide) ?_
                refine z_iload_n 53 dX9_refusalOfSet_52 rfl rfl ?_
                refine z_iconst 54 dX9_refusalOfSet_53 rfl ?_
                refine z_icmp_lt 63 57 dX9_refusalOfSet_54 (by decide) rfl (by first | omega | exact zr_b _ | exact zr_and _ _ | exact zr_or _ _ | exact zr_shl _ _) (by first | omega | exact zr_b _ | exact zr_and _ _ | exact zr_or _ _ | exact zr_shl _ _) (fun c54 => ?_) (fun c54 => ?_)
                · refine z_bipush 65 dX9_refusalOfSet_63 rfl (by decide) ?_
                  refine z_goto 69 dX9_refusalOfSet_65 (by decide) ?_
                  refine z_ret dX9_refusalOfSet_69 (by first | exact True.intro | exact Or.inl rfl | exact Or.inr rfl | exact zb_01 _ | assumption | (show _ ∨ _; omega)) ⟨Nat.le_refl _, Nat.le_refl _⟩ ?_
                  refine fin _ ?_
                  unfold zrfS
                  first | (rw [if_pos (by omega)]; done) | (rw [if_neg (by omega), if_pos (by omega)]; done) | (rw [if_neg (by omega), if_neg (by omega)]; first | (rw [if_pos (by omega : w = 0)]; first | (rw [if_pos (by omega)]; done) | (rw [if_neg (by omega)]; done)) | (rw [if_neg (by omega : ¬ w = 0)]; first | (rw [if_pos (by omega : w = 1)]; first | (rw [if_pos (by omega)]; done) | (rw [if_neg (by omega)]; done)) | (rw [if_neg (by omega : ¬ w = 1)]; first | (rw [if_pos (by omega)]; done) | (rw [if_neg (by omega)]; done))))
                · refine z_iload_n 58 dX9_refusalOfSet_57 rfl rfl ?_
                  refine z_iload 60 dX9_refusalOfSet_58 rfl rfl ?_
                  refine z_icmp_le 68 63 dX9_refusalOfSet_60 (by decide) rfl (by first | omega | exact zr_b _ | exact zr_and _ _ | exact zr_or _ _ | exact zr_shl _ _) (by first | omega | exact zr_b _ | exact zr_and _ _ | exact zr_or _ _ | exact zr_shl _ _) (fun c60 => ?_) (fun c60 => ?_)
                  · refine z_iconst 69 dX9_refusalOfSet_68 rfl ?_
                    refine z_ret dX9_refusalOfSet_69 (by first | exact True.intro | exact Or.inl rfl | exact Or.inr rfl | exact zb_01 _ | assumption | (show _ ∨ _; omega)) ⟨Nat.le_refl _, Nat.le_refl _⟩ ?_
                    refine fin _ ?_
                    unfold zrfS
                    first | (rw [if_pos (by omega)]; done) | (rw [if_neg (by omega), if_pos (by omega)]; done) | (rw [if_neg (by omega), if_neg (by omega)]; first | (rw [if_pos (by omega : w = 0)]; first | (rw [if_pos (by omega)]; done) | (rw [if_neg (by omega)]; done)) | (rw [if_neg (by omega : ¬ w = 0)]; first | (rw [if_pos (by omega : w = 1)]; first | (rw [if_pos (by omega)]; done) | (rw [if_neg (by omega)]; done)) | (rw [if_neg (by omega : ¬ w = 1)]; first | (rw [if_pos (by omega)]; done) | (rw [if_neg (by omega)]; done))))
                  · refine z_bipush 65 dX9_refusalOfSet_63 rfl (by decide) ?_
                    refine z_goto 69 dX9_refusalOfSet_65 (by decide) ?_
                    refine z_ret dX9_refusalOfSet_69 (by first | exact True.intro | exact Or.inl rfl | exact Or.inr rfl | exact zb_01 _ | assumption | (show _ ∨ _; omega)) ⟨Nat.le_refl _, Nat.le_refl _⟩ ?_
                    refine fin _ ?_
                    unfold zrfS
                    first | (rw [if_pos (by omega)]; done) | (rw [if_neg (by omega), if_pos (by omega)]; done) | (rw [if_neg (by omega), if_neg (by omega)]; first | (rw [if_pos (by omega : w = 0)]; first | (rw [if_pos (by omega)]; done) | (rw [if_neg (by omega)]; done)) | (rw [if_neg (by omega : ¬ w = 0)]; first | (rw [if_pos (by omega : w = 1)]; first | (rw [if_pos (by omega)]; done) | (rw [if_neg (by omega)]; done)) | (rw [if_neg (by omega : ¬ w = 1)]; first | (rw [if_pos (by omega)]; done) | (rw [if_neg (by omega)]; done))))
              · refine z_iconst 46 dX9_refusalOfSet_45 rfl ?_
                refine z_goto 50 dX9_refusalOfSet_46 (by decide) ?_
                refine z_istore 52 dX9_refusalOfSet_50 rfl (by decide) ?_
                refine z_iload_n 53 dX9_refusalOfSet_52 rfl rfl ?_
                refine z_iconst 54 dX9_refusalOfSet_53 rfl ?_
                refine z_icmp_lt 63 57 dX9_refusalOfSet_54 (by decide) rfl (by first | omega | exact zr_b _ | exact zr_and _ _ | exact zr_or _ _ | exact zr_shl _ _) (by first | omega | exact zr_b _ | exact zr_and _ _ | exact zr_or _ _ | exact zr_shl _ _) (fun c54 => ?_) (fun c54 => ?_)
                · refine z_bipush 65 dX9_refusalOfSet_63 rfl (by decide) ?_
                  refine z_goto 69 dX9_refusalOfSet_65 (by decide) ?_
                  refine z_ret dX9_refusalOfSet_69 (by first | exact True.intro | exact Or.inl rfl | exact Or.inr rfl | exact zb_01 _ | assumption | (show _ ∨ _; omega)) ⟨Nat.le_refl _, Nat.le_refl _⟩ ?_
                  refine fin _ ?_
                  unfold zrfS
                  first | (rw [if_pos (by omega)]; done) | (rw [if_neg (by omega), if_pos (by omega)]; done) | (rw [if_neg (by omega), if_neg (by omega)]; first | (rw [if_pos (by omega : w = 0)]; first | (rw [if_pos (by omega)]; done) | (rw [if_neg (by omega)]; done)) | (rw [if_neg (by omega : ¬ w = 0)]; first | (rw [if_pos (by omega : w = 1)]; first | (rw [if_pos (by omega)]; done) | (rw [if_neg (by omega)]; done)) | (rw [if_neg (by omega : ¬ w = 1)]; first | (rw [if_pos (by omega)]; done) | (rw [if_neg (by omega)]; done))))
                · refine z_iload_n 58 dX9_refusalOfSet_57 rfl rfl ?_
                  refine z_iload 60 dX9_refusalOfSet_58 rfl rfl ?_
                  refine z_icmp_le 68 63 dX9_refusalOfSet_60 (by decide) rfl (by first | omega | exact zr_b _ | exact zr_and _ _ | exact zr_or _ _ | exact zr_shl _ _) (by first | omega | exact zr_b _ | exact zr_and _ _ | exact zr_or _ _ | exact zr_shl _ _) (fun c60 => ?_) (fun c60 => ?_)
                  · refine z_iconst 69 dX9_refusalOfSet_68 rfl ?_
                    refine z_ret dX9_refusalOfSet_69 (by first | exact True.intro | exact Or.inl rfl | exact Or.inr rfl | exact zb_01 _ | assumption | (show _ ∨ _; omega)) ⟨Nat.le_refl _, Nat.le_refl _⟩ ?_
                    refine fin _ ?_
                    unfold zrfS
                    first | (rw [if_pos (by omega)]; done) | (rw [if_neg (by omega), if_pos (by omega)]; done) | (rw [if_neg (by omega), if_neg (by omega)]; first | (rw [if_pos (by omega : w = 0)]; first | (rw [if_pos (by omega)]; done) | (rw [if_neg (by omega)]; done)) | (rw [if_neg (by omega : ¬ w = 0)]; first | (rw [if_pos (by omega : w = 1)]; first | (rw [if_pos (by omega)]; done) | (rw [if_neg (by omega)]; done)) | (rw [if_neg (by omega : ¬ w = 1)]; first | (rw [if_pos (by omega)]; done) | (rw [if_neg (by omega)]; done))))
                  · refine z_bipush 65 dX9_refusalOfSet_63 rfl (by decide) ?_
                    refine z_goto 69 dX9_refusalOfSet_65 (by decide) ?_
                    refine z_ret dX9_refusalOfSet_69 (by first | exact True.intro | exact Or.inl rfl | exact Or.inr rfl | exact zb_01 _ | assumption | (show _ ∨ _; omega)) ⟨Nat.le_refl _, Nat.le_refl _⟩ ?_
                    refine fin _ ?_
                    unfold zrfS
                    first | (rw [if_pos (by omega)]; done) | (rw [if_neg (by omega), if_pos (by omega)]; done) | (rw [if_neg (by omega), if_neg (by omega)]; first | (rw [if_pos (by omega : w = 0)]; first | (rw [if_pos (by omega)]; done) | (rw [if_neg (by omega)]; done)) | (rw [if_neg (by omega : ¬ w = 0)]; first | (rw [if_pos (by omega : w = 1)]; first | (rw [if_pos (by omega)]; done) | (rw [if_neg (by omega)]; done)) | (rw [if_neg (by omega : ¬ w = 1)]; first | (rw [if_pos (by omega)]; done) | (rw [if_neg (by omega)]; done))))
            · try replace c32 := zb_0 c32
              refine z_bipush 37 dX9_refusalOfSet_35 rfl (by decide) ?_
              refine z_goto 50 dX9_refusalOfSet_37 (by decide) ?_
              refine z_istore 52 dX9_refusalOfSet_50 rfl (by decide) ?_
              refine z_iload_n 53 dX9_refusalOfSet_52 rfl rfl ?_
              refine z_iconst 54 dX9_refusalOfSet_53 rfl ?_
              refine z_icmp_lt 63 57 dX9_refusalOfSet_54 (by decide) rfl (by first | omega | exact zr_b _ | exact zr_and _ _ | exact zr_or _ _ | exact zr_shl _ _) (by first | omega | exact zr_b _ | exact zr_and _ _ | exact zr_or _ _ | exact zr_shl _ _) (fun c54 => ?_) (fun c54 => ?_)
              · refine z_bipush 65 dX9_refusalOfSet_63 rfl (by decide) ?_
                refine z_goto 69 dX9_refusalOfSet_65 (by decide) ?_
                refine z_ret dX9_refusalOfSet_69 (by first | exact True.intro | exact Or.inl rfl | exact Or.inr rfl | exact zb_01 _ | assumption | (show _ ∨ _; omega)) ⟨Nat.le_refl _, Nat.le_refl _⟩ ?_
                refine fin _ ?_
                unfold zrfS
                first | (rw [if_pos (by omega)]; done) | (rw [if_neg (by omega), if_pos (by omega)]; done) | (rw [if_neg (by omega), if_neg (by omega)]; first | (rw [if_pos (by omega : w = 0)]; first | (rw [if_pos (by omega)]; done) | (rw [if_neg (by omega)]; done)) | (rw [if_neg (by omega : ¬ w = 0)]; first | (rw [if_pos (by omega : w = 1)]; first | (rw [if_pos (by omega)]; done) | (rw [if_neg (by omega)]; done)) | (rw [if_neg (by omega : ¬ w = 1)]; first | (rw [if_pos (by omega)]; done) | (rw [if_neg (by omega)]; done))))
              · refine z_iload_n 58 dX9_refusalOfSet_57 rfl rfl ?_
                refine z_iload 60 dX9_refusalOfSet_58 rfl rfl ?_
                refine z_icmp_le 68 63 dX9_refusalOfSet_60 (by decide) rfl (by first | omega | exact zr_b _ | exact zr_and _ _ | exact zr_or _ _ | exact zr_shl _ _) (by first | omega | exact zr_b _ | exact zr_and _ _ | exact zr_or _ _ | exact zr_shl _ _) (fun c60 => ?_) (fun c60 => ?_)
                · refine z_iconst 69 dX9_refusalOfSet_68 rfl ?_
                  refine z_ret dX9_refusalOfSet_69 (by first | exact True.intro | exact Or.inl rfl | exact Or.inr rfl | exact zb_01 _ | assumption | (show _ ∨ _; omega)) ⟨Nat.le_refl _, Nat.le_refl _⟩ ?_
                  refine fin _ ?_
                  unfold zrfS
                  first | (rw [if_pos (by omega)]; done) | (rw [if_neg (by omega), if_pos (by omega)]; done) | (rw [if_neg (by omega), if_neg (by omega)]; first | (rw [if_pos (by omega : w = 0)]; first | (rw [if_pos (by omega)]; done) | (rw [if_neg (by omega)]; done)) | (rw [if_neg (by omega : ¬ w = 0)]; first | (rw [if_pos (by omega : w = 1)]; first | (rw [if_pos (by omega)]; done) | (rw [if_neg (by omega)]; done)) | (rw [if_neg (by omega : ¬ w = 1)]; first | (rw [if_pos (by omega)]; done) | (rw [if_neg (by omega)]; done))))
                · refine z_bipush 65 dX9_refusalOfSet_63 rfl (by decide) ?_
                  refine z_goto 69 dX9_refusalOfSet_65 (by decide) ?_
                  refine z_ret dX9_refusalOfSet_69 (by first | exact True.intro | exact Or.inl rfl | exact Or.inr rfl | exact zb_01 _ | assumption | (show _ ∨ _; omega)) ⟨Nat.le_refl _, Nat.le_refl _⟩ ?_
                  refine fin _ ?_
                  unfold zrfS
                  first | (rw [if_pos (by omega)]; done) | (rw [if_neg (by omega), if_pos (by omega)]; done) | (rw [if_neg (by omega), if_neg (by omega)]; first | (rw [if_pos (by omega : w = 0)]; first | (rw [if_pos (by omega)]; done) | (rw [if_neg (by omega)]; done)) | (rw [if_neg (by omega : ¬ w = 0)]; first | (rw [if_pos (by omega : w = 1)]; first | (rw [if_pos (by omega)]; done) | (rw [if_neg (by omega)]; done)) | (rw [if_neg (by omega : ¬ w = 1)]; first | (rw [if_pos (by omega)]; done) | (rw [if_neg (by omega)]; done))))
          · try replace c25 := zb_1 c25
            refine z_bipush 30 dX9_refusalOfSet_28 rfl (by decide) ?_
            refine z_ret dX9_refusalOfSet_30 (by first | exact True.intro | exact Or.inl rfl | exact Or.inr rfl | exact zb_01 _ | assumption | (show _ ∨ _; omega)) ⟨Nat.le_refl _, Nat.le_refl _⟩ ?_
            refine fin _ ?_
            unfold zrfS
            first | (rw [if_pos (by omega)]; done) | (rw [if_neg (by omega), if_pos (by omega)]; done) | (rw [if_neg (by omega), if_neg (by omega)]; first | (rw [if_pos (by omega : w = 0)]; first | (rw [if_pos (by omega)]; done) | (rw [if_neg (by omega)]; done)) | (rw [if_neg (by omega : ¬ w = 0)]; first | (rw [if_pos (by omega : w = 1)]; first | (rw [if_pos (by omega)]; done) | (rw [if_neg (by omega)]; done)) | (rw [if_neg (by omega : ¬ w = 1)]; first | (rw [if_pos (by omega)]; done) | (rw [if_neg (by omega)]; done))))
  · try replace c5 := zb_0 c5
    refine z_iconst 9 dX9_refusalOfSet_8 rfl ?_
    refine z_ret dX9_refusalOfSet_9 (by first | exact True.intro | exact Or.inl rfl | exact Or.inr rfl | exact zb_01 _ | assumption | (show _ ∨ _; omega)) ⟨Nat.le_refl _, Nat.le_refl _⟩ ?_
    refine fin _ ?_
    unfold zrfS
    first | (rw [if_pos (by omega)]; done) | (rw [if_neg (by omega), if_pos (by omega)]; done) | (rw [if_neg (by omega), if_neg (by omega)]; first | (rw [if_pos (by omega : w = 0)]; first | (rw [if_pos (by omega)]; done) | (rw [if_neg (by omega)]; done)) | (rw [if_neg (by omega : ¬ w = 0)]; first | (rw [if_pos (by omega : w = 1)]; first | (rw [if_pos (by omega)]; done) | (rw [if_neg (by omega)]; done)) | (rw [if_neg (by omega : ¬ w = 1)]; first | (rw [if_pos (by omega)]; done) | (rw [if_neg (by omega)]; done))))
/-- acts.remember(now) in the world -/
theorem w_rem (hW : zCW h T U C l fi ct S fl Kp W Kt c sd O) (hr : 0 ≤ fi ∧ fi < 14 ∧ 0 ≤ ct ∧ ct ≤ 14) (hQ : ∀ h' : zH, zCW h' T U C l (zfi fi ct) (zcm ct + 1) (fun i => if i = zjj fi ct then T else S i) fl Kp W Kt c sd O → zMod 2 111 h h' → Q none h') : zC (d + 3) mX0_remember 0 0 [vR 22, vR 3] h Q := by
  obtain ⟨N, M, D, G, E, P⟩ := T
  have hj : zjj fi ct < 14 := by
    have : 0 ≤ (zfi fi ct + zcm ct) % 14 ∧ (zfi fi ct + zcm ct) % 14 < 14 := by omega
    unfold zjj; omega
  have hU := hW.sv (zjj fi ct) hj
  obtain ⟨N1, M1, D1, G1, E1, P1⟩ := S (zjj fi ct)
  refine c_X0_remember (u := 25 + 5 * zjj fi ct) (by decide) hW.ac hW.s1 hr ⟨rfl, rfl⟩ rfl hW.nw hU (by omega) (fun h' a b => ?_)
  have m1 : zMod 22 22 h (zup h 22 (zAO 22 (zfi fi ct) (zcm ct))) := (zMod.rf _ _ h).up _ (by omega)
  have W1 := hW.ac_set m1 (zup_same _ _ _)
  have W2 := W1.sv_set (S' := fun i => if i = zjj fi ct then (N, M, D, G, E, P) else S i) (b.wd (by omega)) (fun i hi => by
    try dsimp only
    by_cases e : i = zjj fi ct
    · rw [if_pos e, e]; exact a
    · rw [if_neg e]; exact (W1.sv i hi).mod b (by omega))
  have m3 : zMod 22 22 h' (zup h' 22 (zAO 22 (zfi fi ct) (zcm ct + 1))) := (zMod.rf _ _ h').up _ (by omega)
  exact hQ _ (W2.ac_set m3 (zup_same _ _ _)) ((m1.wd (by omega)).tr ((b.wd (by omega)).tr (m3.wd (by omega))))
theorem c_X9_move_no {p t : Int} (hW : zCW h (N, M, D, G, E, P) U C l fi ct S fl Kp W Kt c sd O) (hO : zOK 9 N D G E P) (hp : -2147483648 ≤ p ∧ p ≤ 2147483647) (ht : -2147483648 ≤ t ∧ t ≤ 2147483647) (hr : zrfM N E P p t ≠ 0) (hQ : Q (some (vI (zrfM N E P p t))) h) : zC (d + 4) mX9_move 0 0 [vR 2, vI p, vI t] h Q := by
  have hb : -100 ≤ zrfM N E P p t ∧ zrfM N E P p t ≤ 100 := by unfold zrfM; split; omega; split <;> omega
  have zo2 := hW.ob
  have zo3 := hW.nw.2.1
  refine zC.of zpl_X9 (Nat.le_of_ble_eq_true rfl) ?_
  refine z_aload_n 1 dX9_move_0 rfl rfl ?_
  refine z_getf (ci := 9) 4 dX9_move_1 rfl rfl zin_9 0 (by decide) zw_224 (by first | with_reducible assumption | with_reducible exact zup_same _ _ _) rfl ?_
  refine z_iload_n 5 dX9_move_4 rfl rfl ?_
  refine z_iload_n 6 dX9_move_5 rfl rfl ?_
  refine z_cS3 9 dX9_move_6 rfl kX9_refusalOfMove zw_535 (Nat.le_of_ble_eq_true rfl) ⟨Nat.le_refl _, Nat.le_refl _⟩ ?_
  refine c_X9_refusalOfMove hW.nw hO hp ht ?_
  refine z_istore_n 10 dX9_move_9 rfl (by decide) ?_
  refine z_iload_n 11 dX9_move_10 rfl rfl ?_
  refine z_if_eq 16 14 dX9_move_11 (by decide) rfl (by first | omega | exact zr_b _ | exact zr_and _ _ | exact zr_or _ _ | exact zr_shl _ _) (fun c11 => ?_) (fun c11 => ?_)
  · exact absurd c11 hr
  · try replace c11 := zb_1 c11
    refine z_iload_n 15 dX9_move_14 rfl rfl ?_
    refine z_ret dX9_move_15 (by first | exact True.intro | exact Or.inl rfl | exact Or.inr rfl | exact zb_01 _ | assumption | (show _ ∨ _; omega)) ⟨Nat.le_refl _, Nat.le_refl _⟩ ?_
    exact hQ
theorem c_X9_move {p t : Int} (hW : zCW h (N, M, D, G, E, P) U C l fi ct S fl Kp W Kt c sd O) (hO : zOK 9 N D G E P) (hM : M ≤ 3) (hrg : 0 ≤ fi ∧ fi < 14 ∧ 0 ≤ ct ∧ ct ≤ 14) (hp : -2147483648 ≤ p ∧ p ≤ 2147483647) (ht : -2147483648 ≤ t ∧ t ≤ 2147483647) (hr : zrfM N E P p t = 0)
    (hQ : ∀ h' : zH, zCW h' (N, M, D, G, zst E p t, (zgv (zbrn E P p N) N P N).2) U C l (zfi fi ct) (zcm ct + 1) (fun i => if i = zjj fi ct then (N, M, D, G, E, P) else S i) fl Kp W Kt c sd O → zMod 2 111 h h' → Q (some (vI (zLAST D G (zst E p t) (zgv (zbrn E P p N) N P N).2 N M))) h') : zC (d + 4) mX9_move 0 0 [vR 2, vI p, vI t] h Q := by
  have hN := hO.1
  have hpt : (1 ≤ p ∧ p ≤ N) ∧ (0 ≤ t ∧ t ≤ N) ∧ zkb (zbrn E P p N) t = false := by
    unfold zrfM at hr
    by_cases e : p = 0 ∨ ¬ (0 ≤ p ∧ p < N + 1) ∨ ¬ (0 ≤ t ∧ t < N + 1)
    · rw [if_pos e] at hr; omega
    · rw [if_neg e] at hr
      by_cases e2 : t = E p ∨ zkb (zbrn E P p N) t = true
      · rw [if_pos e2] at hr; omega
      · exact ⟨by omega, by omega, by cases hz : zkb (zbrn E P p N) t; rfl; exact absurd (Or.inr hz) e2⟩
  have hO' := zmove_ok hO hpt.1 hpt.2.1 hpt.2.2
  have zo2 := hW.ob
  have zo3 := hW.nw.2.1
  have zo22 := hW.ac
  refine zC.of zpl_X9 (Nat.le_of_ble_eq_true rfl) ?_
  refine z_aload_n 1 dX9_move_0 rfl rfl ?_
  refine z_getf (ci := 9) 4 dX9_move_1 rfl rfl zin_9 0 (by decide) zw_224 (by first | with_reducible assumption | with_reducible exact zup_same _ _ _) rfl ?_
  refine z_iload_n 5 dX9_move_4 rfl rfl ?_
  refine z_iload_n 6 dX9_move_5 rfl rfl ?_
  refine z_cS3 9 dX9_move_6 rfl kX9_refusalOfMove zw_535 (Nat.le_of_ble_eq_true rfl) ⟨Nat.le_refl _, Nat.le_refl _⟩ ?_
  refine c_X9_refusalOfMove hW.nw hO hp ht ?_
  refine z_istore_n 10 dX9_move_9 rfl (by decide) ?_
  refine z_iload_n 11 dX9_move_10 rfl rfl ?_
  refine z_if_eq 16 14 dX9_move_11 (by decide) rfl (by first | omega | exact zr_b _ | exact zr_and _ _ | exact zr_or _ _ | exact zr_shl _ _) (fun c11 => ?_) (fun c11 => ?_)
  · try replace c11 := zb_0 c11
    refine z_aload_n 17 dX9_move_16 rfl rfl ?_
    refine z_getf (ci := 9) 20 dX9_move_17 rfl rfl zin_9 6 (by decide) zw_230 (by first | with_reducible assumption | with_reducible exact zup_same _ _ _) rfl ?_
    refine z_aload_n 21 dX9_move_20 rfl rfl ?_
    refine z_getf (ci := 9) 24 dX9_move_21 rfl rfl zin_9 0 (by decide) zw_224 (by first | with_reducible assumption | with_reducible exact zup_same _ _ _) rfl ?_
    refine z_cV1 27 dX9_move_24 rfl kX0_remember zw_542 (Nat.le_of_ble_eq_true rfl) ⟨Nat.le_refl _, Nat.le_refl _⟩ (by first | with_reducible assumption | with_reducible exact zup_same _ _ _) ?_
    refine w_rem hW hrg (fun h1 hW1 hF1 => ?_)
    have zo2 := hW1.ob
    have zo3 := hW1.nw.2.1
    refine z_aload_n 28 dX9_move_27 rfl rfl ?_
    refine z_getf (ci := 9) 31 dX9_move_28 rfl rfl zin_9 0 (by decide) zw_224 (by first | with_reducible assumption | with_reducible exact zup_same _ _ _) rfl ?_
    refine z_iload_n 32 dX9_move_31 rfl rfl ?_
    refine z_iload_n 33 dX9_move_32 rfl rfl ?_
    refine z_cV2 36 dX9_move_33 rfl kX6_giveTeller zw_555 (Nat.le_of_ble_eq_true rfl) ⟨Nat.le_refl _, Nat.le_refl _⟩ (by first | with_reducible assumption | with_reducible exact zup_same _ _ _) ?_
    refine c_X6_giveTeller hW1.nw hN (by omega) hO.v8 ?_
    have m2 : zMod 3 7 h1 (zup (zup h1 (3 + 3) (zI 8 (zst E p t))) (3 + 4) (zI 8 (zgv (zbrn E P p N) N P N).2)) := ((zMod.rf _ _ h1).up _ (by omega)).up _ (by omega)
    have hW2 := hW1.nw_set (T' := (N, M, D, G, zst E p t, (zgv (zbrn E P p N) N P N).2)) m2 ((hW1.nw.tl (zst E p t)).pl (zgv (zbrn E P p N) N P N).2)
    have zo2 := hW2.ob
    have zo3 := hW2.nw.2.1
    obtain ⟨K, F, hX, hK0⟩ := hW2.ti
    have zo13 := hX.2.1
    refine z_aload_n 37 dX9_move_36 rfl rfl ?_
    refine z_getf (ci := 9) 40 dX9_move_37 rfl rfl zin_9 2 (by decide) zw_226 (by first | with_reducible assumption | with_reducible exact zup_same _ _ _) rfl ?_
    refine z_aload_n 41 dX9_move_40 rfl rfl ?_
    refine z_getf (ci := 9) 44 dX9_move_41 rfl rfl zin_9 0 (by decide) zw_224 (by first | with_reducible assumption | with_reducible exact zup_same _ _ _) rfl ?_
    refine z_cV1 47 dX9_move_44 rfl kX8_follow zw_357 (Nat.le_of_ble_eq_true rfl) ⟨Nat.le_refl _, Nat.le_refl _⟩ (by first | with_reducible assumption | with_reducible exact zup_same _ _ _) ?_
    refine w_fol3 hW2 hO' hM (fun h3 K3 F3 hW3 hX3 hT3 hF3 => ?_)
    refine z_ret dX9_move_47 (by first | exact True.intro | exact Or.inl rfl | exact Or.inr rfl | exact zb_01 _ | assumption | (show _ ∨ _; omega)) ⟨Nat.le_refl _, Nat.le_refl _⟩ ?_
    exact hQ _ hW3 (hF1.tr ((m2.wd (by omega)).tr hF3))
  · exact absurd hr c11
theorem c_X9_change_no {i : Int} (hW : zCW h (N, M, D, G, E, P) U C l fi ct S fl Kp W Kt c sd O) (hO : zOK 9 N D G E P) (hi : -2147483648 ≤ i ∧ i ≤ 2147483647) (hr : zrfC N E P i ≠ 0) (hQ : Q (some (vI (zrfC N E P i))) h) : zC (d + 4) mX9_change 0 0 [vR 2, vI i] h Q := by
  have hb : -100 ≤ zrfC N E P i ∧ zrfC N E P i ≤ 100 := by unfold zrfC; split; omega; split <;> omega
  have zo2 := hW.ob
  have zo3 := hW.nw.2.1
  refine zC.of zpl_X9 (Nat.le_of_ble_eq_true rfl) ?_
  refine z_aload_n 1 dX9_change_0 rfl rfl ?_
  refine z_getf (ci := 9) 4 dX9_change_1 rfl rfl zin_9 0 (by decide) zw_224 (by first | with_reducible assumption | with_reducible exact zup_same _ _ _) rfl ?_
  refine z_iload_n 5 dX9_change_4 rfl rfl ?_
  refine z_cS2 8 dX9_change_5 rfl kX9_refusalOfChange zw_568 (Nat.le_of_ble_eq_true rfl) ⟨Nat.le_refl _, Nat.le_refl _⟩ ?_
  refine c_X9_refusalOfChange hW.nw hO hi ?_
  refine z_istore_n 9 dX9_change_8 rfl (by decide) ?_
  refine z_iload_n 10 dX9_change_9 rfl rfl ?_
  refine z_if_eq 15 13 dX9_change_10 (by decide) rfl (by first | omega | exact zr_b _ | exact zr_and _ _ | exact zr_or _ _ | exact zr_shl _ _) (fun c10 => ?_) (fun c10 => ?_)
  · exact absurd c10 hr
  · try replace c10 := zb_1 c10
    refine z_iload_n 14 dX9_change_13 rfl rfl ?_
    refine z_ret dX9_change_14 (by first | exact True.intro | exact Or.inl rfl | exact Or.inr rfl | exact zb_01 _ | assumption | (show _ ∨ _; omega)) ⟨Nat.le_refl _, Nat.le_refl _⟩ ?_
    exact hQ
theorem c_X9_change {i : Int} (hW : zCW h (N, M, D, G, E, P) U C l fi ct S fl Kp W Kt c sd O) (hO : zOK 9 N D G E P) (hM : M ≤ 3) (hrg : 0 ≤ fi ∧ fi < 14 ∧ 0 ≤ ct ∧ ct ≤ 14) (hi : -2147483648 ≤ i ∧ i ≤ 2147483647) (hr : zrfC N E P i = 0)
    (hQ : ∀ h' : zH, zCW h' (N, M, D, G, E, zst (zst P i (P (i + 1))) (i + 1) (P i)) U C l (zfi fi ct) (zcm ct + 1) (fun i => if i = zjj fi ct then (N, M, D, G, E, P) else S i) fl Kp W Kt c sd O → zMod 2 111 h h' → Q (some (vI (zLAST D G E (zst (zst P i (P (i + 1))) (i + 1) (P i)) N M))) h') : zC (d + 4) mX9_change 0 0 [vR 2, vI i] h Q := by
  have hN := hO.1
  have hpt : (0 ≤ i ∧ i + 1 < N) ∧ E (P (i + 1)) ≠ P i := by
    unfold zrfC at hr
    by_cases e : ¬ (0 ≤ i ∧ i + 1 < N)
    · rw [if_pos e] at hr; omega
    · rw [if_neg e] at hr
      by_cases e2 : E (P (i + 1)) = P i
      · rw [if_pos e2] at hr; omega
      · exact ⟨by omega, e2⟩
  have hO' := zchange_ok (i := i.toNat) hO (by omega) (by rw [show ((i.toNat : Nat) : Int) = i by omega]; exact hpt.2)
  rw [show ((i.toNat : Nat) : Int) = i by omega] at hO'
  have zo2 := hW.ob
  have zo3 := hW.nw.2.1
  have zo22 := hW.ac
  refine zC.of zpl_X9 (Nat.le_of_ble_eq_true rfl) ?_
  refine z_aload_n 1 dX9_change_0 rfl rfl ?_
  refine z_getf (ci := 9) 4 dX9_change_1 rfl rfl zin_9 0 (by decide) zw_224 (by first | with_reducible assumption | with_reducible exact zup_same _ _ _) rfl ?_
  refine z_iload_n 5 dX9_change_4 rfl rfl ?_
  refine z_cS2 8 dX9_change_5 rfl kX9_refusalOfChange zw_568 (Nat.le_of_ble_eq_true rfl) ⟨Nat.le_refl _, Nat.le_refl _⟩ ?_
  refine c_X9_refusalOfChange hW.nw hO hi ?_
  refine z_istore_n 9 dX9_change_8 rfl (by decide) ?_
  refine z_iload_n 10 dX9_change_9 rfl rfl ?_
  refine z_if_eq 15 13 dX9_change_10 (by decide) rfl (by first | omega | exact zr_b _ | exact zr_and _ _ | exact zr_or _ _ | exact zr_shl _ _) (fun c10 => ?_) (fun c10 => ?_)
  · try replace c10 := zb_0 c10
    refine z_aload_n 16 dX9_change_15 rfl rfl ?_
    refine z_getf (ci := 9) 19 dX9_change_16 rfl rfl zin_9 6 (by decide) zw_230 (by first | with_reducible assumption | with_reducible exact zup_same _ _ _) rfl ?_
    refine z_aload_n 20 dX9_change_19 rfl rfl ?_
    refine z_getf (ci := 9) 23 dX9_change_20 rfl rfl zin_9 0 (by decide) zw_224 (by first | with_reducible assumption | with_reducible exact zup_same _ _ _) rfl ?_
    refine z_cV1 26 dX9_change_23 rfl kX0_remember zw_542 (Nat.le_of_ble_eq_true rfl) ⟨Nat.le_refl _, Nat.le_refl _⟩ (by first | with_reducible assumption | with_reducible exact zup_same _ _ _) ?_
    refine w_rem hW hrg (fun h1 hW1 hF1 => ?_)
    have zo2 := hW1.ob
    have zo3 := hW1.nw.2.1
    refine z_aload_n 27 dX9_change_26 rfl rfl ?_
    refine z_getf (ci := 9) 30 dX9_change_27 rfl rfl zin_9 0 (by decide) zw_224 (by first | with_reducible assumption | with_reducible exact zup_same _ _ _) rfl ?_
    refine z_iload_n 31 dX9_change_30 rfl rfl ?_
    refine z_cV1 34 dX9_change_31 rfl kX6_exchange zw_571 (Nat.le_of_ble_eq_true rfl) ⟨Nat.le_refl _, Nat.le_refl _⟩ (by first | with_reducible assumption | with_reducible exact zup_same _ _ _) ?_
    refine c_X6_exchange hW1.nw (by omega) ?_
    have m2 : zMod 3 7 h1 (zup h1 (3 + 4) (zI 8 (zst (zst P i (P (i + 1))) (i + 1) (P i)))) := (zMod.rf _ _ h1).up _ (by omega)
    have hW2 := hW1.nw_set (T' := (N, M, D, G, E, zst (zst P i (P (i + 1))) (i + 1) (P i))) m2 (hW1.nw.pl (zst (zst P i (P (i + 1))) (i + 1) (P i)))
    have zo2 := hW2.ob
    have zo3 := hW2.nw.2.1
    obtain ⟨K, F, hX, hK0⟩ := hW2.ti
    have zo13 := hX.2.1
    refine z_aload_n 35 dX9_change_34 rfl rfl ?_
    refine z_getf (ci := 9) 38 dX9_change_35 rfl rfl zin_9 2 (by decide) zw_226 (by first | with_reducible assumption | with_reducible exact zup_same _ _ _) rfl ?_
    refine z_aload_n 39 dX9_change_38 rfl rfl ?_
    refine z_getf (ci := 9) 42 dX9_change_39 rfl rfl zin_9 0 (by decide) zw_224 (by first | with_reducible assumption | with_reducible exact zup_same _ _ _) rfl ?_
    refine z_cV1 45 dX9_change_42 rfl kX8_follow zw_357 (Nat.le_of_ble_eq_true rfl) ⟨Nat.le_refl _, Nat.le_refl _⟩ (by first | with_reducible assumption | with_reducible exact zup_same _ _ _) ?_
    refine w_fol3 hW2 hO' hM (fun h3 K3 F3 hW3 hX3 hT3 hF3 => ?_)
    refine z_ret dX9_change_45 (by first | exact True.intro | exact Or.inl rfl | exact Or.inr rfl | exact zb_01 _ | assumption | (show _ ∨ _; omega)) ⟨Nat.le_refl _, Nat.le_refl _⟩ ?_
    exact hQ _ hW3 (hF1.tr ((m2.wd (by omega)).tr hF3))
  · exact absurd hr c10
theorem c_X9_quicken (hW : zCW h (N, M, D, G, E, P) U C l fi ct S fl Kp W Kt c sd O) (hO : zOK 9 N D G E P) (hM : M ≤ 3) (hrg : 0 ≤ fi ∧ fi < 14 ∧ 0 ≤ ct ∧ ct ≤ 14)
    (hQ : ∀ h' : zH, zCW h' (N, M, D, G, (zQK D G E P N).1, (zQK D G E P N).2) U C l (zfi fi ct) (zcm ct + 1) (fun i => if i = zjj fi ct then (N, M, D, G, E, P) else S i) fl Kp W Kt c sd O → zMod 2 111 h h' → Q (some (vI (zLAST D G (zQK D G E P N).1 (zQK D G E P N).2 N M))) h') : zC (d + 5) mX9_quicken 0 0 [vR 2] h Q := by
  have zo2 := hW.ob
  have zo3 := hW.nw.2.1
  have zo22 := hW.ac
  refine zC.of zpl_X9 (Nat.le_of_ble_eq_true rfl) ?_
  refine z_aload_n 1 dX9_quicken_0 rfl rfl ?_
  refine z_getf (ci := 9) 4 dX9_quicken_1 rfl rfl zin_9 6 (by decide) zw_230 (by first | with_reducible assumption | with_reducible exact zup_same _ _ _) rfl ?_
  refine z_aload_n 5 dX9_quicken_4 rfl rfl ?_
  refine z_getf (ci := 9) 8 dX9_quicken_5 rfl rfl zin_9 0 (by decide) zw_224 (by first | with_reducible assumption | with_reducible exact zup_same _ _ _) rfl ?_
  refine z_cV1 11 dX9_quicken_8 rfl kX0_remember zw_542 (Nat.le_of_ble_eq_true rfl) ⟨Nat.le_refl _, Nat.le_refl _⟩ (by first | with_reducible assumption | with_reducible exact zup_same _ _ _) ?_
  refine w_rem hW hrg (fun h1 hW1 hF1 => ?_)
  have zo2 := hW1.ob
  have zo3 := hW1.nw.2.1
  obtain ⟨V, w, hY⟩ := hW1.tl
  have zo16 := hY.2.1
  refine z_aload_n 12 dX9_quicken_11 rfl rfl ?_
  refine z_getf (ci := 9) 15 dX9_quicken_12 rfl rfl zin_9 3 (by decide) zw_227 (by first | with_reducible assumption | with_reducible exact zup_same _ _ _) rfl ?_
  refine z_aload_n 16 dX9_quicken_15 rfl rfl ?_
  refine z_getf (ci := 9) 19 dX9_quicken_16 rfl rfl zin_9 0 (by decide) zw_224 (by first | with_reducible assumption | with_reducible exact zup_same _ _ _) rfl ?_
  refine z_cV1 22 dX9_quicken_19 rfl kX5_layQuickPlan zw_417 (Nat.le_of_ble_eq_true rfl) ⟨Nat.le_refl _, Nat.le_refl _⟩ (by first | with_reducible assumption | with_reducible exact zup_same _ _ _) ?_
  refine w_quick3 hW1 hO (by omega) (fun h2 hW2 hF2 => ?_)
  have zo2 := hW2.ob
  have zo3 := hW2.nw.2.1
  obtain ⟨K, F, hX, hK0⟩ := hW2.ti
  have zo13 := hX.2.1
  refine z_aload_n 23 dX9_quicken_22 rfl rfl ?_
  refine z_getf (ci := 9) 26 dX9_quicken_23 rfl rfl zin_9 2 (by decide) zw_226 (by first | with_reducible assumption | with_reducible exact zup_same _ _ _) rfl ?_
  refine z_aload_n 27 dX9_quicken_26 rfl rfl ?_
  refine z_getf (ci := 9) 30 dX9_quicken_27 rfl rfl zin_9 0 (by decide) zw_224 (by first | with_reducible assumption | with_reducible exact zup_same _ _ _) rfl ?_
  refine z_cV1 33 dX9_quicken_30 rfl kX8_follow zw_357 (Nat.le_of_ble_eq_true rfl) ⟨Nat.le_refl _, Nat.le_refl _⟩ (by first | with_reducible assumption | with_reducible exact zup_same _ _ _) ?_
  refine w_fol3 hW2 (zQK_ok hO (by omega)) hM (fun h3 K3 F3 hW3 hX3 hT3 hF3 => ?_)
  refine z_ret dX9_quicken_33 (by first | exact True.intro | exact Or.inl rfl | exact Or.inr rfl | exact zb_01 _ | assumption | (show _ ∨ _; omega)) ⟨Nat.le_refl _, Nat.le_refl _⟩ ?_
  exact hQ _ hW3 (hF1.tr (hF2.tr hF3))
theorem c_X9_set_no {p w v : Int} (hW : zCW h (N, M, D, G, E, P) U C l fi ct S fl Kp W Kt c sd O) (hN : N ≤ 7) (hp : -2147483648 ≤ p ∧ p ≤ 2147483647) (hw : -2147483648 ≤ w ∧ w ≤ 2147483647) (hv : -2147483648 ≤ v ∧ v ≤ 2147483647) (hr : zrfS N p w v ≠ 0) (hQ : Q (some (vI (zrfS N p w v))) h) : zC (d + 4) mX9_set 0 0 [vR 2, vI p, vI w, vI v] h Q := by
  have hb : -100 ≤ zrfS N p w v ∧ zrfS N p w v ≤ 100 := by
    unfold zrfS
    by_cases e1 : ¬ (0 ≤ p ∧ p < N + 1)
    · rw [if_pos e1]; omega
    · rw [if_neg e1]
      by_cases e2 : w < 0 ∨ 2 < w ∨ (w = 2 ∧ p ≠ 0)
      · rw [if_pos e2]; omega
      · rw [if_neg e2]
        by_cases e3 : v < 1 ∨ (if w = 0 then 9 else if w = 1 then 5 else 3) < v
        · rw [if_pos e3]; omega
        · rw [if_neg e3]; omega
  have zo2 := hW.ob
  have zo3 := hW.nw.2.1
  refine zC.of zpl_X9 (Nat.le_of_ble_eq_true rfl) ?_
  refine z_aload_n 1 dX9_set_0 rfl rfl ?_
  refine z_getf (ci := 9) 4 dX9_set_1 rfl rfl zin_9 0 (by decide) zw_224 (by first | with_reducible assumption | with_reducible exact zup_same _ _ _) rfl ?_
  refine z_iload_n 5 dX9_set_4 rfl rfl ?_
  refine z_iload_n 6 dX9_set_5 rfl rfl ?_
  refine z_iload_n 7 dX9_set_6 rfl rfl ?_
  refine z_cS4 10 dX9_set_7 rfl kX9_refusalOfSet zw_583 (Nat.le_of_ble_eq_true rfl) ⟨Nat.le_refl _, Nat.le_refl _⟩ ?_
  refine c_X9_refusalOfSet hW.nw hN hp hw hv ?_
  refine z_istore 12 dX9_set_10 rfl (by decide) ?_
  refine z_iload 14 dX9_set_12 rfl rfl ?_
  refine z_if_eq 20 17 dX9_set_14 (by decide) rfl (by first | omega | exact zr_b _ | exact zr_and _ _ | exact zr_or _ _ | exact zr_shl _ _) (fun c14 => ?_) (fun c14 => ?_)
  · exact absurd c14 hr
  · try replace c14 := zb_1 c14
    refine z_iload 19 dX9_set_17 rfl rfl ?_
    refine z_ret dX9_set_19 (by first | exact True.intro | exact Or.inl rfl | exact Or.inr rfl | exact zb_01 _ | assumption | (show _ ∨ _; omega)) ⟨Nat.le_refl _, Nat.le_refl _⟩ ?_
    exact hQ
theorem c_X9_set0 {p v : Int} (hW : zCW h (N, M, D, G, E, P) U C l fi ct S fl Kp W Kt c sd O) (hN : N ≤ 7) (hrg : 0 ≤ fi ∧ fi < 14 ∧ 0 ≤ ct ∧ ct ≤ 14) (hp : 0 ≤ p ∧ p ≤ N) (hv : 1 ≤ v ∧ v ≤ 9)
    (hQ : ∀ h' : zH, zCW h' (N, M, zst D p v, G, E, P) U C l (zfi fi ct) (zcm ct + 1) (fun i => if i = zjj fi ct then (N, M, D, G, E, P) else S i) fl Kp W Kt c sd O → zMod 2 111 h h' → Q (some (vI (D p))) h') : zC (d + 4) mX9_set 0 0 [vR 2, vI p, vI 0, vI v] h Q := by
  have hr : zrfS N p 0 v = 0 := by unfold zrfS; rw [if_neg (by omega), if_neg (by omega), if_pos rfl, if_neg (by omega)]
  have zo2 := hW.ob
  have zo3 := hW.nw.2.1
  have zo22 := hW.ac
  refine zC.of zpl_X9 (Nat.le_of_ble_eq_true rfl) ?_
  refine z_aload_n 1 dX9_set_0 rfl rfl ?_
  refine z_getf (ci := 9) 4 dX9_set_1 rfl rfl zin_9 0 (by decide) zw_224 (by first | with_reducible assumption | with_reducible exact zup_same _ _ _) rfl ?_
  refine z_iload_n 5 dX9_set_4 rfl rfl ?_
  refine z_iload_n 6 dX9_set_5 rfl rfl ?_
  refine z_iload_n 7 dX9_set_6 rfl rfl ?_
  refine z_cS4 10 dX9_set_7 rfl kX9_refusalOfSet zw_583 (Nat.le_of_ble_eq_true rfl) ⟨Nat.le_refl _, Nat.le_refl _⟩ ?_
  refine c_X9_refusalOfSet hW.nw hN (by omega) (by omega) (by omega) ?_
  rw [hr]
  refine z_istore 12 dX9_set_10 rfl (by decide) ?_
  refine z_iload 14 dX9_set_12 rfl rfl ?_
  refine z_if_eq 20 17 dX9_set_14 (by decide) rfl (by first | omega | exact zr_b _ | exact zr_and _ _ | exact zr_or _ _ | exact zr_shl _ _) (fun c14 => ?_) (fun c14 => ?_)
  · try replace c14 := zb_0 c14
    refine z_aload_n 21 dX9_set_20 rfl rfl ?_
    refine z_getf (ci := 9) 24 dX9_set_21 rfl rfl zin_9 6 (by decide) zw_230 (by first | with_reducible assumption | with_reducible exact zup_same _ _ _) rfl ?_
    refine z_aload_n 25 dX9_set_24 rfl rfl ?_
    refine z_getf (ci := 9) 28 dX9_set_25 rfl rfl zin_9 0 (by decide) zw_224 (by first | with_reducible assumption | with_reducible exact zup_same _ _ _) rfl ?_
    refine z_cV1 31 dX9_set_28 rfl kX0_remember zw_542 (Nat.le_of_ble_eq_true rfl) ⟨Nat.le_refl _, Nat.le_refl _⟩ (by first | with_reducible assumption | with_reducible exact zup_same _ _ _) ?_
    refine w_rem hW hrg (fun h1 hW1 hF1 => ?_)
    have zo2 := hW1.ob
    have zo3 := hW1.nw.2.1
    refine z_aload_n 32 dX9_set_31 rfl rfl ?_
    refine z_getf (ci := 9) 35 dX9_set_32 rfl rfl zin_9 0 (by decide) zw_224 (by first | with_reducible assumption | with_reducible exact zup_same _ _ _) rfl ?_
    refine z_iload_n 36 dX9_set_35 rfl rfl ?_
    refine z_iload_n 37 dX9_set_36 rfl rfl ?_
    refine z_iload_n 38 dX9_set_37 rfl rfl ?_
    refine z_cV3 41 dX9_set_38 rfl kX6_tellAnew zw_586 (Nat.le_of_ble_eq_true rfl) ⟨Nat.le_refl _, Nat.le_refl _⟩ (by first | with_reducible assumption | with_reducible exact zup_same _ _ _) ?_
    refine c_X6_tellAnew0 hW1.nw (by omega) ?_
    have m2 : zMod 3 7 h1 (zup h1 (3 + 1) (zI 8 (zst D p v))) := (zMod.rf _ _ h1).up _ (by omega)
    refine z_ret dX9_set_41 (by first | exact True.intro | exact Or.inl rfl | exact Or.inr rfl | exact zb_01 _ | assumption | (show _ ∨ _; omega)) ⟨Nat.le_refl _, Nat.le_refl _⟩ ?_
    exact hQ _ (hW1.nw_set (T' := (N, M, zst D p v, G, E, P)) m2 (hW1.nw.dl (zst D p v))) (hF1.tr (m2.wd (by omega)))
  · exact absurd rfl c14
theorem c_X9_set1 {p v : Int} (hW : zCW h (N, M, D, G, E, P) U C l fi ct S fl Kp W Kt c sd O) (hN : N ≤ 7) (hrg : 0 ≤ fi ∧ fi < 14 ∧ 0 ≤ ct ∧ ct ≤ 14) (hp : 0 ≤ p ∧ p ≤ N) (hv : 1 ≤ v ∧ v ≤ 5)
    (hQ : ∀ h' : zH, zCW h' (N, M, D, zst G p v, E, P) U C l (zfi fi ct) (zcm ct + 1) (fun i => if i = zjj fi ct then (N, M, D, G, E, P) else S i) fl Kp W Kt c sd O → zMod 2 111 h h' → Q (some (vI (G p))) h') : zC (d + 4) mX9_set 0 0 [vR 2, vI p, vI 1, vI v] h Q := by
  have hr : zrfS N p 1 v = 0 := by unfold zrfS; rw [if_neg (by omega), if_neg (by omega), if_neg (by omega)]
  have zo2 := hW.ob
  have zo3 := hW.nw.2.1
  have zo22 := hW.ac
  refine zC.of zpl_X9 (Nat.le_of_ble_eq_true rfl) ?_
  refine z_aload_n 1 dX9_set_0 rfl rfl ?_
  refine z_getf (ci := 9) 4 dX9_set_1 rfl rfl zin_9 0 (by decide) zw_224 (by first | with_reducible assumption | with_reducible exact zup_same _ _ _) rfl ?_
  refine z_iload_n 5 dX9_set_4 rfl rfl ?_
  refine z_iload_n 6 dX9_set_5 rfl rfl ?_
  refine z_iload_n 7 dX9_set_6 rfl rfl ?_
  refine z_cS4 10 dX9_set_7 rfl kX9_refusalOfSet zw_583 (Nat.le_of_ble_eq_true rfl) ⟨Nat.le_refl _, Nat.le_refl _⟩ ?_
  refine c_X9_refusalOfSet hW.nw hN (by omega) (by omega) (by omega) ?_
  rw [hr]
  refine z_istore 12 dX9_set_10 rfl (by decide) ?_
  refine z_iload 14 dX9_set_12 rfl rfl ?_
  refine z_if_eq 20 17 dX9_set_14 (by decide) rfl (by first | omega | exact zr_b _ | exact zr_and _ _ | exact zr_or _ _ | exact zr_shl _ _) (fun c14 => ?_) (fun c14 => ?_)
  · try replace c14 := zb_0 c14
    refine z_aload_n 21 dX9_set_20 rfl rfl ?_
    refine z_getf (ci := 9) 24 dX9_set_21 rfl rfl zin_9 6 (by decide) zw_230 (by first | with_reducible assumption | with_reducible exact zup_same _ _ _) rfl ?_
    refine z_aload_n 25 dX9_set_24 rfl rfl ?_
    refine z_getf (ci := 9) 28 dX9_set_25 rfl rfl zin_9 0 (by decide) zw_224 (by first | with_reducible assumption | with_reducible exact zup_same _ _ _) rfl ?_
    refine z_cV1 31 dX9_set_28 rfl kX0_remember zw_542 (Nat.le_of_ble_eq_true rfl) ⟨Nat.le_refl _, Nat.le_refl _⟩ (by first | with_reducible assumption | with_reducible exact zup_same _ _ _) ?_
    refine w_rem hW hrg (fun h1 hW1 hF1 => ?_)
    have zo2 := hW1.ob
    have zo3 := hW1.nw.2.1
    refine z_aload_n 32 dX9_set_31 rfl rfl ?_
    refine z_getf (ci := 9) 35 dX9_set_32 rfl rfl zin_9 0 (by decide) zw_224 (by first | with_reducible assumption | with_reducible exact zup_same _ _ _) rfl ?_
    refine z_iload_n 36 dX9_set_35 rfl rfl ?_
    refine z_iload_n 37 dX9_set_36 rfl rfl ?_
    refine z_iload_n 38 dX9_set_37 rfl rfl ?_
    refine z_cV3 41 dX9_set_38 rfl kX6_tellAnew zw_586 (Nat.le_of_ble_eq_true rfl) ⟨Nat.le_refl _, Nat.le_refl _⟩ (by first | with_reducible assumption | with_reducible exact zup_same _ _ _) ?_
    refine c_X6_tellAnew1 hW1.nw (by omega) ?_
    have m2 : zMod 3 7 h1 (zup h1 (3 + 2) (zI 8 (zst G p v))) := (zMod.rf _ _ h1).up _ (by omega)
    refine z_ret dX9_set_41 (by first | exact True.intro | exact Or.inl rfl | exact Or.inr rfl | exact zb_01 _ | assumption | (show _ ∨ _; omega)) ⟨Nat.le_refl _, Nat.le_refl _⟩ ?_
    exact hQ _ (hW1.nw_set (T' := (N, M, D, zst G p v, E, P)) m2 (hW1.nw.gp (zst G p v))) (hF1.tr (m2.wd (by omega)))
  · exact absurd rfl c14
theorem c_X9_set2 {v : Int} (hW : zCW h (N, M, D, G, E, P) U C l fi ct S fl Kp W Kt c sd O) (hN : N ≤ 7) (hrg : 0 ≤ fi ∧ fi < 14 ∧ 0 ≤ ct ∧ ct ≤ 14) (hv : 1 ≤ v ∧ v ≤ 3)
    (hQ : ∀ h' : zH, zCW h' (N, v.toNat, D, G, E, P) U C l (zfi fi ct) (zcm ct + 1) (fun i => if i = zjj fi ct then (N, M, D, G, E, P) else S i) fl Kp W Kt c sd O → zMod 2 111 h h' → Q (some (vI M)) h') : zC (d + 4) mX9_set 0 0 [vR 2, vI 0, vI 2, vI v] h Q := by
  have hr : zrfS N 0 2 v = 0 := by unfold zrfS; rw [if_neg (by omega), if_neg (by omega), if_neg (by omega)]
  have ev : ((v.toNat : Nat) : Int) = v := by omega
  have zo2 := hW.ob
  have zo3 := hW.nw.2.1
  have zo22 := hW.ac
  refine zC.of zpl_X9 (Nat.le_of_ble_eq_true rfl) ?_
  refine z_aload_n 1 dX9_set_0 rfl rfl ?_
  refine z_getf (ci := 9) 4 dX9_set_1 rfl rfl zin_9 0 (by decide) zw_224 (by first | with_reducible assumption | with_reducible exact zup_same _ _ _) rfl ?_
  refine z_iload_n 5 dX9_set_4 rfl rfl ?_
  refine z_iload_n 6 dX9_set_5 rfl rfl ?_
  refine z_iload_n 7 dX9_set_6 rfl rfl ?_
  refine z_cS4 10 dX9_set_7 rfl kX9_refusalOfSet zw_583 (Nat.le_of_ble_eq_true rfl) ⟨Nat.le_refl _, Nat.le_refl _⟩ ?_
  refine c_X9_refusalOfSet hW.nw hN (by omega) (by omega) (by omega) ?_
  rw [hr]
  refine z_istore 12 dX9_set_10 rfl (by decide) ?_
  refine z_iload 14 dX9_set_12 rfl rfl ?_
  refine z_if_eq 20 17 dX9_set_14 (by decide) rfl (by first | omega | exact zr_b _ | exact zr_and _ _ | exact zr_or _ _ | exact zr_shl _ _) (fun c14 => ?_) (fun c14 => ?_)
  · try replace c14 := zb_0 c14
    refine z_aload_n 21 dX9_set_20 rfl rfl ?_
    refine z_getf (ci := 9) 24 dX9_set_21 rfl rfl zin_9 6 (by decide) zw_230 (by first | with_reducible assumption | with_reducible exact zup_same _ _ _) rfl ?_
    refine z_aload_n 25 dX9_set_24 rfl rfl ?_
    refine z_getf (ci := 9) 28 dX9_set_25 rfl rfl zin_9 0 (by decide) zw_224 (by first | with_reducible assumption | with_reducible exact zup_same _ _ _) rfl ?_
    refine z_cV1 31 dX9_set_28 rfl kX0_remember zw_542 (Nat.le_of_ble_eq_true rfl) ⟨Nat.le_refl _, Nat.le_refl _⟩ (by first | with_reducible assumption | with_reducible exact zup_same _ _ _) ?_
    refine w_rem hW hrg (fun h1 hW1 hF1 => ?_)
    have zo2 := hW1.ob
    have zo3 := hW1.nw.2.1
    refine z_aload_n 32 dX9_set_31 rfl rfl ?_
    refine z_getf (ci := 9) 35 dX9_set_32 rfl rfl zin_9 0 (by decide) zw_224 (by first | with_reducible assumption | with_reducible exact zup_same _ _ _) rfl ?_
    refine z_iload_n 36 dX9_set_35 rfl rfl ?_
    refine z_iload_n 37 dX9_set_36 rfl rfl ?_
    refine z_iload_n 38 dX9_set_37 rfl rfl ?_
    refine z_cV3 41 dX9_set_38 rfl kX6_tellAnew zw_586 (Nat.le_of_ble_eq_true rfl) ⟨Nat.le_refl _, Nat.le_refl _⟩ (by first | with_reducible assumption | with_reducible exact zup_same _ _ _) ?_
    refine c_X6_tellAnew2 hW1.nw ?_
    have m2 : zMod 3 7 h1 (zup h1 3 (zO 6 [vI ((N + 1 : Nat) : Int), vI v, vI N, vR (3 + 1), vR (3 + 2), vR (3 + 3), vR (3 + 4)])) := (zMod.rf _ _ h1).up _ (by omega)
    have t2 := hW1.nw.fd ((N + 1 : Nat) : Int) v N
    rw [← ev] at t2 m2 ⊢
    refine z_ret dX9_set_41 (by first | exact True.intro | exact Or.inl rfl | exact Or.inr rfl | exact zb_01 _ | assumption | (show _ ∨ _; omega)) ⟨Nat.le_refl _, Nat.le_refl _⟩ ?_
    exact hQ _ (hW1.nw_set (T' := (N, v.toNat, D, G, E, P)) m2 t2) (hF1.tr (m2.wd (by omega)))
  · exact absurd rfl c14
theorem c_X9_undo_no (hW : zCW h T U C l fi 0 S fl Kp W Kt c sd O) (hQ : Q (some (vI (-3))) h) : zC (d + 4) mX9_undo 0 0 [vR 2] h Q := by
  have zo2 := hW.ob
  have zo22 := hW.ac
  refine zC.of zpl_X9 (Nat.le_of_ble_eq_true rfl) ?_
  refine z_aload_n 1 dX9_undo_0 rfl rfl ?_
  refine z_getf (ci := 9) 4 dX9_undo_1 rfl rfl zin_9 6 (by decide) zw_230 (by first | with_reducible assumption | with_reducible exact zup_same _ _ _) rfl ?_
  refine z_aload_n 5 dX9_undo_4 rfl rfl ?_
  refine z_getf (ci := 9) 8 dX9_undo_5 rfl rfl zin_9 0 (by decide) zw_224 (by first | with_reducible assumption | with_reducible exact zup_same _ _ _) rfl ?_
  refine z_cV1 11 dX9_undo_8 rfl kX0_takeBack zw_598 (Nat.le_of_ble_eq_true rfl) ⟨Nat.le_refl _, Nat.le_refl _⟩ (by first | with_reducible assumption | with_reducible exact zup_same _ _ _) ?_
  refine c_X0_takeBack_no hW.ac ?_
  refine z_if_eq 24 14 dX9_undo_11 (by decide) rfl (by first | omega | exact zr_b _ | exact zr_and _ _ | exact zr_or _ _ | exact zr_shl _ _) (fun c11 => ?_) (fun c11 => ?_)
  · try replace c11 := zb_0 c11
    refine z_bipush 26 dX9_undo_24 rfl (by decide) ?_
    refine z_ret dX9_undo_26 (by first | exact True.intro | exact Or.inl rfl | exact Or.inr rfl | exact zb_01 _ | assumption | (show _ ∨ _; omega)) ⟨Nat.le_refl _, Nat.le_refl _⟩ ?_
    exact hQ
  · exact absurd rfl c11
theorem c_X9_undo (hW : zCW h T U C l fi ct S fl Kp W Kt c sd O) (hrg : 0 ≤ fi ∧ fi < 14 ∧ 0 < ct ∧ ct ≤ 14) (hQ : ∀ h' : zH, zCW h' (S ((fi + (ct - 1)) % 14).toNat) U C l fi (ct - 1) S fl Kp W Kt c sd O → zMod 2 111 h h' → Q (some (vI (ct - 1))) h') : zC (d + 4) mX9_undo 0 0 [vR 2] h Q := by
  obtain ⟨N, M, D, G, E, P⟩ := T
  have hU := hW.sv ((fi + (ct - 1)) % 14).toNat (by omega)
  generalize hS : S ((fi + (ct - 1)) % 14).toNat = Sj at hU hQ
  obtain ⟨N1, M1, D1, G1, E1, P1⟩ := Sj
  have zo2 := hW.ob
  have zo3 := hW.nw.2.1
  have zo22 := hW.ac
  refine zC.of zpl_X9 (Nat.le_of_ble_eq_true rfl) ?_
  refine z_aload_n 1 dX9_undo_0 rfl rfl ?_
  refine z_getf (ci := 9) 4 dX9_undo_1 rfl rfl zin_9 6 (by decide) zw_230 (by first | with_reducible assumption | with_reducible exact zup_same _ _ _) rfl ?_
  refine z_aload_n 5 dX9_undo_4 rfl rfl ?_
  refine z_getf (ci := 9) 8 dX9_undo_5 rfl rfl zin_9 0 (by decide) zw_224 (by first | with_reducible assumption | with_reducible exact zup_same _ _ _) rfl ?_
  refine z_cV1 11 dX9_undo_8 rfl kX0_takeBack zw_598 (Nat.le_of_ble_eq_true rfl) ⟨Nat.le_refl _, Nat.le_refl _⟩ (by first | with_reducible assumption | with_reducible exact zup_same _ _ _) ?_
  refine c_X0_takeBack (u := 25 + 5 * ((fi + (ct - 1)) % 14).toNat) (by decide) hW.ac hW.s1 hrg rfl hW.nw hU (by omega) (fun h' a b => ?_)
  have m1 : zMod 22 22 h (zup h 22 (zAO 22 fi (ct - 1))) := (zMod.rf _ _ h).up _ (by omega)
  have W1 := hW.ac_set m1 (zup_same _ _ _)
  have W2 := W1.nw_set (T' := (N1, M1, D1, G1, E1, P1)) b a
  have zo2 := W2.ob
  have zo22 := W2.ac
  refine z_if_eq 24 14 dX9_undo_11 (by decide) rfl (by first | omega | exact zr_b _ | exact zr_and _ _ | exact zr_or _ _ | exact zr_shl _ _) (fun c11 => ?_) (fun c11 => ?_)
  · exfalso; omega
  · try replace c11 := zb_1 c11
    refine z_aload_n 15 dX9_undo_14 rfl rfl ?_
    refine z_getf (ci := 9) 18 dX9_undo_15 rfl rfl zin_9 6 (by decide) zw_230 (by first | with_reducible assumption | with_reducible exact zup_same _ _ _) rfl ?_
    refine z_cV0 21 dX9_undo_18 rfl kX0_count zw_470 (Nat.le_of_ble_eq_true rfl) ⟨Nat.le_refl _, Nat.le_refl _⟩ (by first | with_reducible assumption | with_reducible exact zup_same _ _ _) ?_
    refine c_X0_count W2.ac ?_
    refine z_goto 26 dX9_undo_21 (by decide) ?_
    refine z_ret dX9_undo_26 (by first | exact True.intro | exact Or.inl rfl | exact Or.inr rfl | exact zb_01 _ | assumption | (show _ ∨ _; omega)) ⟨Nat.le_refl _, Nat.le_refl _⟩ ?_
    exact hQ _ W2 ((m1.wd (by omega)).tr (b.wd (by omega)))
theorem c_X9_keep_no {i : Int} (hi : (-2147483648 ≤ i ∧ i ≤ 2147483647) ∧ ¬ (0 ≤ i ∧ i < 2)) (hQ : Q (some (vI (-1))) h) : zC (d + 4) mX9_keep 0 0 [vR 2, vI i] h Q := by
  refine zC.of zpl_X9 (Nat.le_of_ble_eq_true rfl) ?_
  refine z_iload_n 1 dX9_keep_0 rfl rfl ?_
  refine z_if_lt 9 4 dX9_keep_1 (by decide) rfl (by first | omega | exact zr_b _ | exact zr_and _ _ | exact zr_or _ _ | exact zr_shl _ _) (fun c1 => ?_) (fun c1 => ?_)
  · refine z_iconst 10 dX9_keep_9 rfl ?_
    refine z_ret dX9_keep_10 (by first | exact True.intro | exact Or.inl rfl | exact Or.inr rfl | exact zb_01 _ | assumption | (show _ ∨ _; omega)) ⟨Nat.le_refl _, Nat.le_refl _⟩ ?_
    exact hQ
  · refine z_iload_n 5 dX9_keep_4 rfl rfl ?_
    refine z_iconst 6 dX9_keep_5 rfl ?_
    refine z_icmp_lt 11 9 dX9_keep_6 (by decide) rfl (by first | omega | exact zr_b _ | exact zr_and _ _ | exact zr_or _ _ | exact zr_shl _ _) (by first | omega | exact zr_b _ | exact zr_and _ _ | exact zr_or _ _ | exact zr_shl _ _) (fun c6 => ?_) (fun c6 => ?_)
    · exfalso; omega
    · refine z_iconst 10 dX9_keep_9 rfl ?_
      refine z_ret dX9_keep_10 (by first | exact True.intro | exact Or.inl rfl | exact Or.inr rfl | exact zb_01 _ | assumption | (show _ ∨ _; omega)) ⟨Nat.le_refl _, Nat.le_refl _⟩ ?_
      exact hQ
theorem c_X9_keep {i : Int} (hW : zCW h (N, M, D, G, E, P) U C l fi ct S fl Kp W Kt c sd O) (hO : zOK 9 N D G E P) (hM : M ≤ 3) (hi : 0 ≤ i ∧ i < 2) (hQ : ∀ h' : zH, zCW h' (N, M, D, G, E, P) U C l fi ct S (zor fl (zshl 1 i)) (fun j => if j = i.toNat then (N, M, D, G, E, P) else Kp j) W Kt c sd O → zMod 2 111 h h' → Q (some (vI (zLAST D G E P N M))) h') : zC (d + 4) mX9_keep 0 0 [vR 2, vI i] h Q := by
  have hU := hW.kp i.toNat (by omega)
  generalize hS : Kp i.toNat = Sj at hU
  obtain ⟨N1, M1, D1, G1, E1, P1⟩ := Sj
  have zo2 := hW.ob
  have zo3 := hW.nw.2.1
  have zo95 := hW.sl
  refine zC.of zpl_X9 (Nat.le_of_ble_eq_true rfl) ?_
  refine z_iload_n 1 dX9_keep_0 rfl rfl ?_
  refine z_if_lt 9 4 dX9_keep_1 (by decide) rfl (by first | omega | exact zr_b _ | exact zr_and _ _ | exact zr_or _ _ | exact zr_shl _ _) (fun c1 => ?_) (fun c1 => ?_)
  · exfalso; omega
  · refine z_iload_n 5 dX9_keep_4 rfl rfl ?_
    refine z_iconst 6 dX9_keep_5 rfl ?_
    refine z_icmp_lt 11 9 dX9_keep_6 (by decide) rfl (by first | omega | exact zr_b _ | exact zr_and _ _ | exact zr_or _ _ | exact zr_shl _ _) (by first | omega | exact zr_b _ | exact zr_and _ _ | exact zr_or _ _ | exact zr_shl _ _) (fun c6 => ?_) (fun c6 => ?_)
    · refine z_aload_n 12 dX9_keep_11 rfl rfl ?_
      refine z_getf (ci := 9) 15 dX9_keep_12 rfl rfl zin_9 7 (by decide) zw_231 (by first | with_reducible assumption | with_reducible exact zup_same _ _ _) rfl ?_
      refine z_iload_n 16 dX9_keep_15 rfl rfl ?_
      refine z_aload_n 17 dX9_keep_16 rfl rfl ?_
      refine z_getf (ci := 9) 20 dX9_keep_17 rfl rfl zin_9 0 (by decide) zw_224 (by first | with_reducible assumption | with_reducible exact zup_same _ _ _) rfl ?_
      refine z_cV2 23 dX9_keep_20 rfl kX4_fill zw_744 (Nat.le_of_ble_eq_true rfl) ⟨Nat.le_refl _, Nat.le_refl _⟩ (by first | with_reducible assumption | with_reducible exact zup_same _ _ _) ?_
      refine c_X4_fill (u := 98 + 5 * i.toNat) (by decide) hW.sl hW.s2 hi rfl hW.nw hU (by omega) (fun h' a b => ?_)
      have W1 := hW.kp_set (Kp' := fun j => if j = i.toNat then (N, M, D, G, E, P) else Kp j) (b.wd (by omega)) (fun j hj => by
        try dsimp only
        by_cases e : j = i.toNat
        · rw [if_pos e, e]; exact a
        · rw [if_neg e]; exact (hW.kp j hj).mod b (by omega))
      have m2 : zMod 95 95 h' (zup h' 95 (zSO 95 (zor fl (zshl 1 i)))) := (zMod.rf _ _ h').up _ (by omega)
      have W2 := W1.sl_set m2 (zup_same _ _ _)
      have zo2 := W2.ob
      have zo3 := W2.nw.2.1
      obtain ⟨K, F, hX, hK0⟩ := W2.ti
      have zo13 := hX.2.1
      refine z_aload_n 24 dX9_keep_23 rfl rfl ?_
      refine z_getf (ci := 9) 27 dX9_keep_24 rfl rfl zin_9 2 (by decide) zw_226 (by first | with_reducible assumption | with_reducible exact zup_same _ _ _) rfl ?_
      refine z_aload_n 28 dX9_keep_27 rfl rfl ?_
      refine z_getf (ci := 9) 31 dX9_keep_28 rfl rfl zin_9 0 (by decide) zw_224 (by first | with_reducible assumption | with_reducible exact zup_same _ _ _) rfl ?_
      refine z_cV1 34 dX9_keep_31 rfl kX8_follow zw_357 (Nat.le_of_ble_eq_true rfl) ⟨Nat.le_refl _, Nat.le_refl _⟩ (by first | with_reducible assumption | with_reducible exact zup_same _ _ _) ?_
      refine w_fol3 W2 hO hM (fun h3 K3 F3 hW3 hX3 hT3 hF3 => ?_)
      refine z_ret dX9_keep_34 (by first | exact True.intro | exact Or.inl rfl | exact Or.inr rfl | exact zb_01 _ | assumption | (show _ ∨ _; omega)) ⟨Nat.le_refl _, Nat.le_refl _⟩ ?_
      exact hQ _ hW3 ((b.wd (by omega)).tr ((m2.wd (by omega)).tr hF3))
    · exfalso; omega
theorem c_X9_again_no {i : Int} (hi : (-2147483648 ≤ i ∧ i ≤ 2147483647) ∧ ¬ (0 ≤ i ∧ i < 2)) (hQ : Q (some (vI (-1))) h) : zC (d + 4) mX9_again 0 0 [vR 2, vI i] h Q := by
  refine zC.of zpl_X9 (Nat.le_of_ble_eq_true rfl) ?_
  refine z_iload_n 1 dX9_again_0 rfl rfl ?_
  refine z_if_lt 9 4 dX9_again_1 (by decide) rfl (by first | omega | exact zr_b _ | exact zr_and _ _ | exact zr_or _ _ | exact zr_shl _ _) (fun c1 => ?_) (fun c1 => ?_)
  · refine z_iconst 10 dX9_again_9 rfl ?_
    refine z_ret dX9_again_10 (by first | exact True.intro | exact Or.inl rfl | exact Or.inr rfl | exact zb_01 _ | assumption | (show _ ∨ _; omega)) ⟨Nat.le_refl _, Nat.le_refl _⟩ ?_
    exact hQ
  · refine z_iload_n 5 dX9_again_4 rfl rfl ?_
    refine z_iconst 6 dX9_again_5 rfl ?_
    refine z_icmp_lt 11 9 dX9_again_6 (by decide) rfl (by first | omega | exact zr_b _ | exact zr_and _ _ | exact zr_or _ _ | exact zr_shl _ _) (by first | omega | exact zr_b _ | exact zr_and _ _ | exact zr_or _ _ | exact zr_shl _ _) (fun c6 => ?_) (fun c6 => ?_)
    · exfalso; omega
    · refine z_iconst 10 dX9_again_9 rfl ?_
      refine z_ret dX9_again_10 (by first | exact True.intro | exact Or.inl rfl | exact Or.inr rfl | exact zb_01 _ | assumption | (show _ ∨ _; omega)) ⟨Nat.le_refl _, Nat.le_refl _⟩ ?_
      exact hQ
theorem c_X9_again_late {i : Int} (hW : zCW h T U C l fi ct S fl Kp W Kt c sd O) (hi : 0 ≤ i ∧ i < 2) (hk : zkb fl i = false) (hQ : Q (some (vI (-3))) h) : zC (d + 4) mX9_again 0 0 [vR 2, vI i] h Q := by
  have zo2 := hW.ob
  have zo95 := hW.sl
  refine zC.of zpl_X9 (Nat.le_of_ble_eq_true rfl) ?_
  refine z_iload_n 1 dX9_again_0 rfl rfl ?_
  refine z_if_lt 9 4 dX9_again_1 (by decide) rfl (by first | omega | exact zr_b _ | exact zr_and _ _ | exact zr_or _ _ | exact zr_shl _ _) (fun c1 => ?_) (fun c1 => ?_)
  · exfalso; omega
  · refine z_iload_n 5 dX9_again_4 rfl rfl ?_
    refine z_iconst 6 dX9_again_5 rfl ?_
    refine z_icmp_lt 11 9 dX9_again_6 (by decide) rfl (by first | omega | exact zr_b _ | exact zr_and _ _ | exact zr_or _ _ | exact zr_shl _ _) (by first | omega | exact zr_b _ | exact zr_and _ _ | exact zr_or _ _ | exact zr_shl _ _) (fun c6 => ?_) (fun c6 => ?_)
    · refine z_aload_n 12 dX9_again_11 rfl rfl ?_
      refine z_getf (ci := 9) 15 dX9_again_12 rfl rfl zin_9 7 (by decide) zw_231 (by first | with_reducible assumption | with_reducible exact zup_same _ _ _) rfl ?_
      refine z_iload_n 16 dX9_again_15 rfl rfl ?_
      refine z_aload_n 17 dX9_again_16 rfl rfl ?_
      refine z_getf (ci := 9) 20 dX9_again_17 rfl rfl zin_9 0 (by decide) zw_224 (by first | with_reducible assumption | with_reducible exact zup_same _ _ _) rfl ?_
      refine z_cV2 23 dX9_again_20 rfl kX4_fetch zw_753 (Nat.le_of_ble_eq_true rfl) ⟨Nat.le_refl _, Nat.le_refl _⟩ (by first | with_reducible assumption | with_reducible exact zup_same _ _ _) ?_
      refine c_X4_fetch_no hW.sl hi hk ?_
      refine z_if_ne 29 26 dX9_again_23 (by decide) rfl (by first | omega | exact zr_b _ | exact zr_and _ _ | exact zr_or _ _ | exact zr_shl _ _) (fun c23 => ?_) (fun c23 => ?_)
      · exact absurd rfl c23
      · try replace c23 := zb_0 c23
        refine z_bipush 28 dX9_again_26 rfl (by decide) ?_
        refine z_ret dX9_again_28 (by first | exact True.intro | exact Or.inl rfl | exact Or.inr rfl | exact zb_01 _ | assumption | (show _ ∨ _; omega)) ⟨Nat.le_refl _, Nat.le_refl _⟩ ?_
        exact hQ
    · exfalso; omega
theorem c_X9_again {i : Int} (hW : zCW h T U C l fi ct S fl Kp W Kt c sd O) (hi : 0 ≤ i ∧ i < 2) (hk : zkb fl i = true) (hS : Kp i.toNat = (N, M, D, G, E, P)) (hO : zOK 9 N D G E P) (hM : M ≤ 3) (hQ : ∀ h' : zH, zCW h' (N, M, D, G, E, P) U C l fi 0 S fl Kp W Kt c sd O → zMod 2 111 h h' → Q (some (vI (zLAST D G E P N M))) h') : zC (d + 4) mX9_again 0 0 [vR 2, vI i] h Q := by
  obtain ⟨N0, M0, D0, G0, E0, P0⟩ := T
  have hU := hW.kp i.toNat (by omega)
  rw [hS] at hU
  have zo2 := hW.ob
  have zo3 := hW.nw.2.1
  have zo95 := hW.sl
  refine zC.of zpl_X9 (Nat.le_of_ble_eq_true rfl) ?_
  refine z_iload_n 1 dX9_again_0 rfl rfl ?_
  refine z_if_lt 9 4 dX9_again_1 (by decide) rfl (by first | omega | exact zr_b _ | exact zr_and _ _ | exact zr_or _ _ | exact zr_shl _ _) (fun c1 => ?_) (fun c1 => ?_)
  · exfalso; omega
  · refine z_iload_n 5 dX9_again_4 rfl rfl ?_
    refine z_iconst 6 dX9_again_5 rfl ?_
    refine z_icmp_lt 11 9 dX9_again_6 (by decide) rfl (by first | omega | exact zr_b _ | exact zr_and _ _ | exact zr_or _ _ | exact zr_shl _ _) (by first | omega | exact zr_b _ | exact zr_and _ _ | exact zr_or _ _ | exact zr_shl _ _) (fun c6 => ?_) (fun c6 => ?_)
    · refine z_aload_n 12 dX9_again_11 rfl rfl ?_
      refine z_getf (ci := 9) 15 dX9_again_12 rfl rfl zin_9 7 (by decide) zw_231 (by first | with_reducible assumption | with_reducible exact zup_same _ _ _) rfl ?_
      refine z_iload_n 16 dX9_again_15 rfl rfl ?_
      refine z_aload_n 17 dX9_again_16 rfl rfl ?_
      refine z_getf (ci := 9) 20 dX9_again_17 rfl rfl zin_9 0 (by decide) zw_224 (by first | with_reducible assumption | with_reducible exact zup_same _ _ _) rfl ?_
      refine z_cV2 23 dX9_again_20 rfl kX4_fetch zw_753 (Nat.le_of_ble_eq_true rfl) ⟨Nat.le_refl _, Nat.le_refl _⟩ (by first | with_reducible assumption | with_reducible exact zup_same _ _ _) ?_
      refine c_X4_fetch (u := 98 + 5 * i.toNat) (by decide) hW.sl hW.s2 hi hk rfl hW.nw hU (by omega) (fun h' a b => ?_)
      have W1 := hW.nw_set (T' := (N, M, D, G, E, P)) b a
      have zo2 := W1.ob
      have zo22 := W1.ac
      refine z_if_ne 29 26 dX9_again_23 (by decide) rfl (by first | omega | exact zr_b _ | exact zr_and _ _ | exact zr_or _ _ | exact zr_shl _ _) (fun c23 => ?_) (fun c23 => ?_)
      · try replace c23 := zb_1 c23
        refine z_aload_n 30 dX9_again_29 rfl rfl ?_
        refine z_getf (ci := 9) 33 dX9_again_30 rfl rfl zin_9 6 (by decide) zw_230 (by first | with_reducible assumption | with_reducible exact zup_same _ _ _) rfl ?_
        refine z_cV0 36 dX9_again_33 rfl kX0_forgetAll zw_349 (Nat.le_of_ble_eq_true rfl) ⟨Nat.le_refl _, Nat.le_refl _⟩ (by first | with_reducible assumption | with_reducible exact zup_same _ _ _) ?_
        refine c_X0_forgetAll (by decide) W1.ac ?_
        have m2 : zMod 22 22 h' (zup h' 22 (zAO 22 fi 0)) := (zMod.rf _ _ h').up _ (by omega)
        have W2 := W1.ac_set m2 (zup_same _ _ _)
        have zo2 := W2.ob
        have zo3 := W2.nw.2.1
        obtain ⟨K, F, hX, hK0⟩ := W2.ti
        have zo13 := hX.2.1
        refine z_aload_n 37 dX9_again_36 rfl rfl ?_
        refine z_getf (ci := 9) 40 dX9_again_37 rfl rfl zin_9 2 (by decide) zw_226 (by first | with_reducible assumption | with_reducible exact zup_same _ _ _) rfl ?_
        refine z_aload_n 41 dX9_again_40 rfl rfl ?_
        refine z_getf (ci := 9) 44 dX9_again_41 rfl rfl zin_9 0 (by decide) zw_224 (by first | with_reducible assumption | with_reducible exact zup_same _ _ _) rfl ?_
        refine z_cV1 47 dX9_again_44 rfl kX8_follow zw_357 (Nat.le_of_ble_eq_true rfl) ⟨Nat.le_refl _, Nat.le_refl _⟩ (by first | with_reducible assumption | with_reducible exact zup_same _ _ _) ?_
        refine w_fol3 W2 hO hM (fun h3 K3 F3 hW3 hX3 hT3 hF3 => ?_)
        refine z_ret dX9_again_47 (by first | exact True.intro | exact Or.inl rfl | exact Or.inr rfl | exact zb_01 _ | assumption | (show _ ∨ _; omega)) ⟨Nat.le_refl _, Nat.le_refl _⟩ ?_
        exact hQ _ hW3 ((b.wd (by omega)).tr ((m2.wd (by omega)).tr hF3))
      · exfalso; omega
    · exfalso; omega
end ACTS
