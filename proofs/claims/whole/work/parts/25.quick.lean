/-! THE QUICK PLAN is in order -/
theorem z_nosurj : ∀ (i N : Nat) (f : Nat → Int), i < N → ¬ (∀ q : Int, 1 ≤ q → q ≤ N → ∃ j, j < i ∧ f j = q) := by
  intro i
  induction i with
  | zero =>
    intro N f hN h
    obtain ⟨j, hj, -⟩ := h 1 (by omega) (by omega)
    omega
  | succ i ih =>
    intro N f hN h
    obtain ⟨N', rfl⟩ : ∃ N', N = N' + 1 := ⟨N - 1, by omega⟩
    refine ih N' (fun j => if f j = ((N' + 1 : Nat) : Int) then f i else f j) (by omega) (fun q h1 h2 => ?_)
    obtain ⟨j, hj, e⟩ := h q h1 (by omega)
    by_cases ej : j = i
    · subst ej
      obtain ⟨j', hj', e'⟩ := h ((N' + 1 : Nat) : Int) (by omega) (by omega)
      have hne : j' ≠ j := fun q => by subst q; omega
      exact ⟨j', by omega, by simp only [e', if_true]; exact e⟩
    · refine ⟨j, by omega, ?_⟩
      show (if f j = ((N' + 1 : Nat) : Int) then f i else f j) = q
      rw [if_neg (by omega), e]
section QUICK
variable {B : Int} {N : Nat} {D G E P V V' : Int → Int} {w : Int}
theorem zlst_un (D G : Int → Int) (w : Int) : ∀ i : Nat, (zlst D G w i ≠ 0 → zkb w (zlst D G w i) = false ∧ 1 ≤ zlst D G w i) ∧ ((∃ q : Nat, 1 ≤ q ∧ q ≤ i ∧ zkb w q = false) → zlst D G w i ≠ 0)
  | 0 => ⟨fun h => absurd rfl h, fun ⟨q, h1, h2, _⟩ => by omega⟩
  | i + 1 => by
    obtain ⟨i1, i2⟩ := zlst_un D G w i
    by_cases e : zkb w ((i + 1 : Nat) : Int) = false ∧ (zlst D G w i = 0 ∨ (if D ((i + 1 : Nat) : Int) = D (zlst D G w i) then G ((i + 1 : Nat) : Int) < G (zlst D G w i) else D ((i + 1 : Nat) : Int) < D (zlst D G w i)))
    · rw [show zlst D G w (i + 1) = ((i + 1 : Nat) : Int) from if_pos e]
      exact ⟨fun _ => ⟨e.1, by omega⟩, fun _ => by omega⟩
    · rw [show zlst D G w (i + 1) = zlst D G w i from if_neg e]
      refine ⟨i1, fun ⟨q, h1, h2, h3⟩ hz => ?_⟩
      by_cases eq : q = i + 1
      · subst eq; exact e ⟨h3, Or.inl hz⟩
      · exact i2 ⟨q, h1, by omega, h3⟩ hz
/-- what holds of the quick plan as it grows -/
def zqI (B : Int) (N : Nat) (i : Nat) (S : zQS) : Prop :=
  (∀ p : Int, 0 ≤ p → p ≤ N → (zkb S.2.1 p = true ↔ p = 0 ∨ ∃ j : Nat, j < i ∧ S.2.2.2 j = p)) ∧ (∀ j : Nat, j < i → 1 ≤ S.2.2.2 j ∧ S.2.2.2 j ≤ N) ∧ (∀ j j' : Nat, j < i → j' < i → S.2.2.2 j = S.2.2.2 j' → j = j') ∧ (∀ j : Nat, j < i → S.2.2.1 (S.2.2.2 j) = 0 ∨ ∃ j' : Nat, j' < j ∧ S.2.2.1 (S.2.2.2 j) = S.2.2.2 j') ∧ (∀ p : Int, 0 ≤ p → p ≤ N → zkb S.2.1 p = true → 0 ≤ S.1 p ∧ S.1 p ≤ 40 + 45 * i)
theorem zqk_s (D G E P V : Int → Int) (N i : Nat) : zqk D G E P V N (i + 1) = (ztV (zqk D G E P V N i).1 D G (zsoon (zqk D G E P V N i).1 (zqk D G E P V N i).2.1 N) (zlst D G (zqk D G E P V N i).2.1 N), zor (zqk D G E P V N i).2.1 (zshl 1 (zlst D G (zqk D G E P V N i).2.1 N)), zst (zqk D G E P V N i).2.2.1 (zlst D G (zqk D G E P V N i).2.1 N) (zsoon (zqk D G E P V N i).1 (zqk D G E P V N i).2.1 N), zst (zqk D G E P V N i).2.2.2 i (zlst D G (zqk D G E P V N i).2.1 N)) := rfl
theorem zqI_all (hN : N ≤ 7) (hB : B ≤ 40) (hd : ∀ p : Int, 0 ≤ p → p ≤ N → 1 ≤ D p ∧ D p ≤ B ∧ 1 ≤ G p ∧ G p ≤ 5) : ∀ i : Nat, i ≤ N → zqI B N i (zqk D G E P V N i) ∧ (∀ i' : Nat, i = i' + 1 → zkb (zqk D G E P V N i').2.1 (zlst D G (zqk D G E P V N i').2.1 N) = false ∧ 1 ≤ zlst D G (zqk D G E P V N i').2.1 N) := by
  intro i
  induction i with
  | zero =>
    intro _
    refine ⟨⟨fun p a b => ?_, fun j hj => absurd hj (by omega), fun j j' hj => absurd hj (by omega), fun j hj => absurd hj (by omega), fun p a b k => ?_⟩, fun i' e => absurd e (by omega)⟩
    · show zkb 1 p = true ↔ _
      rw [zkb_1 (by omega)]
      constructor
      · intro e; exact Or.inl (by simpa using e)
      · rintro (e | ⟨j, hj, -⟩)
        · simpa using e
        · exact absurd hj (by omega)
    · change zkb 1 p = true at k
      rw [zkb_1 (by omega)] at k
      have e : p = 0 := by simpa using k
      subst e
      show 0 ≤ zst V 0 (D 0) 0 ∧ zst V 0 (D 0) 0 ≤ _
      rw [zst_same]
      have := hd 0 (by omega) (by omega)
      omega
  | succ i ih =>
    intro hi
    obtain ⟨⟨q1, q2, q3, q4, q5⟩, -⟩ := ih (by omega)
    rw [zqk_s]
    generalize hS : zqk D G E P V N i = S at q1 q2 q3 q4 q5
    have hk0 : zkb S.2.1 0 = true := (q1 0 (by omega) (by omega)).mpr (Or.inl rfl)
    have ht := zsoon_le S.1 S.2.1 N
    have htk := zsoon_kn (V := S.1) hk0 N
    have hl := zlst_le D G S.2.1 N
    have hex : ∃ q : Nat, 1 ≤ q ∧ q ≤ N ∧ zkb S.2.1 q = false := by
      refine Classical.byContradiction fun hno => z_nosurj i N (fun j => S.2.2.2 j) (by omega) (fun q h1 h2 => ?_)
      have hq : zkb S.2.1 q = true := by
        cases hz : zkb S.2.1 q with
        | true => rfl
        | false => exact absurd ⟨q.toNat, by omega, by omega, by rw [show ((q.toNat : Nat) : Int) = q by omega]; exact hz⟩ hno
      rcases (q1 q (by omega) h2).mp hq with e | e
      · omega
      · exact e
    obtain ⟨u1, u2⟩ := zlst_un D G S.2.1 N
    obtain ⟨un, up⟩ := u1 (u2 hex)
    have hsoon_le := ht
    generalize hp : zlst D G S.2.1 N = p at hl un up
    generalize htt : zsoon S.1 S.2.1 N = t at ht htk
    have hPj : ∀ j : Nat, j < i → S.2.2.2 j ≠ p := fun j hj e => by
      have := (q1 p (by omega) hl.2).mpr (Or.inr ⟨j, hj, e⟩)
      rw [un] at this; exact absurd this (by decide)
    have hP1 : ∀ j : Nat, j < i → zst S.2.2.2 i p j = S.2.2.2 j := fun j hj => zst_ne _ _ (by omega)
    have hP2 : zst S.2.2.2 i p i = p := zst_same _ _ _
    have htp : t ≠ p := fun e => by rw [e, un] at htk; exact absurd htk (by decide)
    refine ⟨⟨fun x a b => ?_, fun j hj => ?_, fun j j' hj hj' => ?_, fun j hj => ?_, fun x a b k => ?_⟩, fun i' e => ?_⟩
    · dsimp only
      rw [zkb_orT (by omega) (by omega), q1 x a b]
      constructor
      · rintro ((e | ⟨j, hj, e⟩) | e)
        · exact Or.inl e
        · exact Or.inr ⟨j, by omega, by rw [hP1 j hj]; exact e⟩
        · exact Or.inr ⟨i, by omega, by rw [hP2]; exact e.symm⟩
      · rintro (e | ⟨j, hj, e⟩)
        · exact Or.inl (Or.inl e)
        · by_cases ej : j = i
          · subst ej; rw [hP2] at e; exact Or.inr e.symm
          · rw [hP1 j (by omega)] at e; exact Or.inl (Or.inr ⟨j, by omega, e⟩)
    · dsimp only
      by_cases ej : j = i
      · subst ej; rw [hP2]; omega
      · rw [hP1 j (by omega)]; exact q2 j (by omega)
    · dsimp only
      by_cases ej : j = i <;> by_cases ej' : j' = i
      · intro _; omega
      · subst ej; rw [hP2, hP1 j' (by omega)]; intro e; exact absurd e.symm (hPj j' (by omega))
      · subst ej'; rw [hP2, hP1 j (by omega)]; intro e; exact absurd e (hPj j (by omega))
      · rw [hP1 j (by omega), hP1 j' (by omega)]; exact q3 j j' (by omega) (by omega)
    · dsimp only
      by_cases ej : j = i
      · subst ej
        rw [hP2, zst_same]
        rcases (q1 t ht.1 ht.2).mp htk with e | ⟨j', hj', e⟩
        · exact Or.inl e
        · exact Or.inr ⟨j', hj', by rw [hP1 j' hj']; exact e.symm⟩
      · rw [hP1 j (by omega), zst_ne _ _ (hPj j (by omega))]
        rcases q4 j (by omega) with e | ⟨j', hj', e⟩
        · exact Or.inl e
        · exact Or.inr ⟨j', hj', by rw [hP1 j' (by omega)]; exact e⟩
    · dsimp only at k ⊢
      have d1 := hd p (by omega) hl.2
      have d2 := hd t ht.1 ht.2
      have vt := q5 t ht.1 ht.2 htk
      by_cases e1 : x = p
      · rw [e1, ztV_p]; omega
      · by_cases e2 : x = t
        · rw [e2, ztV_a _ _ _ htp]; omega
        · rw [ztV_q _ _ _ e1 e2]
          rcases (zkb_orT (by omega) (by omega)).mp k with k | k
          · have := q5 x a b k; omega
          · exact absurd k e1
    · have : i' = i := by omega
      subst this
      rw [hS, hp]
      exact ⟨un, up⟩
/-- it does not depend on what lay in the row before -/
theorem zqk_cg (hN : N ≤ 7) (hB : B ≤ 40) (hd : ∀ p : Int, 0 ≤ p → p ≤ N → 1 ≤ D p ∧ D p ≤ B ∧ 1 ≤ G p ∧ G p ≤ 5) : ∀ i : Nat, i ≤ N → (zqk D G E P V N i).2 = (zqk D G E P V' N i).2 ∧ ∀ p : Int, 0 ≤ p → p ≤ N → zkb (zqk D G E P V N i).2.1 p = true → (zqk D G E P V N i).1 p = (zqk D G E P V' N i).1 p := by
  intro i
  induction i with
  | zero =>
    intro _
    refine ⟨rfl, fun p a b k => ?_⟩
    change zkb 1 p = true at k
    rw [zkb_1 (by omega)] at k
    have e : p = 0 := by simpa using k
    subst e
    show zst V 0 (D 0) 0 = zst V' 0 (D 0) 0
    rw [zst_same, zst_same]
  | succ i ih =>
    intro hi
    obtain ⟨i1, i2⟩ := ih (by omega)
    obtain ⟨hI, -⟩ := zqI_all (E := E) (P := P) (V := V) hN hB hd i (by omega)
    obtain ⟨-, hu⟩ := zqI_all (E := E) (P := P) (V := V) hN hB hd (i + 1) hi
    have hu := hu i rfl
    have hk0 : zkb (zqk D G E P V N i).2.1 0 = true := (hI.1 0 (by omega) (by omega)).mpr (Or.inl rfl)
    have es : zsoon (zqk D G E P V' N i).1 (zqk D G E P V N i).2.1 N = zsoon (zqk D G E P V N i).1 (zqk D G E P V N i).2.1 N := zsoon_cg hk0 (fun p a b k => (i2 p a b k).symm) N (Nat.le_refl _)
    have ht := zsoon_le (zqk D G E P V N i).1 (zqk D G E P V N i).2.1 N
    have htk := zsoon_kn (V := (zqk D G E P V N i).1) hk0 N
    have hl := zlst_le D G (zqk D G E P V N i).2.1 N
    rw [zqk_s, zqk_s, ← i1, es]
    refine ⟨rfl, fun p a b k => ?_⟩
    dsimp only at k ⊢
    have htp : zsoon (zqk D G E P V N i).1 (zqk D G E P V N i).2.1 N ≠ zlst D G (zqk D G E P V N i).2.1 N := fun e => by rw [e, hu.1] at htk; exact absurd htk (by decide)
    have et := i2 _ ht.1 ht.2 htk
    by_cases e1 : p = zlst D G (zqk D G E P V N i).2.1 N
    · rw [e1, ztV_p, ztV_p, et]
    · by_cases e2 : p = zsoon (zqk D G E P V N i).1 (zqk D G E P V N i).2.1 N
      · rw [e2, ztV_a _ _ _ htp, ztV_a _ _ _ htp, et]
      · rw [ztV_q _ _ _ e1 e2, ztV_q _ _ _ e1 e2]
        rcases (zkb_orT (by omega) (by omega)).mp k with k | k
        · exact i2 p a b k
        · exact absurd k e1
/-- tellers and plan of the quick plan -/
def zQK (D G E P : Int → Int) (N : Nat) : (Int → Int) × (Int → Int) := (zqk D G E P (fun _ => 0) N N).2.2
theorem zQK_ok (hO : zOK B N D G E P) (hB : B ≤ 40) : zOK B N D G (zQK D G E P N).1 (zQK D G E P N).2 := by
  obtain ⟨⟨-, q2, q3, q4, -⟩, -⟩ := zqI_all (E := E) (P := P) (V := fun _ => 0) hO.1 hB hO.2.1 N (Nat.le_refl _)
  exact ⟨hO.1, hO.2.1, q2, q3, q4⟩
end QUICK
section WQUICK
variable {d : Nat} {h : zH} {Q : Option zV → zH → Prop} {N M : Nat} {D G E P : Int → Int} {T U : zTD} {C : Int → Int} {l fi ct : Int} {S : Nat → zTD} {fl : Int} {Kp : Nat → zTD} {W Kt : Int → Int} {c sd : Int} {O : Int → Int}
theorem c_quick {B : Int} {y t : Nat} {V : Int → Int} {w : Int} (hY : zTlr h y V w) (hT : zTel h t ((N + 1 : Nat) : Int) M N D G E P) (hx : y + 1 < t ∨ t + 4 < y) (hO : zOK B N D G E P) (hB : B ≤ 40)
    (hQ : ∀ (h' : zH) (V' : Int → Int) (w' : Int), zTlr h' y V' w' → zTel h' t ((N + 1 : Nat) : Int) M N D G (zQK D G E P N).1 (zQK D G E P N).2 → (∀ a : Nat, (a < y ∨ y + 1 < a) → (a < t ∨ t + 4 < a) → h'.1 a = h.1 a) → h'.2 = h.2 → Q none h') : zC (d + 4) mX5_layQuickPlan 0 0 [vR y, vR t] h Q := by
  have hd : ∀ p : Int, 0 ≤ p → p ≤ N → 0 ≤ D p ∧ D p ≤ 1000 ∧ 0 ≤ G p ∧ G p ≤ 1000 := fun p a b => by have := hO.2.1 p a b; omega
  have hN := hO.1
  refine c_X5_layQuickPlan hY hT hx hN hd (fun i hi => ?_) ?_
  · obtain ⟨⟨q1, -, -, -, q5⟩, -⟩ := zqI_all (E := E) (P := P) (V := V) hN hB hO.2.1 i (by omega)
    exact ⟨(q1 0 (by omega) (by omega)).mpr (Or.inl rfl), fun p a b k => by have := q5 p a b k; omega⟩
  · have e := (zqk_cg (E := E) (P := P) (V := V) (V' := fun _ => 0) hN hB hO.2.1 N (Nat.le_refl _)).1
    rw [e]
    refine hQ _ (zqk D G E P V N N).1 (zqk D G E P (fun _ => 0) N N).2.1 ?_ (ztp_Tel (ztl_Tel hT hx _ _) _ _ _) (fun a h1 h2 => ?_) rfl
    · exact ztp_Tlr (ztl_Tlr hY _ _) hx _ _ _
    · rw [(ztp_Mod _ _ _ _ _ _ _).1 a h2, (ztl_Mod _ _ _ _).1 a h1]
theorem zMod.two {lo hi lo2 hi2 : Nat} {h h' : zH} (hl : lo ≤ hi ∧ hi < lo2 ∧ lo2 ≤ hi2) (h1 : ∀ a : Nat, (a < lo2 ∨ hi2 < a) → (a < lo ∨ hi < a) → h'.1 a = h.1 a) (h2 : h'.2 = h.2) : ∃ hm : zH, zMod lo hi h hm ∧ zMod lo2 hi2 hm h' :=
  ⟨(fun a => if lo ≤ a ∧ a ≤ hi then h'.1 a else h.1 a, h.2), ⟨fun a ha => by simp only; rw [if_neg (by omega)], rfl⟩, ⟨fun a ha => by
    simp only
    by_cases e : lo ≤ a ∧ a ≤ hi
    · rw [if_pos e]
    · rw [if_neg e]; exact h1 a ha (by omega), h2⟩⟩
theorem w_quick8 {B : Int} (hW : zCW h T (N, M, D, G, E, P) C l fi ct S fl Kp W Kt c sd O) (hO : zOK B N D G E P) (hB : B ≤ 40) (hQ : ∀ h' : zH, zCW h' T (N, M, D, G, (zQK D G E P N).1, (zQK D G E P N).2) C l fi ct S fl Kp W Kt c sd O → zMod 2 111 h h' → Q none h') : zC (d + 4) mX5_layQuickPlan 0 0 [vR 16, vR 8] h Q := by
  obtain ⟨V, w, hY⟩ := hW.tl
  refine c_quick hY hW.su (by omega) hO hB (fun h' V' w' a b e f => ?_)
  obtain ⟨hm, m1, m2⟩ := zMod.two (lo := 8) (hi := 12) (lo2 := 16) (hi2 := 17) (h := h) (h' := h') (by omega) (fun q q1 q2 => e q q1 q2) f
  have bm : zTelD hm 8 (N, M, D, G, (zQK D G E P N).1, (zQK D G E P N).2) := zTelD.mod (T := (N, M, D, G, (zQK D G E P N).1, (zQK D G E P N).2)) b ⟨fun q hq => (m2.1 q hq).symm, m2.2.symm⟩ (by omega)
  exact hQ h' ((hW.su_set m1 bm).tl_set m2 ⟨V', w', a⟩) ((m1.wd (by omega)).tr (m2.wd (by omega)))
theorem w_quick3 {B : Int} (hW : zCW h (N, M, D, G, E, P) U C l fi ct S fl Kp W Kt c sd O) (hO : zOK B N D G E P) (hB : B ≤ 40) (hQ : ∀ h' : zH, zCW h' (N, M, D, G, (zQK D G E P N).1, (zQK D G E P N).2) U C l fi ct S fl Kp W Kt c sd O → zMod 2 111 h h' → Q none h') : zC (d + 4) mX5_layQuickPlan 0 0 [vR 16, vR 3] h Q := by
  obtain ⟨V, w, hY⟩ := hW.tl
  refine c_quick hY hW.nw (by omega) hO hB (fun h' V' w' a b e f => ?_)
  obtain ⟨hm, m1, m2⟩ := zMod.two (lo := 3) (hi := 7) (lo2 := 16) (hi2 := 17) (h := h) (h' := h') (by omega) (fun q q1 q2 => e q q1 q2) f
  have bm : zTelD hm 3 (N, M, D, G, (zQK D G E P N).1, (zQK D G E P N).2) := zTelD.mod (T := (N, M, D, G, (zQK D G E P N).1, (zQK D G E P N).2)) b ⟨fun q hq => (m2.1 q hq).symm, m2.2.symm⟩ (by omega)
  exact hQ h' ((hW.nw_set m1 bm).tl_set m2 ⟨V', w', a⟩) ((m1.wd (by omega)).tr (m2.wd (by omega)))
theorem c_X9_lastIfQuick (hW : zCW h (N, M, D, G, E, P) U C l fi ct S fl Kp W Kt c sd O) (hO : zOK 9 N D G E P) (hM : M ≤ 3) (hQ : ∀ (h' : zH) (U' : zTD), zCW h' (N, M, D, G, E, P) U' C l fi ct S fl Kp W Kt c sd O → zMod 2 111 h h' → Q (some (vI (zLAST D G (zQK D G E P N).1 (zQK D G E P N).2 N M))) h') : zC (d + 5) mX9_lastIfQuick 0 0 [vR 2] h Q := by
  obtain ⟨N0, M0, D0, G0, E0, P0⟩ := U
  have zo2 := hW.ob
  have zo3 := hW.nw.2.1
  have zo8 := hW.su.2.1
  refine zC.of zpl_X9 (Nat.le_of_ble_eq_true rfl) ?_
  refine z_aload_n 1 dX9_lastIfQuick_0 rfl rfl ?_
  refine z_getf (ci := 9) 4 dX9_lastIfQuick_1 rfl rfl zin_9 1 (by decide) zw_225 (by first | with_reducible assumption | with_reducible exact zup_same _ _ _) rfl ?_
  refine z_aload_n 5 dX9_lastIfQuick_4 rfl rfl ?_
  refine z_getf (ci := 9) 8 dX9_lastIfQuick_5 rfl rfl zin_9 0 (by decide) zw_224 (by first | with_reducible assumption | with_reducible exact zup_same _ _ _) rfl ?_
  refine z_cV1 11 dX9_lastIfQuick_8 rfl kX6_become zw_410 (Nat.le_of_ble_eq_true rfl) ⟨Nat.le_refl _, Nat.le_refl _⟩ (by first | with_reducible assumption | with_reducible exact zup_same _ _ _) ?_
  refine w_bec hW (fun h1 hW1 hF1 => ?_)
  have zo2 := hW1.ob
  have zo8 := hW1.su.2.1
  obtain ⟨V, w, hY⟩ := hW1.tl
  have zo16 := hY.2.1
  refine z_aload_n 12 dX9_lastIfQuick_11 rfl rfl ?_
  refine z_getf (ci := 9) 15 dX9_lastIfQuick_12 rfl rfl zin_9 3 (by decide) zw_227 (by first | with_reducible assumption | with_reducible exact zup_same _ _ _) rfl ?_
  refine z_aload_n 16 dX9_lastIfQuick_15 rfl rfl ?_
  refine z_getf (ci := 9) 19 dX9_lastIfQuick_16 rfl rfl zin_9 1 (by decide) zw_225 (by first | with_reducible assumption | with_reducible exact zup_same _ _ _) rfl ?_
  refine z_cV1 22 dX9_lastIfQuick_19 rfl kX5_layQuickPlan zw_417 (Nat.le_of_ble_eq_true rfl) ⟨Nat.le_refl _, Nat.le_refl _⟩ (by first | with_reducible assumption | with_reducible exact zup_same _ _ _) ?_
  refine w_quick8 hW1 hO (by omega) (fun h2 hW2 hF2 => ?_)
  have zo2 := hW2.ob
  have zo8 := hW2.su.2.1
  obtain ⟨K, F, hX, hK0⟩ := hW2.ti
  have zo13 := hX.2.1
  refine z_aload_n 23 dX9_lastIfQuick_22 rfl rfl ?_
  refine z_getf (ci := 9) 26 dX9_lastIfQuick_23 rfl rfl zin_9 2 (by decide) zw_226 (by first | with_reducible assumption | with_reducible exact zup_same _ _ _) rfl ?_
  refine z_aload_n 27 dX9_lastIfQuick_26 rfl rfl ?_
  refine z_getf (ci := 9) 30 dX9_lastIfQuick_27 rfl rfl zin_9 1 (by decide) zw_225 (by first | with_reducible assumption | with_reducible exact zup_same _ _ _) rfl ?_
  refine z_cV1 33 dX9_lastIfQuick_30 rfl kX8_follow zw_357 (Nat.le_of_ble_eq_true rfl) ⟨Nat.le_refl _, Nat.le_refl _⟩ (by first | with_reducible assumption | with_reducible exact zup_same _ _ _) ?_
  refine w_fol8 hW2 (zQK_ok hO (by omega)) (by omega) hM (fun h3 K3 F3 hW3 hX3 hT3 hF3 => ?_)
  refine z_ret dX9_lastIfQuick_33 (by first | exact True.intro | exact Or.inl rfl | exact Or.inr rfl | exact zb_01 _ | assumption | (show _ ∨ _; omega)) ⟨Nat.le_refl _, Nat.le_refl _⟩ ?_
  exact hQ _ _ hW3 (hF1.tr (hF2.tr hF3))
end WQUICK
