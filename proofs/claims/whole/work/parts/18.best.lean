/-! LateLetters$Tellers: the best -/
def zfold (f : Nat → Int → Int) (a : Int) : Nat → Int
  | 0 => a
  | i + 1 => f i (zfold f a i)
/-- the least LAST from a state on, or found if that is not more: left, next there, knowers, found -/
def zLL (D G : Int → Int) (N : Nat) : Nat → (Int → Int) → Int → Int → Int
  | 0, V, w, fd => min (V (zsoon V w N)) fd
  | 1, V, w, fd => min (V (zsoon V w N)) fd
  | l + 2, V, w, fd => if V (zsoon V w N) < fd then zfold (fun i acc => if zkb w ((i + 1 : Nat) : Int) = true then acc else zLL D G N (l + 1) (ztV V D G (zsoon V w N) ((i + 1 : Nat) : Int)) (zor w (zshl 1 ((i + 1 : Nat) : Int))) acc) fd N else min (V (zsoon V w N)) fd
theorem zsoon_cg {V V' : Int → Int} {w : Int} {N : Nat} (h0 : zkb w 0 = true) (h : ∀ p : Int, 0 ≤ p → p ≤ N → zkb w p = true → V' p = V p) : ∀ i : Nat, i ≤ N → zsoon V' w i = zsoon V w i
  | 0, _ => rfl
  | i + 1, hi => by
    have ih := zsoon_cg h0 h i (by omega)
    have hl := zsoon_le V w i
    unfold zsoon
    rw [ih, h _ (by omega) (by omega) (zsoon_kn h0 i)]
    by_cases hk : zkb w ((i + 1 : Nat) : Int) = true
    · rw [h _ (by omega) (by omega) hk]
    · rw [if_neg (fun q => hk q.1), if_neg (fun q => hk q.1)]
theorem zfold_cg {f g : Nat → Int → Int} {a : Int} : ∀ {n : Nat}, (∀ i, i < n → ∀ x, f i x = g i x) → zfold f a n = zfold g a n
  | 0, _ => rfl
  | n + 1, h => by
    show f n (zfold f a n) = g n (zfold g a n)
    rw [zfold_cg (fun i hi x => h i (by omega) x), h n (by omega)]
theorem zkb_orT {w p q : Int} (hp : 0 ≤ p ∧ p < 32) (hq : 0 ≤ q ∧ q < 32) : zkb (zor w (zshl 1 p)) q = true ↔ zkb w q = true ∨ q = p := by
  rw [zkb_or hp hq]; simp
theorem ztV_p (V D G : Int → Int) (a p : Int) : ztV V D G a p p = V a + D p := by simp [ztV, zst]
theorem ztV_a (V D G : Int → Int) {a p : Int} (h : a ≠ p) : ztV V D G a p a = V a + G a := by simp [ztV, zst, h]
theorem ztV_q (V D G : Int → Int) {a p q : Int} (h : q ≠ p) (h2 : q ≠ a) : ztV V D G a p q = V q := by simp [ztV, zst, h, h2]
theorem zLL_cg {D G : Int → Int} {N : Nat} (hN : N ≤ 7) : ∀ (l : Nat) {V V' : Int → Int} {w fd : Int}, zkb w 0 = true → (∀ p : Int, 0 ≤ p → p ≤ N → zkb w p = true → V' p = V p) → zLL D G N l V' w fd = zLL D G N l V w fd
  | 0, V, V', w, fd, h0, h => by
    have hl := zsoon_le V w N
    show min (V' (zsoon V' w N)) fd = _
    rw [zsoon_cg h0 h N (Nat.le_refl _), h _ (by omega) (by omega) (zsoon_kn h0 N)]; rfl
  | 1, V, V', w, fd, h0, h => by
    have hl := zsoon_le V w N
    show min (V' (zsoon V' w N)) fd = _
    rw [zsoon_cg h0 h N (Nat.le_refl _), h _ (by omega) (by omega) (zsoon_kn h0 N)]; rfl
  | l + 2, V, V', w, fd, h0, h => by
    have hl := zsoon_le V w N
    have hk := zsoon_kn (V := V) h0 N
    unfold zLL
    rw [zsoon_cg h0 h N (Nat.le_refl _), h _ (by omega) (by omega) hk]
    split
    · refine zfold_cg (fun i hi x => ?_)
      split
      · rfl
      · next hn =>
        refine zLL_cg hN (l + 1) ?_ (fun p h1 h2 h3 => ?_)
        · rw [zkb_orT (by omega) (by omega)]; exact Or.inl h0
        · rcases (zkb_orT (by omega) (by omega)).mp h3 with h3 | h3
          · have e1 : p ≠ ((i + 1 : Nat) : Int) := fun e => hn (e ▸ h3)
            by_cases e2 : p = zsoon V w N
            · rw [e2, ztV_a _ _ _ (e2 ▸ e1), ztV_a _ _ _ (e2 ▸ e1), h _ (by omega) (by omega) hk]
            · rw [ztV_q _ _ _ e1 e2, ztV_q _ _ _ e1 e2, h _ h1 h2 h3]
          · rw [h3, ztV_p, ztV_p, h _ (by omega) (by omega) hk]
    · rfl
theorem zfold_rng {f : Nat → Int → Int} {a c : Int} (ha : 0 ≤ a ∧ a ≤ c) : ∀ {n : Nat}, (∀ i, i < n → ∀ x, 0 ≤ x ∧ x ≤ c → 0 ≤ f i x ∧ f i x ≤ x) → 0 ≤ zfold f a n ∧ zfold f a n ≤ a
  | 0, _ => ⟨ha.1, Int.le_refl _⟩
  | n + 1, h => by
    have ih := zfold_rng ha (n := n) (fun i hi x hx => h i (by omega) x hx)
    have := h n (by omega) (zfold f a n) (by omega)
    show 0 ≤ f n (zfold f a n) ∧ f n (zfold f a n) ≤ a
    omega
theorem zLL_rng {D G : Int → Int} {N : Nat} (hN : N ≤ 7) (hd : ∀ p : Int, 0 ≤ p → p ≤ N → 0 ≤ D p ∧ 0 ≤ G p) : ∀ (l : Nat) {V : Int → Int} {w fd : Int}, zkb w 0 = true → 0 ≤ fd → (∀ p : Int, 0 ≤ p → p ≤ N → zkb w p = true → 0 ≤ V p) → 0 ≤ zLL D G N l V w fd ∧ zLL D G N l V w fd ≤ fd
  | 0, V, w, fd, h0, hf, h => by
    have hl := zsoon_le V w N
    have := h _ (by omega) (by omega) (zsoon_kn (V := V) h0 N)
    unfold zLL; omega
  | 1, V, w, fd, h0, hf, h => by
    have hl := zsoon_le V w N
    have := h _ (by omega) (by omega) (zsoon_kn (V := V) h0 N)
    unfold zLL; omega
  | l + 2, V, w, fd, h0, hf, h => by
    have hl := zsoon_le V w N
    have hk := zsoon_kn (V := V) h0 N
    have hs := h _ (by omega) (by omega) hk
    unfold zLL
    split
    · refine zfold_rng (c := fd) ⟨hf, Int.le_refl _⟩ (fun i hi x hx => ?_)
      split
      · omega
      · next hn =>
        refine zLL_rng hN hd (l + 1) ?_ hx.1 (fun p h1 h2 h3 => ?_)
        · rw [zkb_orT (by omega) (by omega)]; exact Or.inl h0
        · have d1 := hd ((i + 1 : Nat) : Int) (by omega) (by omega)
          have d2 := hd (zsoon V w N) (by omega) (by omega)
          by_cases e1 : p = ((i + 1 : Nat) : Int)
          · rw [e1, ztV_p]; omega
          · by_cases e2 : p = zsoon V w N
            · rw [e2, ztV_a _ _ _ (e2 ▸ e1)]; omega
            · rw [ztV_q _ _ _ e1 e2]
              rcases (zkb_orT (by omega) (by omega)).mp h3 with h3 | h3
              · exact h p h1 h2 h3
              · exact absurd h3 e1
    · omega
section BEST
variable {d : Nat} {t y : Nat} {m s : Int} {D G E P : Int → Int}
set_option maxHeartbeats 2000000 in
theorem c_X5_leastLastFrom {N : Nat} (hx : y + 1 < t ∨ t + 4 < y) (hN : N ≤ 7) (hd : ∀ p : Int, 0 ≤ p → p ≤ N → 0 ≤ D p ∧ D p ≤ 1000 ∧ 0 ≤ G p ∧ G p ≤ 1000) :
    ∀ (l : Nat) {h : zH} {Q : Option zV → zH → Prop} {V : Int → Int} {w fd : Int}, 1 ≤ l → l ≤ 8 → zTlr h y V w → zTel h t ((N + 1 : Nat) : Int) m s D G E P → (-2147483648 ≤ w ∧ w ≤ 2147483647) → zkb w 0 = true → (∀ p : Int, 0 ≤ p → p ≤ N → zkb w p = true → 0 ≤ V p ∧ V p + 2000 * l ≤ 50000) → (0 ≤ fd ∧ fd ≤ 100000) →
      (∀ V' : Int → Int, (∀ p : Int, 0 ≤ p → p ≤ N → zkb w p = true → V' p = V p) → Q (some (vI (zLL D G N l V w fd))) (ztl h y V' w)) → zC (d + l + 3) mX5_leastLastFrom 0 0 [vR y, vR t, vI l, vI fd] h Q := by
  intro l
  induction l with
  | zero => intro h Q V w fd h1; exact absurd h1 (by omega)
  | succ l ihl =>
    intro h Q V w fd h1 h8 hY hT hw hk0 hB hfd hQ
    have hy2 := hY.1
    have hl := zsoon_le V w N
    have hk := zsoon_kn (V := V) hk0 N
    have hbs := hB _ hl.1 hl.2 hk
    have hds := hd _ hl.1 hl.2
    have key : V (zsoon V w N) < fd → ∀ l', l = l' + 1 → ∀ i : Nat, i ≤ N → ∀ V' : Int → Int, (∀ p : Int, 0 ≤ p → p ≤ N → zkb w p = true → V' p = V p) → Z (d + (l + 1) + 3) mX5_leastLastFrom zo 42 [some (vR y), some (vR t), some (vI ((l + 1 : Nat) : Int)), some (vI fd), some (vI (zsoon V w N)), some (vI (V (zsoon V w N))), some (vI (zfold (fun i acc => if zkb w ((i + 1 : Nat) : Int) = true then acc else zLL D G N l (ztV V D G (zsoon V w N) ((i + 1 : Nat) : Int)) (zor w (zshl 1 ((i + 1 : Nat) : Int))) acc) fd i)), some (vI ((i + 1 : Nat) : Int))] [] (ztl h y V' w) Q := by
      intro hlt l' hl'
      subst hl'
      refine z_loop N ?_ ?_
      · intro V' hV'
        have hT := ztl_Tel hT hx V' w
        have e := hQ V' hV'
        rw [show zLL D G N (l' + 1 + 1) V w fd = zfold (fun i acc => if zkb w ((i + 1 : Nat) : Int) = true then acc else zLL D G N (l' + 1) (ztV V D G (zsoon V w N) ((i + 1 : Nat) : Int)) (zor w (zshl 1 ((i + 1 : Nat) : Int))) acc) fd N from if_pos hlt] at e
        have zh0 := hT.2.1
        refine z_iload 44 dX5_leastLastFrom_42 rfl rfl ?_
        refine z_aload_n 45 dX5_leastLastFrom_44 rfl rfl ?_
        refine z_cV0 48 dX5_leastLastFrom_45 rfl kX6_people zw_431 (Nat.le_of_ble_eq_true rfl) ⟨Nat.le_refl _, Nat.le_refl _⟩ (by first | with_reducible assumption | with_reducible exact zup_same _ _ _) ?_
        refine c_X6_people hT ?_
        refine z_icmp_ge 96 51 dX5_leastLastFrom_48 (by decide) rfl (by first | omega | exact zr_b _ | exact zr_and _ _ | exact zr_or _ _ | exact zr_shl _ _) (by first | omega | exact zr_b _ | exact zr_and _ _ | exact zr_or _ _ | exact zr_shl _ _) (fun c48 => ?_) (fun c48 => ?_)
        · refine z_iload 98 dX5_leastLastFrom_96 rfl rfl ?_
          refine z_ret dX5_leastLastFrom_98 (by first | exact True.intro | exact Or.inl rfl | exact Or.inr rfl | exact zb_01 _ | assumption | (show _ ∨ _; omega)) ⟨Nat.le_refl _, Nat.le_refl _⟩ ?_
          exact e
        · exfalso; omega
      · intro i hi ih V' hV'
        have hT1 := ztl_Tel hT hx V' w
        have hY1 := ztl_Tlr hY V' w
        have hdi := hd ((i + 1 : Nat) : Int) (by omega) (by omega)
        have hacc := zfold_rng (f := fun i acc => if zkb w ((i + 1 : Nat) : Int) = true then acc else zLL D G N (l' + 1) (ztV V D G (zsoon V w N) ((i + 1 : Nat) : Int)) (zor w (zshl 1 ((i + 1 : Nat) : Int))) acc) (a := fd) (c := fd) ⟨hfd.1, Int.le_refl _⟩ (n := i) (fun j hj x hx => by
          split
          · omega
          · next hn =>
            refine zLL_rng hN (fun p a b => ⟨(hd p a b).1, (hd p a b).2.2.1⟩) (l' + 1) ?_ hx.1 (fun p h1 h2 h3 => ?_)
            · rw [zkb_orT (by omega) (by omega)]; exact Or.inl hk0
            · have d1 := hd ((j + 1 : Nat) : Int) (by omega) (by omega)
              by_cases e1 : p = ((j + 1 : Nat) : Int)
              · rw [e1, ztV_p]; omega
              · by_cases e2 : p = zsoon V w N
                · rw [e2, ztV_a _ _ _ (e2 ▸ e1)]; omega
                · rw [ztV_q _ _ _ e1 e2]
                  rcases (zkb_orT (by omega) (by omega)).mp h3 with h3 | h3
                  · exact (hB p h1 h2 h3).1
                  · exact absurd h3 e1)
        rw [show zfold (fun i acc => if zkb w ((i + 1 : Nat) : Int) = true then acc else zLL D G N (l' + 1) (ztV V D G (zsoon V w N) ((i + 1 : Nat) : Int)) (zor w (zshl 1 ((i + 1 : Nat) : Int))) acc) fd (i + 1) = if zkb w ((i + 1 : Nat) : Int) = true then zfold (fun i acc => if zkb w ((i + 1 : Nat) : Int) = true then acc else zLL D G N (l' + 1) (ztV V D G (zsoon V w N) ((i + 1 : Nat) : Int)) (zor w (zshl 1 ((i + 1 : Nat) : Int))) acc) fd i else zLL D G N (l' + 1) (ztV V D G (zsoon V w N) ((i + 1 : Nat) : Int)) (zor w (zshl 1 ((i + 1 : Nat) : Int))) (zfold (fun i acc => if zkb w ((i + 1 : Nat) : Int) = true then acc else zLL D G N (l' + 1) (ztV V D G (zsoon V w N) ((i + 1 : Nat) : Int)) (zor w (zshl 1 ((i + 1 : Nat) : Int))) acc) fd i) from rfl] at ih
        generalize zfold (fun i acc => if zkb w ((i + 1 : Nat) : Int) = true then acc else zLL D G N (l' + 1) (ztV V D G (zsoon V w N) ((i + 1 : Nat) : Int)) (zor w (zshl 1 ((i + 1 : Nat) : Int))) acc) fd i = acc at ih hacc ⊢
        have hVa : V' (zsoon V w N) = V (zsoon V w N) := hV' _ hl.1 hl.2 hk
        have zh0 := hT1.2.1
        have zh1 := hY1.2.1
        refine z_iload 44 dX5_leastLastFrom_42 rfl rfl ?_
        refine z_aload_n 45 dX5_leastLastFrom_44 rfl rfl ?_
        refine z_cV0 48 dX5_leastLastFrom_45 rfl kX6_people zw_431 (Nat.le_of_ble_eq_true rfl) ⟨Nat.le_refl _, Nat.le_refl _⟩ (by first | with_reducible assumption | with_reducible exact zup_same _ _ _) ?_
        refine c_X6_people hT1 ?_
        refine z_icmp_ge 96 51 dX5_leastLastFrom_48 (by decide) rfl (by first | omega | exact zr_b _ | exact zr_and _ _ | exact zr_or _ _ | exact zr_shl _ _) (by first | omega | exact zr_b _ | exact zr_and _ _ | exact zr_or _ _ | exact zr_shl _ _) (fun c48 => ?_) (fun c48 => ?_)
        · exfalso; omega
        · refine z_aload_n 52 dX5_leastLastFrom_51 rfl rfl ?_
          refine z_iload 54 dX5_leastLastFrom_52 rfl rfl ?_
          refine z_cV1 57 dX5_leastLastFrom_54 rfl kX5_isKnower zw_436 (Nat.le_of_ble_eq_true rfl) ⟨Nat.le_refl _, Nat.le_refl _⟩ (by first | with_reducible assumption | with_reducible exact zup_same _ _ _) ?_
          refine c_X5_isKnower hY1 (by omega) ?_
          refine z_if_ne 90 60 dX5_leastLastFrom_57 (by decide) rfl (by first | omega | exact zr_b _ | exact zr_and _ _ | exact zr_or _ _ | exact zr_shl _ _) (fun c57 => ?_) (fun c57 => ?_)
          · try replace c57 := zb_1 c57
            rw [if_pos c57] at ih
            refine z_iinc 93 dX5_leastLastFrom_90 rfl (by decide) rfl ?_
            refine z_goto 42 dX5_leastLastFrom_93 (by decide) ?_
            first | exact ih _ hV' | exact ih _ agree
          · try replace c57 := zb_0 c57
            rw [if_neg c57] at ih
            have hne : zsoon V w N ≠ ((i + 1 : Nat) : Int) := fun e => c57 (e ▸ hk)
            refine z_aload_n 61 dX5_leastLastFrom_60 rfl rfl ?_
            refine z_aload_n 62 dX5_leastLastFrom_61 rfl rfl ?_
            refine z_iload 64 dX5_leastLastFrom_62 rfl rfl ?_
            refine z_iload 66 dX5_leastLastFrom_64 rfl rfl ?_
            refine z_cV3 69 dX5_leastLastFrom_66 rfl kX5_tell zw_449 (Nat.le_of_ble_eq_true rfl) ⟨Nat.le_refl _, Nat.le_refl _⟩ (by first | with_reducible assumption | with_reducible exact zup_same _ _ _) ?_
            refine c_X5_tell hY1 hT1 hx (by omega) (by omega) ?_
            rw [ztl_ztl]
            have hT2 := ztl_Tel hT hx (ztV V' D G (zsoon V w N) ((i + 1 : Nat) : Int)) (zor w (zshl 1 ((i + 1 : Nat) : Int)))
            have hY2 := ztl_Tlr hY (ztV V' D G (zsoon V w N) ((i + 1 : Nat) : Int)) (zor w (zshl 1 ((i + 1 : Nat) : Int)))
            have zh0 := hT2.2.1
            have zh1 := hY2.2.1
            refine z_aload_n 70 dX5_leastLastFrom_69 rfl rfl ?_
            refine z_aload_n 71 dX5_leastLastFrom_70 rfl rfl ?_
            refine z_iload_n 72 dX5_leastLastFrom_71 rfl rfl ?_
            refine z_iconst 73 dX5_leastLastFrom_72 rfl ?_
            refine z_isub 74 dX5_leastLastFrom_73 rfl ?_
            refine z_iload 76 dX5_leastLastFrom_74 rfl rfl ?_
            refine z_cV3 79 dX5_leastLastFrom_76 rfl kX5_leastLastFrom zw_458 (Nat.le_of_ble_eq_true rfl) ⟨Nat.le_refl _, Nat.le_refl _⟩ (by first | with_reducible assumption | with_reducible exact zup_same _ _ _) ?_
            have el : (((l' + 1 + 1 : Nat) : Int) - 1) = ((l' + 1 : Nat) : Int) := by omega
            rw [el]
            refine ihl (by omega) (by omega) hY2 hT2 (zr_or _ _) ((zkb_orT (by omega) (by omega)).mpr (Or.inl hk0)) (fun p a b k => ?_) (by omega) (fun V2 hV2 => ?_)
            · by_cases e1 : p = ((i + 1 : Nat) : Int)
              · rw [e1, ztV_p, hVa]; omega
              · by_cases e2 : p = zsoon V w N
                · rw [e2, ztV_a _ _ _ hne, hVa]; omega
                · rcases (zkb_orT (by omega) (by omega)).mp k with k | k
                  · rw [ztV_q _ _ _ e1 e2, hV' p a b k]
                    have := hB p a b k
                    omega
                  · exact absurd k e1
            rw [ztl_ztl]
            have cg : zLL D G N (l' + 1) (ztV V' D G (zsoon V w N) ((i + 1 : Nat) : Int)) (zor w (zshl 1 ((i + 1 : Nat) : Int))) acc = zLL D G N (l' + 1) (ztV V D G (zsoon V w N) ((i + 1 : Nat) : Int)) (zor w (zshl 1 ((i + 1 : Nat) : Int))) acc := by
              refine zLL_cg hN (l' + 1) ((zkb_orT (by omega) (by omega)).mpr (Or.inl hk0)) (fun p a b k => ?_)
              by_cases e1 : p = ((i + 1 : Nat) : Int)
              · rw [e1, ztV_p, ztV_p, hVa]
              · by_cases e2 : p = zsoon V w N
                · rw [e2, ztV_a _ _ _ hne, ztV_a _ _ _ hne, hVa]
                · rcases (zkb_orT (by omega) (by omega)).mp k with k | k
                  · rw [ztV_q _ _ _ e1 e2, ztV_q _ _ _ e1 e2, hV' p a b k]
                  · exact absurd k e1
            rw [cg]
            have hT3 := ztl_Tel hT hx V2 (zor w (zshl 1 ((i + 1 : Nat) : Int)))
            have hY3 := ztl_Tlr hY V2 (zor w (zshl 1 ((i + 1 : Nat) : Int)))
            have zh0 := hT3.2.1
            have zh1 := hY3.2.1
            refine z_istore 81 dX5_leastLastFrom_79 rfl (by decide) ?_
            refine z_aload_n 82 dX5_leastLastFrom_81 rfl rfl ?_
            refine z_aload_n 83 dX5_leastLastFrom_82 rfl rfl ?_
            refine z_iload 85 dX5_leastLastFrom_83 rfl rfl ?_
            refine z_iload 87 dX5_leastLastFrom_85 rfl rfl ?_
            refine z_cV3 90 dX5_leastLastFrom_87 rfl kX5_takeBack zw_465 (Nat.le_of_ble_eq_true rfl) ⟨Nat.le_refl _, Nat.le_refl _⟩ (by first | with_reducible assumption | with_reducible exact zup_same _ _ _) ?_
            refine c_X5_takeBack hY3 hT3 hx (by omega) ?_
            rw [ztl_ztl, z_back hw (by omega) (by simpa using c57)]
            have agree : ∀ p : Int, 0 ≤ p → p ≤ N → zkb w p = true → zst V2 (zsoon V w N) (V2 (zsoon V w N) - G (zsoon V w N)) p = V p := by
              intro p a b k
              have e1 : p ≠ ((i + 1 : Nat) : Int) := fun e => c57 (e ▸ k)
              by_cases e2 : p = zsoon V w N
              · rw [e2, zst_same, hV2 _ hl.1 hl.2 ((zkb_orT (by omega) (by omega)).mpr (Or.inl hk)), ztV_a _ _ _ hne, hVa]; omega
              · rw [zst_ne _ _ e2, hV2 p a b ((zkb_orT (by omega) (by omega)).mpr (Or.inl k)), ztV_q _ _ _ e1 e2, hV' p a b k]
            refine z_iinc 93 dX5_leastLastFrom_90 rfl (by decide) rfl ?_
            refine z_goto 42 dX5_leastLastFrom_93 (by decide) ?_
            first | exact ih _ hV' | exact ih _ agree
    have hself : ztl h y V w = h := ztl_self hY
    have base : ¬ (1 ≤ l ∧ V (zsoon V w N) < fd) → zLL D G N (l + 1) V w fd = min (V (zsoon V w N)) fd := by
      intro hb
      match l with
      | 0 => rfl
      | l' + 1 => exact if_neg (fun q => hb ⟨by omega, q⟩)
    refine zC.of zpl_X5 (Nat.le_of_ble_eq_true rfl) ?_
    have zh0 := hY.2.1
    have zh1 := hT.2.1
    refine z_aload_n 1 dX5_leastLastFrom_0 rfl rfl ?_
    refine z_aload_n 2 dX5_leastLastFrom_1 rfl rfl ?_
    refine z_cV1 5 dX5_leastLastFrom_2 rfl kX5_soonest zw_432 (Nat.le_of_ble_eq_true rfl) ⟨Nat.le_refl _, Nat.le_refl _⟩ (by first | with_reducible assumption | with_reducible exact zup_same _ _ _) ?_
    refine c_X5_soonest hY hT hN hk0 (fun p a b k => by have := hB p a b k; omega) ?_
    refine z_istore 7 dX5_leastLastFrom_5 rfl (by decide) ?_
    refine z_aload_n 8 dX5_leastLastFrom_7 rfl rfl ?_
    refine z_getf (ci := 5) 11 dX5_leastLastFrom_8 rfl rfl zin_5 0 (by decide) zw_130 (by first | with_reducible assumption | with_reducible exact zup_same _ _ _) rfl ?_
    refine z_iload 13 dX5_leastLastFrom_11 rfl rfl ?_
    refine z_cSN2 16 dX5_leastLastFrom_13 rfl kX9_at zn_440 (Nat.le_of_ble_eq_true rfl) ⟨Nat.le_refl _, Nat.le_refl _⟩ ?_
    refine c_X9_at hY.2.2 (by decide) (by omega) ?_
    refine z_istore 18 dX5_leastLastFrom_16 rfl (by decide) ?_
    refine z_iload_n 19 dX5_leastLastFrom_18 rfl rfl ?_
    refine z_iconst 20 dX5_leastLastFrom_19 rfl ?_
    refine z_icmp_le 29 23 dX5_leastLastFrom_20 (by decide) rfl (by first | omega | exact zr_b _ | exact zr_and _ _ | exact zr_or _ _ | exact zr_shl _ _) (by first | omega | exact zr_b _ | exact zr_and _ _ | exact zr_or _ _ | exact zr_shl _ _) (fun c20 => ?_) (fun c20 => ?_)
    · refine z_iload 31 dX5_leastLastFrom_29 rfl rfl ?_
      refine z_iload_n 32 dX5_leastLastFrom_31 rfl rfl ?_
      refine z_min 35 dX5_leastLastFrom_32 rfl zw_462 zw_463 zw_68 zw_464 (Nat.le_of_ble_eq_true rfl) ⟨Nat.le_refl _, Nat.le_refl _⟩ (by first | omega | exact zr_b _ | exact zr_and _ _ | exact zr_or _ _ | exact zr_shl _ _) (by first | omega | exact zr_b _ | exact zr_and _ _ | exact zr_or _ _ | exact zr_shl _ _) ?_
      refine z_ret dX5_leastLastFrom_35 (by first | exact True.intro | exact Or.inl rfl | exact Or.inr rfl | exact zb_01 _ | assumption | (show _ ∨ _; omega)) ⟨Nat.le_refl _, Nat.le_refl _⟩ ?_
      have e := hQ V (fun _ _ _ _ => rfl)
      rw [hself, base (by omega)] at e
      exact e
    · refine z_iload 25 dX5_leastLastFrom_23 rfl rfl ?_
      refine z_iload_n 26 dX5_leastLastFrom_25 rfl rfl ?_
      refine z_icmp_lt 36 29 dX5_leastLastFrom_26 (by decide) rfl (by first | omega | exact zr_b _ | exact zr_and _ _ | exact zr_or _ _ | exact zr_shl _ _) (by first | omega | exact zr_b _ | exact zr_and _ _ | exact zr_or _ _ | exact zr_shl _ _) (fun c26 => ?_) (fun c26 => ?_)
      · refine z_iload_n 37 dX5_leastLastFrom_36 rfl rfl ?_
        refine z_istore 39 dX5_leastLastFrom_37 rfl (by decide) ?_
        refine z_iconst 40 dX5_leastLastFrom_39 rfl ?_
        refine z_istore 42 dX5_leastLastFrom_40 rfl (by decide) ?_
        have k := key c26 (l - 1) (by omega) 0 (Nat.zero_le _) V (fun _ _ _ _ => rfl)
        rw [hself] at k
        exact k
      · refine z_iload 31 dX5_leastLastFrom_29 rfl rfl ?_
        refine z_iload_n 32 dX5_leastLastFrom_31 rfl rfl ?_
        refine z_min 35 dX5_leastLastFrom_32 rfl zw_462 zw_463 zw_68 zw_464 (Nat.le_of_ble_eq_true rfl) ⟨Nat.le_refl _, Nat.le_refl _⟩ (by first | omega | exact zr_b _ | exact zr_and _ _ | exact zr_or _ _ | exact zr_shl _ _) (by first | omega | exact zr_b _ | exact zr_and _ _ | exact zr_or _ _ | exact zr_shl _ _) ?_
        refine z_ret dX5_leastLastFrom_35 (by first | exact True.intro | exact Or.inl rfl | exact Or.inr rfl | exact zb_01 _ | assumption | (show _ ∨ _; omega)) ⟨Nat.le_refl _, Nat.le_refl _⟩ ?_
        have e := hQ V (fun _ _ _ _ => rfl)
        rw [hself, base (by omega)] at e
        exact e
theorem c_X5_leastLast {N : Nat} {h : zH} {Q : Option zV → zH → Prop} {V : Int → Int} {w : Int} (hY : zTlr h y V w) (hT : zTel h t ((N + 1 : Nat) : Int) m s D G E P) (hx : y + 1 < t ∨ t + 4 < y) (hN : N ≤ 7) (hd : ∀ p : Int, 0 ≤ p → p ≤ N → 0 ≤ D p ∧ D p ≤ 1000 ∧ 0 ≤ G p ∧ G p ≤ 1000)
    (hQ : ∀ (V' : Int → Int) (w' : Int), Q (some (vI (if N = 0 then 0 else zLL D G N N (zst V 0 (D 0)) 1 1000))) (ztl h y V' w')) : zC (d + 12) mX5_leastLast 0 0 [vR y, vR t] h Q := by
  have hself : ztl h y V w = h := ztl_self hY
  have hT1 := ztl_Tel hT hx (zst V 0 (D 0)) 1
  have hY1 := ztl_Tlr hY (zst V 0 (D 0)) 1
  have h0 := hd 0 (by omega) (by omega)
  refine zC.of zpl_X5 (Nat.le_of_ble_eq_true rfl) ?_
  have zh0 := hY.2.1
  have zh1 := hT.2.1
  refine z_aload_n 1 dX5_leastLast_0 rfl rfl ?_
  refine z_cV0 4 dX5_leastLast_1 rfl kX6_people zw_431 (Nat.le_of_ble_eq_true rfl) ⟨Nat.le_refl _, Nat.le_refl _⟩ (by first | with_reducible assumption | with_reducible exact zup_same _ _ _) ?_
  refine c_X6_people hT ?_
  refine z_iconst 5 dX5_leastLast_4 rfl ?_
  refine z_icmp_ne 10 8 dX5_leastLast_5 (by decide) rfl (by first | omega | exact zr_b _ | exact zr_and _ _ | exact zr_or _ _ | exact zr_shl _ _) (by first | omega | exact zr_b _ | exact zr_and _ _ | exact zr_or _ _ | exact zr_shl _ _) (fun c5 => ?_) (fun c5 => ?_)
  · refine z_aload_n 11 dX5_leastLast_10 rfl rfl ?_
    refine z_aload_n 12 dX5_leastLast_11 rfl rfl ?_
    refine z_cV1 15 dX5_leastLast_12 rfl kX5_begin zw_421 (Nat.le_of_ble_eq_true rfl) ⟨Nat.le_refl _, Nat.le_refl _⟩ (by first | with_reducible assumption | with_reducible exact zup_same _ _ _) ?_
    refine c_X5_begin hY hT hx ?_
    have zh0 := hT1.2.1
    have zh1 := hY1.2.1
    refine z_aload_n 16 dX5_leastLast_15 rfl rfl ?_
    refine z_aload_n 17 dX5_leastLast_16 rfl rfl ?_
    refine z_aload_n 18 dX5_leastLast_17 rfl rfl ?_
    refine z_cV0 21 dX5_leastLast_18 rfl kX6_people zw_431 (Nat.le_of_ble_eq_true rfl) ⟨Nat.le_refl _, Nat.le_refl _⟩ (by first | with_reducible assumption | with_reducible exact zup_same _ _ _) ?_
    refine c_X6_people hT1 ?_
    refine z_iconst 22 dX5_leastLast_21 rfl ?_
    refine z_isub 23 dX5_leastLast_22 rfl ?_
    refine z_sipush 26 dX5_leastLast_23 rfl (by decide) ?_
    refine z_cV3 29 dX5_leastLast_26 rfl kX5_leastLastFrom zw_458 (Nat.le_of_ble_eq_true rfl) ⟨Nat.le_refl _, Nat.le_refl _⟩ (by first | with_reducible assumption | with_reducible exact zup_same _ _ _) ?_
    rw [show (((N + 1 : Nat) : Int) - 1) = ((N : Nat) : Int) by omega]
    have hdep : d + 11 = (d + (8 - N)) + N + 3 := by omega
    rw [hdep]
    refine c_X5_leastLastFrom hx hN hd N (by omega) (by omega) hY1 hT1 (by omega) (by rw [zkb_1 (by omega)]; decide) (fun p a b k => ?_) (by omega) (fun V' hV' => ?_)
    · rw [zkb_1 (by omega)] at k
      have e0 : p = 0 := by simpa using k
      rw [e0, zst_same]; omega
    have e := hQ V' 1
    rw [if_neg (by omega)] at e
    rw [ztl_ztl]
    refine z_ret dX5_leastLast_29 (by first | exact True.intro | exact Or.inl rfl | exact Or.inr rfl | exact zb_01 _ | assumption | (show _ ∨ _; omega)) ⟨Nat.le_refl _, Nat.le_refl _⟩ ?_
    exact e
  · refine z_iconst 9 dX5_leastLast_8 rfl ?_
    refine z_ret dX5_leastLast_9 (by first | exact True.intro | exact Or.inl rfl | exact Or.inr rfl | exact zb_01 _ | assumption | (show _ ∨ _; omega)) ⟨Nat.le_refl _, Nat.le_refl _⟩ ?_
    have e := hQ V w
    rw [hself, if_pos (by omega)] at e
    exact e
end BEST
