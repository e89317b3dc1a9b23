/-! BEST: the soonest letter may always be sent -/
def zcu (w : Int) : Nat → Nat
  | 0 => 0
  | i + 1 => zcu w i + (if zkb w ((i + 1 : Nat) : Int) = true then 0 else 1)
theorem zcu_or {w : Int} {p : Nat} (hp : 1 ≤ p ∧ p < 32) (hk : zkb w p = false) : ∀ i : Nat, i < 32 → zcu (zor w (zshl 1 p)) i + (if p ≤ i then 1 else 0) = zcu w i
  | 0, _ => by rw [if_neg (by omega)]; rfl
  | i + 1, hi => by
    have ih := zcu_or hp hk i (by omega)
    unfold zcu
    have e := zkb_or (w := w) (p := (p : Int)) (q := ((i + 1 : Nat) : Int)) (by omega) (by omega)
    rw [e]
    by_cases c : p = i + 1
    · subst c
      rw [if_neg (by omega)] at ih
      rw [hk, decide_eq_true rfl, if_pos (by rfl), if_pos (Nat.le_refl _), if_neg (by decide)]; omega
    · rw [decide_eq_false (by omega), Bool.or_false]
      split at ih <;> split <;> split <;> omega
theorem zcu_ex {w : Int} : ∀ {i : Nat}, 1 ≤ zcu w i → ∃ p : Nat, 1 ≤ p ∧ p ≤ i ∧ zkb w p = false
  | i + 1, h => by
    unfold zcu at h
    by_cases c : zkb w ((i + 1 : Nat) : Int) = true
    · rw [if_pos c] at h
      obtain ⟨p, h1, h2, h3⟩ := zcu_ex (i := i) (by omega)
      exact ⟨p, h1, by omega, h3⟩
    · exact ⟨i + 1, by omega, by omega, by simpa using c⟩
theorem zcu_mono {w : Int} : ∀ {i j : Nat}, i ≤ j → zcu w i ≤ zcu w j
  | i, 0, h => by rw [show i = 0 by omega]; exact Nat.le_refl _
  | i, j + 1, h => by
    by_cases e : i = j + 1
    · rw [e]; exact Nat.le_refl _
    · have := zcu_mono (w := w) (i := i) (j := j) (by omega)
      show zcu w i ≤ zcu w j + _
      omega
section BESTM
variable {D G : Int → Int} {N : Nat}
def zSA (D G : Int → Int) (N : Nat) : Nat → (Int → Int) → Int → Int → Prop
  | 0, V, w, r => r = V (zsoon V w N)
  | l + 1, V, w, r => ∃ p : Nat, 1 ≤ p ∧ p ≤ N ∧ zkb w p = false ∧ zSA D G N l (ztV V D G (zsoon V w N) p) (zor w (zshl 1 p)) r
def zAc (D G : Int → Int) (N : Nat) : Nat → (Int → Int) → Int → Int → Int → Prop
  | 0, _, _, x, r => r = x
  | k + 1, V, w, x, r => ∃ t p : Nat, t ≤ N ∧ zkb w t = true ∧ 1 ≤ p ∧ p ≤ N ∧ zkb w p = false ∧ zAc D G N k (ztV V D G t p) (zor w (zshl 1 p)) (max x (V t)) r
theorem zsoon_min {V : Int → Int} {w : Int} : ∀ (n : Nat) (q : Int), 0 ≤ q → q ≤ n → zkb w q = true → V (zsoon V w n) ≤ V q
  | 0, q, h1, h2, _ => by rw [show q = 0 by omega]; exact Int.le_refl _
  | n + 1, q, h1, h2, hk => by
    unfold zsoon
    by_cases e : q = ((n + 1 : Nat) : Int)
    · subst e
      split
      · exact Int.le_refl _
      · next c => exact Int.not_lt.mp (fun q => c ⟨hk, q⟩)
    · have ih := zsoon_min (V := V) n q h1 (by omega) hk
      split
      · next c => omega
      · exact ih
/-- a state behind a letter from the soonest: nothing is sooner -/
theorem zst_ge (hN : N ≤ 7) (hd : ∀ p : Int, 0 ≤ p → p ≤ N → 0 ≤ D p ∧ 0 ≤ G p) {V : Int → Int} {w s : Int} {c : Int} (h0 : zkb w 0 = true) (hmin : ∀ q : Int, 0 ≤ q → q ≤ N → zkb w q = true → c ≤ V q) {t p : Nat} (ht : t ≤ N) (hkt : zkb w t = true) (hp : 1 ≤ p ∧ p ≤ N) : zkb (zor w (zshl 1 p)) 0 = true ∧ ∀ q : Int, 0 ≤ q → q ≤ N → zkb (zor w (zshl 1 p)) q = true → c ≤ ztV V D G t p q := by
  refine ⟨(zkb_orT (by omega) (by omega)).mpr (Or.inl h0), fun q h1 h2 hk => ?_⟩
  have htc := hmin t (by omega) (by omega) hkt
  by_cases e1 : q = p
  · rw [e1, ztV_p]; have := hd p (by omega) (by omega); omega
  · rcases (zkb_orT (by omega) (by omega)).mp hk with k | k
    · by_cases e2 : q = t
      · rw [e2, ztV_a _ _ _ (by omega)]; have := hd t (by omega) (by omega); omega
      · rw [ztV_q _ _ _ e1 e2]; exact hmin q h1 h2 k
    · exact absurd k e1
theorem zsoon_nat (V : Int → Int) (w : Int) (N : Nat) : ∃ s : Nat, zsoon V w N = (s : Int) ∧ s ≤ N := by
  have := zsoon_le V w N
  exact ⟨(zsoon V w N).toNat, by omega, by omega⟩
theorem zSA_ge (hN : N ≤ 7) (hd : ∀ p : Int, 0 ≤ p → p ≤ N → 0 ≤ D p ∧ 0 ≤ G p) : ∀ (l : Nat) {V : Int → Int} {w r c : Int}, zkb w 0 = true → (∀ q : Int, 0 ≤ q → q ≤ N → zkb w q = true → c ≤ V q) → zSA D G N l V w r → c ≤ r
  | 0, V, w, r, c, h0, hmin, h => by
    have h : r = V (zsoon V w N) := h
    have hl := zsoon_le V w N
    rw [h]
    exact hmin _ hl.1 hl.2 (zsoon_kn h0 N)
  | l + 1, V, w, r, c, h0, hmin, h => by
    obtain ⟨p, p1, p2, p3, h⟩ := h
    obtain ⟨s, es, hs⟩ := zsoon_nat V w N
    have hsk := zsoon_kn (V := V) h0 N
    rw [es] at h hsk
    obtain ⟨g1, g2⟩ := zst_ge (s := 0) hN hd h0 hmin hs hsk ⟨p1, p2⟩
    exact zSA_ge hN hd l g1 g2 h
theorem zfold_spec {f : Nat → Int → Int} {a : Int} {R : Nat → Int → Prop} : ∀ {n : Nat}, (∀ i, i < n → ∀ acc, (f i acc = acc ∨ R i (f i acc)) ∧ f i acc ≤ acc ∧ ∀ r, R i r → f i acc ≤ r) → (zfold f a n = a ∨ ∃ i, i < n ∧ R i (zfold f a n)) ∧ zfold f a n ≤ a ∧ ∀ i r, i < n → R i r → zfold f a n ≤ r
  | 0, _ => ⟨Or.inl rfl, Int.le_refl _, fun i r hi => absurd hi (by omega)⟩
  | n + 1, h => by
    obtain ⟨i1, i2, i3⟩ := zfold_spec (a := a) (fun i hi => h i (show i < n + 1 by omega)) (n := n)
    obtain ⟨j1, j2, j3⟩ := h n (by omega) (zfold f a n)
    show (f n (zfold f a n) = a ∨ ∃ i, i < n + 1 ∧ R i (f n (zfold f a n))) ∧ f n (zfold f a n) ≤ a ∧ ∀ i r, i < n + 1 → R i r → f n (zfold f a n) ≤ r
    refine ⟨?_, by omega, fun i r hi hr => ?_⟩
    · rcases j1 with e | e
      · rw [e]
        rcases i1 with e1 | ⟨i, hi, hr⟩
        · exact Or.inl e1
        · exact Or.inr ⟨i, by omega, hr⟩
      · exact Or.inr ⟨n, by omega, e⟩
    · by_cases e : i = n
      · subst e; exact j3 r hr
      · have := i3 i r (by omega) hr; omega
theorem zLL_spec (hN : N ≤ 7) (hd : ∀ p : Int, 0 ≤ p → p ≤ N → 0 ≤ D p ∧ 0 ≤ G p) : ∀ (l : Nat) {V : Int → Int} {w fd : Int}, zkb w 0 = true → (zLL D G N (l + 1) V w fd = fd ∨ zSA D G N l V w (zLL D G N (l + 1) V w fd)) ∧ zLL D G N (l + 1) V w fd ≤ fd ∧ ∀ r : Int, zSA D G N l V w r → zLL D G N (l + 1) V w fd ≤ r
  | 0, V, w, fd, h0 => by
    show (min (V (zsoon V w N)) fd = fd ∨ min (V (zsoon V w N)) fd = V (zsoon V w N)) ∧ min (V (zsoon V w N)) fd ≤ fd ∧ ∀ r : Int, r = V (zsoon V w N) → min (V (zsoon V w N)) fd ≤ r
    exact ⟨by omega, by omega, fun r e => by omega⟩
  | l + 1, V, w, fd, h0 => by
    have e0 : zLL D G N (l + 1 + 1) V w fd = if V (zsoon V w N) < fd then zfold (fun i acc => if zkb w ((i + 1 : Nat) : Int) = true then acc else zLL D G N (l + 1) (ztV V D G (zsoon V w N) ((i + 1 : Nat) : Int)) (zor w (zshl 1 ((i + 1 : Nat) : Int))) acc) fd N else min (V (zsoon V w N)) fd := rfl
    rw [e0]
    by_cases c : V (zsoon V w N) < fd
    · rw [if_pos c]
      obtain ⟨s1, s2, s3⟩ := zfold_spec (f := fun i acc => if zkb w ((i + 1 : Nat) : Int) = true then acc else zLL D G N (l + 1) (ztV V D G (zsoon V w N) ((i + 1 : Nat) : Int)) (zor w (zshl 1 ((i + 1 : Nat) : Int))) acc) (a := fd) (n := N)
        (R := fun i r => zkb w ((i + 1 : Nat) : Int) = false ∧ zSA D G N l (ztV V D G (zsoon V w N) ((i + 1 : Nat) : Int)) (zor w (zshl 1 ((i + 1 : Nat) : Int))) r) (fun i hi acc => by
          by_cases k : zkb w ((i + 1 : Nat) : Int) = true
          · rw [if_pos k]
            exact ⟨Or.inl rfl, Int.le_refl _, fun r hr => by rw [k] at hr; exact absurd hr.1 (by decide)⟩
          · rw [if_neg k]
            obtain ⟨a1, a2, a3⟩ := zLL_spec hN hd l (V := ztV V D G (zsoon V w N) ((i + 1 : Nat) : Int)) (w := zor w (zshl 1 ((i + 1 : Nat) : Int))) (fd := acc) ((zkb_orT (by omega) (by omega)).mpr (Or.inl h0))
            refine ⟨?_, a2, fun r hr => a3 r hr.2⟩
            rcases a1 with e | e
            · exact Or.inl e
            · exact Or.inr ⟨by simpa using k, e⟩)
      refine ⟨?_, s2, fun r hr => ?_⟩
      · rcases s1 with e | ⟨i, hi, e1, e2⟩
        · exact Or.inl e
        · exact Or.inr ⟨i + 1, by omega, by omega, e1, e2⟩
      · obtain ⟨p, p1, p2, p3, p4⟩ := hr
        obtain ⟨i, rfl⟩ : ∃ i, p = i + 1 := ⟨p - 1, by omega⟩
        exact s3 i r (by omega) ⟨p3, p4⟩
    · rw [if_neg c]
      refine ⟨Or.inl (by omega), by omega, fun r hr => ?_⟩
      have := zSA_ge hN hd (l + 1) h0 (fun q h1 h2 h3 => zsoon_min N q h1 h2 h3) hr
      omega
theorem zAc_ge : ∀ (k : Nat) {V : Int → Int} {w x r : Int}, zAc D G N k V w x r → x ≤ r
  | 0, V, w, x, r, h => by have h : r = x := h; omega
  | k + 1, V, w, x, r, h => by
    obtain ⟨t, p, _, _, _, _, _, h⟩ := h
    have := zAc_ge k h
    omega
theorem ztV_comm (V : Int → Int) {s t p q : Int} (h1 : s ≠ t) (h2 : s ≠ q) (h3 : p ≠ t) (h4 : p ≠ q) (h5 : p ≠ s) (h6 : q ≠ t) : ztV (ztV V D G t q) D G s p = ztV (ztV V D G s p) D G t q := by
  funext x
  by_cases ep : x = p
  · subst ep
    rw [ztV_p, ztV_q _ _ _ h4 h3, ztV_p, ztV_q _ _ _ h2 h1]
  · by_cases eq : x = q
    · subst eq
      rw [ztV_q _ _ _ ep (Ne.symm h2), ztV_p, ztV_p, ztV_q _ _ _ (Ne.symm h3) (Ne.symm h1)]
    · by_cases es : x = s
      · subst es
        rw [ztV_a _ _ _ (Ne.symm h5), ztV_q _ _ _ eq h1, ztV_q _ _ _ eq h1, ztV_a _ _ _ (Ne.symm h5)]
      · by_cases et : x = t
        · subst et
          rw [ztV_q _ _ _ ep es, ztV_a _ _ _ (Ne.symm h6), ztV_a _ _ _ (Ne.symm h6), ztV_q _ _ _ ep es]
        · rw [ztV_q _ _ _ ep es, ztV_q _ _ _ eq et, ztV_q _ _ _ eq et, ztV_q _ _ _ ep es]
/-- the soonest's letter may come first -/
theorem zAc_first (hN : N ≤ 7) (hd : ∀ p : Int, 0 ≤ p → p ≤ N → 0 ≤ D p ∧ 0 ≤ G p) : ∀ (k : Nat) {V : Int → Int} {w x r : Int} {s : Nat}, zkb w 0 = true → s ≤ N → zkb w s = true → (∀ q : Int, 0 ≤ q → q ≤ N → zkb w q = true → V s ≤ V q) → zAc D G N (k + 1) V w x r → ∃ (p : Nat) (r' : Int), 1 ≤ p ∧ p ≤ N ∧ zkb w p = false ∧ zAc D G N k (ztV V D G s p) (zor w (zshl 1 p)) (max x (V s)) r' ∧ r' ≤ r
  | 0, V, w, x, r, s, h0, hs, hks, hmin, h => by
    obtain ⟨t, p, t1, t2, p1, p2, p3, h⟩ := h
    have h : r = max x (V t) := h
    have := hmin t (by omega) (by omega) t2
    exact ⟨p, max x (V s), p1, p2, p3, rfl, by omega⟩
  | k + 1, V, w, x, r, s, h0, hs, hks, hmin, h => by
    obtain ⟨t, q, t1, t2, q1, q2, q3, h⟩ := h
    by_cases e : t = s
    · subst e
      exact ⟨q, r, q1, q2, q3, h, Int.le_refl _⟩
    · have hsq : s ≠ q := fun e => by rw [e, q3] at hks; exact absurd hks (by decide)
      have htq : t ≠ q := fun e => by rw [e, q3] at t2; exact absurd t2 (by decide)
      obtain ⟨g1, g2⟩ := zst_ge (s := 0) (c := V s) hN hd h0 hmin t1 t2 ⟨q1, q2⟩
      have es : ztV V D G t q s = V s := ztV_q _ _ _ (by omega) (by omega)
      obtain ⟨p, r', p1, p2, p3, p4, p5⟩ := zAc_first hN hd k (V := ztV V D G t q) (w := zor w (zshl 1 q)) (s := s) g1 hs ((zkb_orT (by omega) (by omega)).mpr (Or.inl hks)) (by rw [es]; exact g2) h
      have hpw : zkb w p = false ∧ p ≠ q := by
        have := zkb_or (w := w) (p := (q : Int)) (q := (p : Int)) (by omega) (by omega)
        rw [p3] at this
        have h2 := Bool.or_eq_false_iff.mp this.symm
        exact ⟨h2.1, fun e => by have := of_decide_eq_false h2.2; omega⟩
      have hps : p ≠ s := fun e => by rw [e, hks] at hpw; exact absurd hpw.1 (by decide)
      have hpt : p ≠ t := fun e => by rw [e, t2] at hpw; exact absurd hpw.1 (by decide)
      refine ⟨p, r', p1, p2, hpw.1, ⟨t, q, t1, (zkb_orT (by omega) (by omega)).mpr (Or.inl t2), q1, q2, ?_, ?_⟩, p5⟩
      · rw [zkb_or (by omega) (by omega), q3, decide_eq_false (by omega)]; rfl
      · rw [ztV_q _ _ _ (by omega) (by omega), zor_ac, ← ztV_comm V (by omega) (by omega) (by omega) (by omega) (by omega) (by omega)]
        rw [es] at p4
        rw [show max (max x (V s)) (V t) = max (max x (V t)) (V s) by omega]
        exact p4
theorem zAc_SA (hN : N ≤ 7) (hd : ∀ p : Int, 0 ≤ p → p ≤ N → 0 ≤ D p ∧ 0 ≤ G p) : ∀ (l : Nat) {V : Int → Int} {w x r : Int}, zkb w 0 = true → zAc D G N (l + 1) V w x r → ∃ r' : Int, zSA D G N l V w r' ∧ r' ≤ r
  | 0, V, w, x, r, h0, h => by
    obtain ⟨t, p, t1, t2, p1, p2, p3, h⟩ := h
    have h : r = max x (V t) := h
    have := zsoon_min (V := V) (w := w) N t (by omega) (by omega) t2
    exact ⟨_, rfl, by omega⟩
  | l + 1, V, w, x, r, h0, h => by
    obtain ⟨s, es, hs⟩ := zsoon_nat V w N
    have hsk := zsoon_kn (V := V) h0 N
    have hmin := fun q h1 h2 h3 => zsoon_min (V := V) (w := w) N q h1 h2 h3
    rw [es] at hsk hmin
    obtain ⟨p, r', p1, p2, p3, p4, p5⟩ := zAc_first hN hd (l + 1) h0 hs hsk hmin h
    obtain ⟨r2, s1, s2⟩ := zAc_SA hN hd l ((zkb_orT (by omega) (by omega)).mpr (Or.inl h0)) p4
    exact ⟨r2, ⟨p, p1, p2, p3, by rw [es]; exact s1⟩, by omega⟩
theorem zSA_Ac (hN : N ≤ 7) (hd : ∀ p : Int, 0 ≤ p → p ≤ N → 0 ≤ D p ∧ 0 ≤ G p) : ∀ (l : Nat) {V : Int → Int} {w x r : Int}, zkb w 0 = true → l + 1 ≤ zcu w N → x ≤ V (zsoon V w N) → zSA D G N l V w r → zAc D G N (l + 1) V w x r
  | 0, V, w, x, r, h0, hc, hx, h => by
    have h : r = V (zsoon V w N) := h
    obtain ⟨s, es, hs⟩ := zsoon_nat V w N
    have hsk := zsoon_kn (V := V) h0 N
    obtain ⟨p, p1, p2, p3⟩ := zcu_ex (by omega : 1 ≤ zcu w N)
    rw [es] at h hsk hx
    exact ⟨s, p, hs, hsk, p1, p2, p3, by show r = max x (V s); omega⟩
  | l + 1, V, w, x, r, h0, hc, hx, h => by
    obtain ⟨p, p1, p2, p3, h⟩ := h
    obtain ⟨s, es, hs⟩ := zsoon_nat V w N
    have hsk := zsoon_kn (V := V) h0 N
    have hmin := fun q h1 h2 h3 => zsoon_min (V := V) (w := w) N q h1 h2 h3
    rw [es] at h hsk hmin hx
    obtain ⟨g1, g2⟩ := zst_ge (s := 0) (c := V s) hN hd h0 hmin hs hsk ⟨p1, p2⟩
    have hcu := zcu_or (w := w) (p := p) (by omega) p3 N (by omega)
    rw [if_pos p2] at hcu
    have hl2 := zsoon_le (ztV V D G s p) (zor w (zshl 1 p)) N
    have := g2 _ hl2.1 hl2.2 (zsoon_kn g1 N)
    exact ⟨s, p, hs, hsk, p1, p2, p3, zSA_Ac hN hd l g1 (by omega) (by omega) h⟩
end BESTM
