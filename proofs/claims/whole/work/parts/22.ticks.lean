/-! TICKS: what the walk along THE PLAN gives -/
theorem z_pigeon : ∀ (N : Nat) (f : Nat → Int), (∀ i, i < N → 1 ≤ f i ∧ f i ≤ N) → (∀ i j, i < N → j < N → f i = f j → i = j) → ∀ p : Int, 1 ≤ p → p ≤ N → ∃ i, i < N ∧ f i = p := by
  intro N
  induction N with
  | zero => intro f h1 h2 p hp1 hp2; omega
  | succ N ih =>
    intro f h1 h2 p hp1 hp2
    have hv := h1 N (by omega)
    by_cases e : f N = p
    · exact ⟨N, by omega, e⟩
    · by_cases eN : f N = ((N + 1 : Nat) : Int)
      · obtain ⟨i, hi, hf⟩ := ih f (fun i hi => by
          have := h1 i (by omega)
          have : f i ≠ f N := fun q => by have := h2 i N (by omega) (by omega) q; omega
          omega) (fun i j hi hj => h2 i j (by omega) (by omega)) p hp1 (by omega)
        exact ⟨i, by omega, hf⟩
      · have g1 : ∀ i, i < N → 1 ≤ (if f i = ((N + 1 : Nat) : Int) then f N else f i) ∧ (if f i = ((N + 1 : Nat) : Int) then f N else f i) ≤ N := by
          intro i hi
          have := h1 i (by omega)
          split <;> omega
        have g2 : ∀ i j, i < N → j < N → (if f i = ((N + 1 : Nat) : Int) then f N else f i) = (if f j = ((N + 1 : Nat) : Int) then f N else f j) → i = j := by
          intro i j hi hj
          have n1 : f i ≠ f N := fun q => by have := h2 i N (by omega) (by omega) q; omega
          have n2 : f j ≠ f N := fun q => by have := h2 j N (by omega) (by omega) q; omega
          split <;> split
          · next a b => intro _; exact h2 i j (by omega) (by omega) (a.trans b.symm)
          · intro q; exact absurd q.symm n2
          · intro q; exact absurd q n1
          · intro q; exact h2 i j (by omega) (by omega) q
        by_cases ep : p = ((N + 1 : Nat) : Int)
        · obtain ⟨i, hi, hf⟩ := ih _ g1 g2 (f N) (by omega) (by omega)
          have n1 : f i ≠ f N := fun q => by have := h2 i N (by omega) (by omega) q; omega
          refine ⟨i, by omega, ?_⟩
          by_cases q : f i = ((N + 1 : Nat) : Int)
          · rw [q, ep]
          · rw [if_neg q] at hf; exact absurd hf n1
        · obtain ⟨i, hi, hf⟩ := ih _ g1 g2 p hp1 (by omega)
          refine ⟨i, by omega, ?_⟩
          by_cases q : f i = ((N + 1 : Nat) : Int)
          · rw [if_pos q] at hf; exact absurd hf e
          · rw [if_neg q] at hf; exact hf
/-- a TELLING of N + 1 people that is in order; delays at most B -/
def zOK (B : Int) (N : Nat) (D G E P : Int → Int) : Prop :=
  N ≤ 7 ∧ (∀ p : Int, 0 ≤ p → p ≤ N → 1 ≤ D p ∧ D p ≤ B ∧ 1 ≤ G p ∧ G p ≤ 5) ∧ (∀ i : Nat, i < N → 1 ≤ P i ∧ P i ≤ N) ∧ (∀ i j : Nat, i < N → j < N → P i = P j → i = j) ∧ (∀ i : Nat, i < N → E (P i) = 0 ∨ ∃ j : Nat, j < i ∧ E (P i) = P j)
section TICKS
variable {B : Int} {N : Nat} {D G E P : Int → Int}
theorem zOK.surj (h : zOK B N D G E P) (p : Int) (h1 : 1 ≤ p) (h2 : p ≤ N) : ∃ i : Nat, i < N ∧ P i = p := z_pigeon N (fun i => P i) h.2.2.1 (fun i j a b => h.2.2.2.1 i j a b) p h1 h2
theorem zOK.tel (h : zOK B N D G E P) {i : Nat} (hi : i < N) : 0 ≤ E (P i) ∧ E (P i) ≤ N ∧ E (P i) ≠ P i := by
  have hp := h.2.2.1 i hi
  rcases h.2.2.2.2 i hi with e | ⟨j, hj, e⟩
  · omega
  · have hpj := h.2.2.1 j (by omega)
    rw [e]
    refine ⟨by omega, by omega, fun q => ?_⟩
    have := h.2.2.2.1 j i (by omega) hi q
    omega
theorem zOK.v8 (h : zOK B N D G E P) (i : Nat) (hi : i < N) : 0 ≤ P i ∧ P i < 8 ∧ 0 ≤ E (P i) ∧ E (P i) < 8 := by
  have h1 := h.2.2.1 i hi
  have h2 := h.tel hi
  have h3 := h.1
  omega
/-- the bounds along a row -/
theorem zrow_b (h : zOK B N D G E P) (hB : B ≤ 40) (k : Nat) {S : zS} {b : Int} (hb : 0 ≤ b) (h0 : S.1 (k * 8) = 0) (hF : ∀ t : Int, 0 ≤ t → t ≤ N → 0 ≤ S.2.1 t ∧ S.2.1 t ≤ b) (hl : 0 ≤ S.2.2 ∧ S.2.2 ≤ b) :
    ∀ i : Nat, i ≤ N → (zrow D G E P k S i).1 (k * 8) = 0 ∧ (∀ j : Nat, j < i → 0 ≤ (zrow D G E P k S i).1 (k * 8 + P j) ∧ (zrow D G E P k S i).1 (k * 8 + P j) ≤ b + 40 * i) ∧ (∀ t : Int, 0 ≤ t → t ≤ N → 0 ≤ (zrow D G E P k S i).2.1 t ∧ (zrow D G E P k S i).2.1 t ≤ b + 40 * i) ∧ 0 ≤ (zrow D G E P k S i).2.2 ∧ (zrow D G E P k S i).2.2 ≤ b + 40 * i := by
  intro i
  induction i with
  | zero =>
    intro _
    refine ⟨h0, fun j hj => absurd hj (by omega), fun t a c => ?_, ?_⟩
    · have := hF t a c; show 0 ≤ S.2.1 t ∧ S.2.1 t ≤ _; omega
    · show 0 ≤ S.2.2 ∧ S.2.2 ≤ _; omega
  | succ i ih =>
    intro hi
    obtain ⟨i1, i2, i3, i4⟩ := ih (by omega)
    have hp := h.2.2.1 i (by omega)
    have ht := h.tel (show i < N by omega)
    have hd := h.2.1 (E (P i)) (by omega) (by omega)
    have hf := i3 (E (P i)) (by omega) (by omega)
    have hbeg : 0 ≤ zbeg E k (P i) (zrow D G E P k S i) ∧ zbeg E k (P i) (zrow D G E P k S i) ≤ b + 40 * i := by
      have hk : 0 ≤ (zrow D G E P k S i).1 (k * 8 + E (P i)) ∧ (zrow D G E P k S i).1 (k * 8 + E (P i)) ≤ b + 40 * i := by
        rcases h.2.2.2.2 i (by omega) with e | ⟨j, hj, e⟩
        · rw [e, show (k : Int) * 8 + 0 = k * 8 by omega, i1]; omega
        · rw [e]; exact i2 j hj
      unfold zbeg; omega
    show (zstep D G E k (P i) (zrow D G E P k S i)).1 _ = 0 ∧ (∀ j : Nat, j < i + 1 → 0 ≤ (zstep D G E k (P i) (zrow D G E P k S i)).1 _ ∧ (zstep D G E k (P i) (zrow D G E P k S i)).1 _ ≤ _) ∧ (∀ t : Int, 0 ≤ t → t ≤ N → 0 ≤ (zstep D G E k (P i) (zrow D G E P k S i)).2.1 t ∧ (zstep D G E k (P i) (zrow D G E P k S i)).2.1 t ≤ _) ∧ 0 ≤ (zstep D G E k (P i) (zrow D G E P k S i)).2.2 ∧ (zstep D G E k (P i) (zrow D G E P k S i)).2.2 ≤ _
    generalize zrow D G E P k S i = S1 at i1 i2 i3 i4 hf hbeg
    unfold zstep
    refine ⟨?_, fun j hj => ?_, fun t a c => ?_, ?_⟩
    · dsimp only; rw [zst_ne _ _ (by omega)]; exact i1
    · dsimp only
      by_cases ej : P j = P i
      · rw [ej, zst_same]; omega
      · rw [zst_ne _ _ (by omega)]
        have := i2 j (by rcases Nat.lt_or_ge j i with g | g; exact g; exact absurd (by rw [show j = i by omega]) ej)
        omega
    · dsimp only
      by_cases et : t = E (P i)
      · rw [et, zst_same]; omega
      · rw [zst_ne _ _ et]; have := i3 t a c; omega
    · dsimp only; omega
/-- a row leaves the ticks of other news -/
theorem zrow_o (h : zOK B N D G E P) (k : Nat) (S : zS) {q : Int} (hq : ∀ i : Nat, i < N → q ≠ k * 8 + P i) : ∀ i : Nat, i ≤ N → (zrow D G E P k S i).1 q = S.1 q := by
  intro i
  induction i with
  | zero => intro _; rfl
  | succ i ih =>
    intro hi
    show (zstep D G E k (P i) (zrow D G E P k S i)).1 q = _
    unfold zstep
    dsimp only
    rw [zst_ne _ _ (hq i (by omega)), ih (by omega)]
theorem zall_b (h : zOK B N D G E P) (hB : B ≤ 40) {K : Int → Int} (h0 : K 0 = 0 ∧ K 8 = 0 ∧ K 16 = 0) :
    ∀ k : Nat, k ≤ 3 → (∀ j : Nat, j < 3 → (zall D G E P N K k).1 (j * 8) = 0) ∧ (∀ t : Int, 0 ≤ t → t ≤ N → 0 ≤ (zall D G E P N K k).2.1 t ∧ (zall D G E P N K k).2.1 t ≤ 280 * k) ∧ 0 ≤ (zall D G E P N K k).2.2 ∧ (zall D G E P N K k).2.2 ≤ 280 * k := by
  intro k
  induction k with
  | zero =>
    intro _
    refine ⟨fun j hj => ?_, fun t _ _ => ?_, ?_⟩
    · rcases (show j = 0 ∨ j = 1 ∨ j = 2 by omega) with rfl | rfl | rfl
      · exact h0.1
      · exact h0.2.1
      · exact h0.2.2
    · show 0 ≤ (0 : Int) ∧ (0 : Int) ≤ _; omega
    · show 0 ≤ (0 : Int) ∧ (0 : Int) ≤ _; omega
  | succ k ih =>
    intro hk
    obtain ⟨i1, i2, i3⟩ := ih (by omega)
    have hN := h.1
    obtain ⟨r1, r2, r3, r4⟩ := zrow_b h hB k (S := zall D G E P N K k) (b := 280 * k) (by omega) (i1 k (by omega)) i2 i3 N (Nat.le_refl _)
    refine ⟨fun j hj => ?_, fun t a c => ?_, ?_⟩
    · show (zrow D G E P k (zall D G E P N K k) N).1 _ = 0
      rw [zrow_o h k _ (fun i hi => ?_) N (Nat.le_refl _)]
      · exact i1 j hj
      · have := h.2.2.1 i hi; omega
    · have := r3 t a c
      show 0 ≤ (zrow D G E P k (zall D G E P N K k) N).2.1 t ∧ (zrow D G E P k (zall D G E P N K k) N).2.1 t ≤ _
      omega
    · show 0 ≤ (zrow D G E P k (zall D G E P N K k) N).2.2 ∧ (zrow D G E P k (zall D G E P N K k) N).2.2 ≤ _
      omega
/-- two rows that begin alike go on alike -/
theorem zrow_a (h : zOK B N D G E P) (k : Nat) {S S' : zS} (h0 : S.1 (k * 8) = S'.1 (k * 8)) (h2 : S.2 = S'.2) :
    ∀ i : Nat, i ≤ N → (zrow D G E P k S i).1 (k * 8) = (zrow D G E P k S' i).1 (k * 8) ∧ (∀ j : Nat, j < i → (zrow D G E P k S i).1 (k * 8 + P j) = (zrow D G E P k S' i).1 (k * 8 + P j)) ∧ (zrow D G E P k S i).2 = (zrow D G E P k S' i).2 := by
  intro i
  induction i with
  | zero => intro _; exact ⟨h0, fun j hj => absurd hj (by omega), h2⟩
  | succ i ih =>
    intro hi
    obtain ⟨i1, i2, i3⟩ := ih (by omega)
    have hp := h.2.2.1 i (by omega)
    have hbeg : zbeg E k (P i) (zrow D G E P k S i) = zbeg E k (P i) (zrow D G E P k S' i) := by
      unfold zbeg
      rw [i3]
      congr 1
      rcases h.2.2.2.2 i (by omega) with e | ⟨j, hj, e⟩
      · rw [e, show (k : Int) * 8 + 0 = k * 8 by omega, i1]
      · rw [e]; exact i2 j hj
    show (zstep D G E k (P i) (zrow D G E P k S i)).1 _ = (zstep D G E k (P i) (zrow D G E P k S' i)).1 _ ∧ (∀ j : Nat, j < i + 1 → (zstep D G E k (P i) (zrow D G E P k S i)).1 _ = (zstep D G E k (P i) (zrow D G E P k S' i)).1 _) ∧ (zstep D G E k (P i) (zrow D G E P k S i)).2 = (zstep D G E k (P i) (zrow D G E P k S' i)).2
    generalize zrow D G E P k S i = S1 at i1 i2 i3 hbeg
    generalize zrow D G E P k S' i = S2 at i1 i2 i3 hbeg
    unfold zstep
    refine ⟨?_, fun j hj => ?_, ?_⟩
    · dsimp only; rw [zst_ne _ _ (by omega), zst_ne _ _ (by omega)]; exact i1
    · dsimp only
      by_cases ej : P j = P i
      · rw [ej, zst_same, zst_same, hbeg]
      · rw [zst_ne _ _ (by omega), zst_ne _ _ (by omega)]
        exact i2 j (by rcases Nat.lt_or_ge j i with g | g; exact g; exact absurd (by rw [show j = i by omega]) ej)
    · dsimp only; rw [hbeg, i3]
theorem zall_a (h : zOK B N D G E P) {K K' : Int → Int} (h0 : ∀ j : Nat, j < 3 → K (j * 8) = K' (j * 8)) :
    ∀ k : Nat, k ≤ 3 → (∀ j : Nat, j < 3 → (zall D G E P N K k).1 (j * 8) = (zall D G E P N K' k).1 (j * 8)) ∧ (∀ j i : Nat, j < k → i < N → (zall D G E P N K k).1 (j * 8 + P i) = (zall D G E P N K' k).1 (j * 8 + P i)) ∧ (zall D G E P N K k).2 = (zall D G E P N K' k).2 := by
  intro k
  induction k with
  | zero => intro _; exact ⟨h0, fun j i hj => absurd hj (by omega), rfl⟩
  | succ k ih =>
    intro hk
    obtain ⟨i1, i2, i3⟩ := ih (by omega)
    have hN := h.1
    obtain ⟨r1, r2, r3⟩ := zrow_a h k (i1 k (by omega)) i3 N (Nat.le_refl _)
    refine ⟨fun j hj => ?_, fun j i hj hi => ?_, r3⟩
    · show (zrow D G E P k (zall D G E P N K k) N).1 _ = (zrow D G E P k (zall D G E P N K' k) N).1 _
      have hne : ∀ i : Nat, i < N → ((j : Int) * 8) ≠ k * 8 + P i := fun i hi => by have := h.2.2.1 i hi; omega
      rw [zrow_o h k _ hne N (Nat.le_refl _), zrow_o h k _ hne N (Nat.le_refl _)]
      exact i1 j hj
    · show (zrow D G E P k (zall D G E P N K k) N).1 _ = (zrow D G E P k (zall D G E P N K' k) N).1 _
      by_cases ej : j = k
      · subst ej; exact r2 i hi
      · have hpi := h.2.2.1 i hi
        have hne : ∀ i' : Nat, i' < N → ((j : Int) * 8 + P i) ≠ k * 8 + P i' := fun i' hi' => by have := h.2.2.1 i' hi'; omega
        rw [zrow_o h k _ hne N (Nat.le_refl _), zrow_o h k _ hne N (Nat.le_refl _)]
        exact i2 j i (by omega) hi
/-- LAST, and the tick at which one knows a piece of news -/
def zLAST (D G E P : Int → Int) (N M : Nat) : Int := (zall D G E P N (fun _ => 0) M).2.2
def zTK (D G E P : Int → Int) (N M : Nat) (p : Int) (k : Nat) : Int := (zall D G E P N (fun _ => 0) M).1 (k * 8 + p)
theorem zall_tk (h : zOK B N D G E P) {K : Int → Int} (h0 : K 0 = 0 ∧ K 8 = 0 ∧ K 16 = 0) {M : Nat} (hM : M ≤ 3) : (zall D G E P N K M).2.2 = zLAST D G E P N M ∧ ∀ (p : Int) (k : Nat), 0 ≤ p → p ≤ N → k < M → (zall D G E P N K M).1 (k * 8 + p) = zTK D G E P N M p k := by
  obtain ⟨a1, a2, a3⟩ := zall_a h (K := K) (K' := fun _ => 0) (fun j hj => by
    rcases (show j = 0 ∨ j = 1 ∨ j = 2 by omega) with rfl | rfl | rfl
    · exact h0.1
    · exact h0.2.1
    · exact h0.2.2) M hM
  refine ⟨by rw [a3]; rfl, fun p k p1 p2 hk => ?_⟩
  by_cases e : p = 0
  · subst e
    have := a1 k (by omega)
    rw [← show (k : Int) * 8 + 0 = k * 8 by omega] at this
    exact this
  · obtain ⟨i, hi, ei⟩ := h.surj p (by omega) p2
    rw [← ei]
    exact a2 k i hk hi
theorem zLAST_b (h : zOK B N D G E P) (hB : B ≤ 40) {M : Nat} (hM : M ≤ 3) : 0 ≤ zLAST D G E P N M ∧ zLAST D G E P N M ≤ 840 := by
  have := (zall_b h hB (K := fun _ => 0) ⟨rfl, rfl, rfl⟩ M hM).2.2
  unfold zLAST; omega
theorem zTK_b (h : zOK B N D G E P) (hB : B ≤ 40) : ∀ {M : Nat}, M ≤ 3 → ∀ {p : Int} {k : Nat}, 0 ≤ p → p ≤ N → k < M → 0 ≤ zTK D G E P N M p k ∧ zTK D G E P N M p k ≤ 840 := by
  intro M
  induction M with
  | zero => intro _ p k _ _ hk; exact absurd hk (by omega)
  | succ M ih =>
    intro hM p k p1 p2 hk
    have hN := h.1
    obtain ⟨i1, i2, i3⟩ := zall_b h hB (K := fun _ => 0) ⟨rfl, rfl, rfl⟩ M (by omega)
    obtain ⟨r1, r2, r3, r4⟩ := zrow_b h hB M (S := zall D G E P N (fun _ => 0) M) (b := 280 * M) (by omega) (i1 M (by omega)) i2 i3 N (Nat.le_refl _)
    by_cases e : p = 0
    · subst e
      have := (zall_b h hB (K := fun _ => 0) ⟨rfl, rfl, rfl⟩ (M + 1) hM).1 k (by omega)
      unfold zTK
      rw [show (k : Int) * 8 + 0 = k * 8 by omega, this]; omega
    · obtain ⟨i, hi, ei⟩ := h.surj p (by omega) p2
      by_cases ek : k = M
      · subst ek
        have := r2 i hi
        rw [ei] at this
        show 0 ≤ (zrow D G E P k (zall D G E P N (fun _ => 0) k) N).1 _ ∧ (zrow D G E P k (zall D G E P N (fun _ => 0) k) N).1 _ ≤ 840
        omega
      · have := ih (by omega) (k := k) p1 p2 (by omega)
        show 0 ≤ (zrow D G E P M (zall D G E P N (fun _ => 0) M) N).1 _ ∧ (zrow D G E P M (zall D G E P N (fun _ => 0) M) N).1 _ ≤ 840
        rw [zrow_o h M _ (fun i' hi' => by have := h.2.2.1 i' hi'; omega) N (Nat.le_refl _)]
        exact this
end TICKS
section FOLLOW
variable {d : Nat} {h : zH} {Q : Option zV → zH → Prop} {t x : Nat} {B : Int} {N M : Nat} {D G E P K F : Int → Int}
/-- Times.follow, as it is used: LAST; the ticks are there -/
theorem c_follow (hX : zTim h x K F) (h0 : K 0 = 0 ∧ K 8 = 0 ∧ K 16 = 0) (hT : zTel h t ((N + 1 : Nat) : Int) M N D G E P) (hO : zOK B N D G E P) (hB : B ≤ 40) (hM : M ≤ 3) (hx : x + 2 < t ∨ t + 4 < x)
    (hQ : ∀ (h' : zH) (K' F' : Int → Int), zTim h' x K' F' → (K' 0 = 0 ∧ K' 8 = 0 ∧ K' 16 = 0) → (∀ (p : Int) (k : Nat), 0 ≤ p → p ≤ N → k < M → K' (k * 8 + p) = zTK D G E P N M p k) → zMod (x + 1) (x + 2) h h' → Q (some (vI (zLAST D G E P N M))) h') : zC (d + 3) mX8_follow 0 0 [vR x, vR t] h Q := by
  have hN := hO.1
  obtain ⟨t1, t2⟩ := zall_tk hO h0 hM
  have b1 := (zall_b hO hB h0 M hM).1
  refine c_X8_follow hX hT hx hM hN hO.v8 (fun k i hk hi => ?_) ?_
  · obtain ⟨i1, i2, i3⟩ := zall_b hO hB h0 k (by omega)
    obtain ⟨r1, r2, r3, r4⟩ := zrow_b hO hB k (S := zall D G E P N K k) (b := 280 * k) (by omega) (i1 k (by omega)) i2 i3 i (by omega)
    have ht := hO.tel hi
    have hd := hO.2.1 (E (P i)) (by omega) (by omega)
    have hf := r3 (E (P i)) (by omega) (by omega)
    have hk' : 0 ≤ (zrow D G E P k (zall D G E P N K k) i).1 (k * 8 + E (P i)) ∧ (zrow D G E P k (zall D G E P N K k) i).1 (k * 8 + E (P i)) ≤ 280 * k + 40 * i := by
      rcases hO.2.2.2.2 i hi with e | ⟨j, hj, e⟩
      · rw [e, show (k : Int) * 8 + 0 = k * 8 by omega, r1]; omega
      · rw [e]; exact r2 j hj
    refine ⟨?_, ?_, ?_, ?_, ?_, ?_, ?_, ?_⟩ <;> omega
  · rw [t1]
    have := b1 0 (by omega)
    have := b1 1 (by omega)
    have := b1 2 (by omega)
    exact hQ _ _ _ (ztm_Tim hX _) ⟨by simpa using b1 0 (by omega), by simpa using b1 1 (by omega), by simpa using b1 2 (by omega)⟩ t2 (ztm_Mod _ _ _)
end FOLLOW
