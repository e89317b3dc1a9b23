/-! MOVED, CHANGED: THE PLAN stays in order -/
def zpl (P : Int → Int) (k : Nat) : List Int := (List.range k).map (fun i => P (i : Nat))
/-- those that are not in b, then those that are -/
def zprt (b : Int) (P : Int → Int) (N : Nat) : List Int := (zpl P N).filter (fun q => !zkb b q) ++ (zpl P N).filter (fun q => zkb b q)
theorem zpl_s (P : Int → Int) (k : Nat) : zpl P (k + 1) = zpl P k ++ [P k] := by unfold zpl; rw [List.range_succ, List.map_append]; rfl
theorem zpl_len (P : Int → Int) (k : Nat) : (zpl P k).length = k := by simp [zpl]
theorem zpl_at (P : Int → Int) {k j : Nat} (h : j < k) : (zpl P k)[j]? = some (P j) := by simp [zpl, h]
theorem zpl_drop (P : Int → Int) {N k : Nat} (h : k < N) : (zpl P N).drop k = P k :: (zpl P N).drop (k + 1) := by
  rw [List.drop_eq_getElem_cons (by rw [zpl_len]; exact h)]
  congr 1
  have := zpl_at P h
  rw [List.getElem?_eq_getElem (by rw [zpl_len]; exact h)] at this
  exact Option.some.inj this
section MOVE
variable {B : Int} {N : Nat} {D G E P : Int → Int}
theorem zgv_list {b : Int} (hP : ∀ i : Nat, i < N → 0 ≤ P i ∧ P i < 32) : ∀ k : Nat, k ≤ N → (zgv b N P k).1 = (((zpl P k).filter (fun q => !zkb b q)).length : Int) ∧ ((zpl P k).filter (fun q => !zkb b q)).length + ((zpl P k).filter (fun q => zkb b q)).length = k ∧ ∀ j : Nat, j < N → ((zpl P k).filter (fun q => !zkb b q) ++ ((zpl P N).drop k ++ (zpl P k).filter (fun q => zkb b q)))[j]? = some ((zgv b N P k).2 j) := by
  intro k
  induction k with
  | zero =>
    intro _
    refine ⟨rfl, rfl, fun j hj => ?_⟩
    simp only [zpl, List.range_zero, List.map_nil, List.filter_nil, List.nil_append, List.append_nil, List.drop_zero]
    exact zpl_at P hj
  | succ k ih =>
    intro hk
    obtain ⟨i1, i2, i3⟩ := ih (by omega)
    rw [zpl_drop P (show k < N by omega)] at i3
    rw [zpl_s, List.filter_append, List.filter_append]
    have hu := hP k (by omega)
    have hlen : ((zpl P N).drop (k + 1)).length = N - (k + 1) := by rw [List.length_drop, zpl_len]
    generalize (zpl P k).filter (fun q => !zkb b q) = A at i1 i2 i3
    generalize (zpl P k).filter (fun q => zkb b q) = C at i2 i3
    generalize (zpl P N).drop (k + 1) = R at i3 hlen
    have ha : (zgv b N P k).2 (zgv b N P k).1 = P k := by
      have := i3 A.length (by omega)
      rw [List.getElem?_append_right (Nat.le_refl _), Nat.sub_self] at this
      rw [i1]
      exact (Option.some.inj this).symm
    cases hz : zkb b (P k) with
    | false =>
      rw [show zgv b N P (k + 1) = ((zgv b N P k).1 + 1, (zgv b N P k).2) from if_pos (by rw [ha]; exact (z_has0 hu).mpr hz)]
      simp only [List.filter_cons, hz, Bool.not_false, if_true, List.filter_nil, List.append_nil]
      refine ⟨by simp; omega, by simp; omega, fun j hj => ?_⟩
      rw [List.append_assoc]
      simp only [Bool.false_eq_true, if_false, List.append_nil]
      exact i3 j hj
    | true =>
      rw [show zgv b N P (k + 1) = ((zgv b N P k).1, zrot (zgv b N P k).2 (zgv b N P k).1 N) from if_neg (by rw [ha]; intro q; rw [(z_has0 hu).mp q] at hz; exact absurd hz (by decide))]
      simp only [List.filter_cons, hz, Bool.not_true, if_true, List.filter_nil, List.append_nil]
      refine ⟨by simpa using i1, by simp; omega, fun j hj => ?_⟩
      simp only [Bool.false_eq_true, if_false, List.append_nil]
      unfold zrot
      by_cases e1 : (zgv b N P k).1 ≤ (j : Int) ∧ (j : Int) < (N : Int) - 1
      · rw [if_pos e1]
        have h1 := i3 (j + 1) (by omega)
        rw [List.getElem?_append_right (by omega)] at h1
        rw [List.getElem?_append_right (by omega)]
        rw [show j + 1 - A.length = (j - A.length) + 1 by omega, List.cons_append, List.getElem?_cons_succ] at h1
        rw [show ((j : Int) + 1) = ((j + 1 : Nat) : Int) by omega, ← h1, ← List.append_assoc, List.getElem?_append_left (by rw [List.length_append]; omega)]
      · rw [if_neg e1]
        by_cases e2 : (j : Int) = (N : Int) - 1
        · rw [if_pos e2, ha, ← List.append_assoc, ← List.append_assoc, List.getElem?_append_right (by simp only [List.length_append]; omega)]
          have : j - (A ++ R ++ C).length = 0 := by simp only [List.length_append]; omega
          rw [this]; rfl
        · rw [if_neg e2]
          have h1 := i3 j hj
          rw [List.getElem?_append_left (by omega)] at h1
          rw [List.getElem?_append_left (by omega)]
          exact h1
/-- the new plan, place by place -/
theorem zgv_prt {b : Int} (hP : ∀ i : Nat, i < N → 0 ≤ P i ∧ P i < 32) {j : Nat} (hj : j < N) : (zprt b P N)[j]? = some ((zgv b N P N).2 j) := by
  have := (zgv_list (b := b) hP N (Nat.le_refl _)).2.2 j hj
  rw [show (zpl P N).drop N = [] from List.drop_eq_nil_of_le (by rw [zpl_len]; exact Nat.le_refl _), List.nil_append] at this
  exact this
/-- one and all that it tells -/
theorem zbrn_i (hO : zOK B N D G E P) {p : Int} (hp : 1 ≤ p ∧ p ≤ N) : ∀ i : Nat, i ≤ N → (zkb (zbrn E P p i) p = true) ∧ (∀ q : Int, 0 ≤ q → q ≤ N → zkb (zbrn E P p i) q = true → q = p ∨ ∃ j : Nat, j < i ∧ P j = q) ∧ (∀ j : Nat, j < i → (zkb (zbrn E P p i) (P j) = true ↔ P j = p ∨ zkb (zbrn E P p i) (E (P j)) = true)) := by
  have hN := hO.1
  have h1 : ∀ q : Int, 0 ≤ q → q ≤ N → (zkb (zshl 1 p) q = true ↔ q = p) := fun q a b => by
    unfold zkb
    rw [zt_shl1 (by omega) (by omega)]
    simp; omega
  intro i
  induction i with
  | zero =>
    intro _
    refine ⟨(h1 p (by omega) (by omega)).mpr rfl, fun q a b k => Or.inl ((h1 q a b).mp k), fun j hj => absurd hj (by omega)⟩
  | succ i ih =>
    intro hi
    obtain ⟨i1, i2, i3⟩ := ih (by omega)
    have hpi := hO.2.2.1 i (by omega)
    have hti := hO.tel (show i < N by omega)
    have hPj : ∀ j : Nat, j < i → P j ≠ P i := fun j hj e => by have := hO.2.2.2.1 j i (by omega) (by omega) e; omega
    have hEj : ∀ j : Nat, j < i → E (P j) ≠ P i := fun j hj e => by
      rcases hO.2.2.2.2 j (by omega) with q | ⟨j', hj', q⟩
      · omega
      · exact hPj j' (by omega) (q.symm.trans e)
    unfold zbrn
    split
    · next c0 =>
      have c := (z_has0 (by omega)).mp c0
      refine ⟨i1, fun q a b k => ?_, fun j hj => ?_⟩
      · rcases i2 q a b k with e | ⟨j, hj, e⟩
        · exact Or.inl e
        · exact Or.inr ⟨j, by omega, e⟩
      · by_cases ej : j = i
        · subst ej
          rw [c]
          constructor
          · intro k
            rcases i2 (P j) (by omega) (by omega) k with e | ⟨j', hj', e⟩
            · exact Or.inl e
            · exact absurd e (hPj j' hj')
          · rintro (e | e)
            · rw [e]; exact i1
            · exact absurd e (by decide)
        · exact i3 j (by omega)
    · next c0 =>
      have c : zkb (zbrn E P p i) (E (P i)) = true := by
        cases hz : zkb (zbrn E P p i) (E (P i)) with
        | true => rfl
        | false => exact absurd ((z_has0 (by omega)).mpr hz) c0
      have ho : ∀ q : Int, 0 ≤ q → q ≤ N → (zkb (zor (zbrn E P p i) (zshl 1 (P i))) q = true ↔ zkb (zbrn E P p i) q = true ∨ q = P i) := fun q a b => zkb_orT (by omega) (by omega)
      refine ⟨(ho p (by omega) (by omega)).mpr (Or.inl i1), fun q a b k => ?_, fun j hj => ?_⟩
      · rcases (ho q a b).mp k with k | e
        · rcases i2 q a b k with e | ⟨j, hj, e⟩
          · exact Or.inl e
          · exact Or.inr ⟨j, by omega, e⟩
        · exact Or.inr ⟨i, by omega, e.symm⟩
      · have hpj := hO.2.2.1 j (by omega)
        have htj := hO.tel (show j < N by omega)
        rw [ho (P j) (by omega) (by omega), ho (E (P j)) (by omega) (by omega)]
        by_cases ej : j = i
        · subst ej
          exact ⟨fun _ => Or.inr (Or.inl c), fun _ => Or.inr rfl⟩
        · have := i3 j (by omega)
          constructor
          · rintro (k | k)
            · rcases this.mp k with e | e
              · exact Or.inl e
              · exact Or.inr (Or.inl e)
            · exact absurd k (hPj j (by omega))
          · rintro (e | e | e)
            · exact Or.inl (this.mpr (Or.inl e))
            · exact Or.inl (this.mpr (Or.inr e))
            · exact absurd e (hEj j (by omega))
/-- the places of a partition: each old place has a new one; the order among those of one side stays -/
theorem zprt_pos (b : Int) (P : Int → Int) : ∀ N : Nat, ∃ f : Nat → Nat, (∀ i, i < N → f i < N ∧ (zprt b P N)[f i]? = some (P i)) ∧ (∀ i j, i < N → j < i → zkb b (P i) = zkb b (P j) → f j < f i) ∧ (∀ i j, i < N → j < N → zkb b (P i) = true → zkb b (P j) = false → f j < f i) := by
  intro N
  refine ⟨fun i => if zkb b (P i) = true then ((zpl P N).filter (fun q => !zkb b q)).length + ((zpl P i).filter (fun q => zkb b q)).length else ((zpl P i).filter (fun q => !zkb b q)).length, ?_, ?_, ?_⟩
  · intro i hi
    have hsplit : zpl P N = zpl P i ++ (P i :: (zpl P N).drop (i + 1)) := by
      rw [← zpl_drop P hi]
      have : zpl P i = (zpl P N).take i := by
        unfold zpl; rw [← List.map_take, List.take_range]; congr 2; omega
      rw [this, List.take_append_drop]
    have htot : ((zpl P N).filter (fun q => !zkb b q)).length + ((zpl P N).filter (fun q => zkb b q)).length = N := by
      have key : ∀ l : List Int, (l.filter (fun q => !zkb b q)).length + (l.filter (fun q => zkb b q)).length = l.length := by
        intro l
        induction l with
        | nil => rfl
        | cons x l ih => simp only [List.filter_cons, List.length_cons]; cases zkb b x <;> simp <;> omega
      have := key (zpl P N)
      rw [zpl_len] at this
      exact this
    dsimp only
    cases hz : zkb b (P i) with
    | false =>
      have hf : (zpl P N).filter (fun q => !zkb b q) = (zpl P i).filter (fun q => !zkb b q) ++ (P i :: ((zpl P N).drop (i + 1)).filter (fun q => !zkb b q)) := by
        rw [hsplit, List.filter_append, List.filter_cons]; simp only [hz, Bool.not_false, if_true]
        rw [← hsplit]
      rw [if_neg (by decide)]
      have hlt : ((zpl P i).filter (fun q => !zkb b q)).length < ((zpl P N).filter (fun q => !zkb b q)).length := by rw [hf]; simp
      refine ⟨by omega, ?_⟩
      unfold zprt
      rw [List.getElem?_append_left hlt, hf, List.getElem?_append_right (Nat.le_refl _), Nat.sub_self]
      rfl
    | true =>
      have hf : (zpl P N).filter (fun q => zkb b q) = (zpl P i).filter (fun q => zkb b q) ++ (P i :: ((zpl P N).drop (i + 1)).filter (fun q => zkb b q)) := by
        rw [hsplit, List.filter_append, List.filter_cons]; simp only [hz, if_true]
        rw [← hsplit]
      rw [if_pos rfl]
      have hlt : ((zpl P i).filter (fun q => zkb b q)).length < ((zpl P N).filter (fun q => zkb b q)).length := by rw [hf]; simp
      refine ⟨by omega, ?_⟩
      unfold zprt
      rw [List.getElem?_append_right (by omega), Nat.add_sub_cancel_left, hf, List.getElem?_append_right (Nat.le_refl _), Nat.sub_self]
      rfl
  · intro i j hi hj hz
    have hsub : ∀ (g : Int → Bool), g (P j) = true → ((zpl P j).filter g).length < ((zpl P i).filter g).length := by
      intro g hg
      have h1 : (zpl P (j + 1)).length ≤ i := by rw [zpl_len]; omega
      have h2 : zpl P i = zpl P (j + 1) ++ (zpl P i).drop (j + 1) := by
        have : zpl P (j + 1) = (zpl P i).take (j + 1) := by unfold zpl; rw [← List.map_take, List.take_range]; congr 2; omega
        rw [this, List.take_append_drop]
      rw [h2, List.filter_append, zpl_s, List.filter_append, List.filter_cons]
      simp [hg]
    dsimp only
    rw [hz]
    cases hb : zkb b (P j) with
    | false =>
      rw [if_neg (by decide), if_neg (by decide)]
      exact hsub (fun q => !zkb b q) (by simp [hb])
    | true =>
      rw [if_pos rfl, if_pos rfl]
      have := hsub (fun q => zkb b q) hb
      omega
  · intro i j hi hj h1 h2
    dsimp only
    rw [h1, h2, if_pos rfl, if_neg (by decide)]
    have : ((zpl P j).filter (fun q => !zkb b q)).length < ((zpl P N).filter (fun q => !zkb b q)).length := by
      have h3 : zpl P N = zpl P (j + 1) ++ (zpl P N).drop (j + 1) := by
        have : zpl P (j + 1) = (zpl P N).take (j + 1) := by unfold zpl; rw [← List.map_take, List.take_range]; congr 2; omega
        rw [this, List.take_append_drop]
      rw [h3, List.filter_append, zpl_s, List.filter_append, List.filter_cons]
      simp [h2]
    omega
end MOVE
