/-! THE MODEL: the text, read -/
/-- what is read, behind the first k letters: heads first -/
def zR1 (rp : Int) (RD : Int → Int) (rs rm : Int) : Prop := rp = 1 ∧ (∀ i : Int, 0 ≤ i → i < 33 → RD i = 0) ∧ rs = 1 ∧ rm = 0
def zR2 (C : Int → Int) (rp : Int) (RD : Int → Int) (rs rm : Int) : Prop := rp = 1 ∧ RD 0 = C 1 - 48 ∧ (∀ i : Int, 1 ≤ i → i < 33 → RD i = 0) ∧ rs = 1 ∧ rm = 0
def zz0 : Int → Int := fun _ => 0
def zRS (C : Int → Int) (q : Nat) (k : Nat) (rp : Int) (RD : Int → Int) (rs rm rw : Int) : Prop :=
  rp = q ∧ RD 0 = C 1 - 48 ∧ (∀ p : Nat, p < q → 3 + 2 * p < k → RD (1 + p) = C (3 + 2 * p) - 48) ∧ (∀ p : Nat, p < q → 3 + 2 * p + 1 < k → RD (9 + p) = C (3 + 2 * p + 1) - 48) ∧ rm = (((k - (3 + 2 * q)) / 3 : Nat) : Int) ∧
  (∀ x : Int, 0 ≤ x → x < 8 → zkb rs x = (decide (x = 0) || zstb C x (3 + 2 * q) ((k - (3 + 2 * q)) / 3))) ∧ (∀ x : Int, 1 ≤ x → x < 8 → RD (17 + x) = (zte C (3 + 2 * q) zz0 zz0 ((k - (3 + 2 * q)) / 3)).1 x) ∧ (∀ x : Int, 0 ≤ x → x < 8 → RD (25 + x) = (zte C (3 + 2 * q) zz0 zz0 ((k - (3 + 2 * q)) / 3)).2 x) ∧ (3 + 2 * q ≤ k → (k - (3 + 2 * q)) % 3 = 2 → rw = C ((k : Int) - 1) - 48) ∧ (-2147483648 ≤ rs ∧ rs ≤ 2147483647)
def zRI3 (C : Int → Int) (k : Nat) (rp : Int) (RD : Int → Int) (rs rm rw : Int) : Prop := (k = 1 ∧ zR1 rp RD rs rm) ∨ (k = 2 ∧ zR2 C rp RD rs rm) ∨ (3 ≤ k ∧ ∃ q : Nat, C 2 - 48 = q ∧ 1 ≤ q ∧ q ≤ 8 ∧ zRS C q k rp RD rs rm rw)
section MTEXT0
variable {C : Int → Int} {k q : Nat} {rp : Int} {RD : Int → Int} {rs rm rw : Int}
theorem zfit1 (C : Int → Int) : zfits C 1 = decide (1 ≤ C 1 - 48 ∧ C 1 - 48 ≤ 3) := rfl
theorem zfit2 (C : Int → Int) : zfits C 2 = decide (1 ≤ C 2 - 48 ∧ C 2 - 48 ≤ 8) := rfl
theorem zfit3 {i : Int} (hq : C 2 - 48 = q) (hi : 3 ≤ i ∧ i < 3 + 2 * q) : zfits C i = decide (1 ≤ C i - 48 ∧ C i - 48 ≤ (if (i - 3) % 2 = 0 then 9 else 5)) := by
  unfold zfits
  rw [if_neg (by omega), if_neg (by omega), if_neg (by omega), hq, if_pos hi.2]
theorem zfit4 {i : Int} (hq : C 2 - 48 = q) (hi : 3 + 2 * (q : Int) ≤ i ∧ i < 3 + 2 * q + 3 * ((q : Int) - 1)) : zfits C i = (if (i - (3 + 2 * (q : Int))) % 3 = 0 then decide (C i = 116)
    else if (i - (3 + 2 * (q : Int))) % 3 = 1 then decide (1 ≤ C i - 48 ∧ C i - 48 ≤ (q : Int) - 1) && !zstb C (C i - 48) (3 + 2 * q) ((i - (3 + 2 * (q : Int))) / 3).toNat
    else decide (C i - 48 = 0) || zstb C (C i - 48) (3 + 2 * q) ((i - (3 + 2 * (q : Int))) / 3).toNat) := by
  unfold zfits
  rw [if_neg (by omega), if_neg (by omega), if_neg (by omega), hq, if_neg (by omega), if_pos hi.2]
theorem zfit5 {i : Int} (hq : C 2 - 48 = q) (hi : 3 ≤ i ∧ 3 + 2 * (q : Int) ≤ i ∧ 3 + 2 * q + 3 * ((q : Int) - 1) ≤ i) : zfits C i = false := by
  unfold zfits
  rw [if_neg (by omega), if_neg (by omega), if_neg (by omega), hq, if_neg (by omega), if_neg (by omega)]
theorem zR1.nx (h : zR1 rp RD rs rm) : zR2 C rp (zst RD 0 (C 1 - 48)) rs rm := by
  obtain ⟨a, b, c, e⟩ := h
  exact ⟨a, zst_same _ _ _, fun i h1 h2 => by rw [zst_ne _ _ (by omega)]; exact b i (by omega) h2, c, e⟩
theorem zR2.nx (h : zR2 C rp RD rs rm) (hq : 1 ≤ q) : zRS C q 3 q RD rs rm rw := by
  obtain ⟨a, b, c, e, f⟩ := h
  have hj : (3 - (3 + 2 * q)) / 3 = 0 := by omega
  refine ⟨rfl, b, fun p h1 h2 => by omega, fun p h1 h2 => by omega, by rw [hj, f]; rfl, fun x h1 h2 => ?_, fun x h1 h2 => ?_, fun x h1 h2 => ?_, fun h1 => by omega, by omega⟩
  · rw [hj, e, zkb_1 (by omega)]; simp [zstb]
  · rw [hj, c _ (by omega) (by omega)]; rfl
  · rw [hj, c _ (by omega) (by omega)]; rfl
theorem zRS.hd (h : zRS C q k rp RD rs rm rw) (hk : 3 ≤ k ∧ k < 3 + 2 * q) (hq : q ≤ 8) {i : Int} (hi : if k % 2 = 1 then i = 1 + ((k : Int) - 3) / 2 else i = 9 + ((k : Int) - 3) / 2) : zRS C q (k + 1) rp (zst RD i (C k - 48)) rs rm rw := by
  obtain ⟨a, b, c, e, f, g, h1, h2, h3, h4⟩ := h
  have hj : (k + 1 - (3 + 2 * q)) / 3 = (k - (3 + 2 * q)) / 3 := by omega
  have hib : 1 ≤ i ∧ i ≤ 16 := by split at hi <;> omega
  refine ⟨a, by rw [zst_ne _ _ (by omega)]; exact b, fun p p1 p2 => ?_, fun p p1 p2 => ?_, by rw [hj]; exact f, fun x x1 x2 => by rw [hj]; exact g x x1 x2, fun x x1 x2 => by rw [hj, zst_ne _ _ (by omega)]; exact h1 x x1 x2, fun x x1 x2 => by rw [hj, zst_ne _ _ (by omega)]; exact h2 x x1 x2, fun x1 x2 => by omega, h4⟩
  · by_cases e1 : 3 + 2 * p = k
    · rw [if_pos (by omega)] at hi
      rw [show 1 + (p : Int) = i by omega, zst_same, ← e1]; rfl
    · rw [zst_ne _ _ (by split at hi <;> omega)]; exact c p p1 (by omega)
  · by_cases e1 : 3 + 2 * p + 1 = k
    · rw [if_neg (by omega)] at hi
      rw [show 9 + (p : Int) = i by omega, zst_same, ← e1]; rfl
    · rw [zst_ne _ _ (by split at hi <;> omega)]; exact e p p1 (by omega)
theorem zRS.p0 (h : zRS C q k rp RD rs rm rw) (hk : 3 + 2 * q ≤ k) (hr : (k - (3 + 2 * q)) % 3 = 0) : zRS C q (k + 1) rp RD rs rm rw := by
  obtain ⟨a, b, c, e, f, g, h1, h2, h3, h4⟩ := h
  have hj : (k + 1 - (3 + 2 * q)) / 3 = (k - (3 + 2 * q)) / 3 := by omega
  refine ⟨a, b, fun p p1 p2 => c p p1 (by omega), fun p p1 p2 => e p p1 (by omega), ?_, ?_, ?_, ?_, fun _ _ => by omega, h4⟩ <;> rw [hj]
  · exact f
  · exact g
  · exact h1
  · exact h2
theorem zRS.p1 (h : zRS C q k rp RD rs rm rw) (hk : 3 + 2 * q ≤ k) (hr : (k - (3 + 2 * q)) % 3 = 1) : zRS C q (k + 1) rp RD rs rm (C k - 48) := by
  obtain ⟨a, b, c, e, f, g, h1, h2, h3, h4⟩ := h
  have hj : (k + 1 - (3 + 2 * q)) / 3 = (k - (3 + 2 * q)) / 3 := by omega
  refine ⟨a, b, fun p p1 p2 => c p p1 (by omega), fun p p1 p2 => e p p1 (by omega), ?_, ?_, ?_, ?_, fun _ _ => by rw [show ((k + 1 : Nat) : Int) - 1 = (k : Int) by omega], h4⟩ <;> rw [hj]
  · exact f
  · exact g
  · exact h1
  · exact h2
theorem zRS.p2 (h : zRS C q k rp RD rs rm rw) (hq : q ≤ 8) (hk : 3 + 2 * q ≤ k) (hr : (k - (3 + 2 * q)) % 3 = 2) (hw : 1 ≤ rw ∧ rw < 8) (hm : rm < 8) : zRS C q (k + 1) rp (zst (zst RD (17 + rw) (C k - 48)) (25 + rm) rw) (zor rs (zshl 1 rw)) (rm + 1) rw := by
  obtain ⟨a, b, c, e, f, g, h1, h2, h3, h4⟩ := h
  have hj : (k + 1 - (3 + 2 * q)) / 3 = (k - (3 + 2 * q)) / 3 + 1 := by omega
  have hw2 := h3 hk hr
  generalize hjj : (k - (3 + 2 * q)) / 3 = j at hj f g h1 h2
  have ew : C (3 + 2 * (q : Int) + 3 * j + 1) - 48 = rw := by rw [hw2]; congr 2; omega
  have ew' : C (3 + 2 * (q : Int) + 1 + 3 * j) - 48 = rw := by rw [hw2]; congr 2; omega
  have ek : C (3 + 2 * (q : Int) + 3 * j + 2) - 48 = C k - 48 := by congr 2; omega
  refine ⟨a, by rw [zst_ne _ _ (by omega), zst_ne _ _ (by omega)]; exact b, fun p p1 p2 => by rw [zst_ne _ _ (by omega), zst_ne _ _ (by omega)]; exact c p p1 (by omega), fun p p1 p2 => by rw [zst_ne _ _ (by omega), zst_ne _ _ (by omega)]; exact e p p1 (by omega), by rw [hj, f]; rfl, fun x x1 x2 => ?_, fun x x1 x2 => ?_, fun x x1 x2 => ?_, fun _ _ => by omega, zr_or _ _⟩
  · rw [hj, zkb_or (by omega) (by omega), g x x1 x2]
    have es : zstb C x (3 + 2 * (q : Int)) (j + 1) = (zstb C x (3 + 2 * (q : Int)) j || decide (C (3 + 2 * (q : Int) + 1 + 3 * j) - 48 = x)) := rfl
    have ed : decide (x = rw) = decide (rw = x) := decide_eq_decide.mpr ⟨fun e => e.symm, fun e => e.symm⟩
    rw [es, ew', Bool.or_assoc, ed]
  · rw [hj]
    unfold zte
    dsimp only
    rw [ew, ek, zst_ne _ _ (by omega)]
    by_cases e1 : x = rw
    · rw [e1, zst_same, zst_same]
    · rw [zst_ne _ _ (by omega), zst_ne _ _ e1]; exact h1 x x1 x2
  · rw [hj]
    unfold zte
    dsimp only
    rw [ew]
    by_cases e1 : x = rm
    · rw [e1, zst_same, f, zst_same]
    · rw [zst_ne _ _ (by omega), zst_ne _ _ (by omega), zst_ne _ _ (by omega)]; exact h2 x x1 x2
end MTEXT0
