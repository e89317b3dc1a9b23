/-! ROWS OF THE ABSTRACT MACHINE: one for an instruction -/
theorem zmem {w : Cond} (i : Nat) (h : lw_tbl[i]? = some w) (g : goodWord w = true) : w ∈ zW := List.mem_filter.mpr ⟨List.mem_of_getElem? h, g⟩
theorem z_rng {x : Int} (h : -2147483648 ≤ x ∧ x ≤ 2147483647) : (Int32.ofInt x).toInt = x := Int32.toInt_ofInt_of_le (by omega) (by omega)
theorem z_rngJ {x : Int} (h : -9223372036854775808 ≤ x ∧ x ≤ 9223372036854775807) : (Int64.ofInt x).toInt = x := Int64.toInt_ofInt_of_le (by omega) (by omega)
theorem z_lt {x y : Int} (hx : -2147483648 ≤ x ∧ x ≤ 2147483647) (hy : -2147483648 ≤ y ∧ y ≤ 2147483647) : Int32.ofInt x < Int32.ofInt y ↔ x < y := by rw [Int32.lt_iff_toInt_lt, z_rng hx, z_rng hy]
theorem z_le {x y : Int} (hx : -2147483648 ≤ x ∧ x ≤ 2147483647) (hy : -2147483648 ≤ y ∧ y ≤ 2147483647) : Int32.ofInt x ≤ Int32.ofInt y ↔ x ≤ y := by rw [Int32.le_iff_toInt_le, z_rng hx, z_rng hy]
theorem z_eq {x y : Int} (hx : -2147483648 ≤ x ∧ x ≤ 2147483647) (hy : -2147483648 ≤ y ∧ y ≤ 2147483647) : Int32.ofInt x = Int32.ofInt y ↔ x = y := by rw [← Int32.toInt_inj, z_rng hx, z_rng hy]
theorem z_ltJ {x y : Int} (hx : -9223372036854775808 ≤ x ∧ x ≤ 9223372036854775807) (hy : -9223372036854775808 ≤ y ∧ y ≤ 9223372036854775807) : Int64.ofInt x < Int64.ofInt y ↔ x < y := by rw [Int64.lt_iff_toInt_lt, z_rngJ hx, z_rngJ hy]
theorem z_eqJ {x y : Int} (hx : -9223372036854775808 ≤ x ∧ x ≤ 9223372036854775807) (hy : -9223372036854775808 ≤ y ∧ y ≤ 9223372036854775807) : Int64.ofInt x = Int64.ofInt y ↔ x = y := by rw [← Int64.toInt_inj, z_rngJ hx, z_rngJ hy]
def zand (x y : Int) : Int := (Int32.ofInt x &&& Int32.ofInt y).toInt
def zor (x y : Int) : Int := (Int32.ofInt x ||| Int32.ofInt y).toInt
def zxor (x y : Int) : Int := (Int32.ofInt x ^^^ Int32.ofInt y).toInt
def zshl (x y : Int) : Int := (Int32.ofInt x <<< (Int32.ofInt y &&& 31)).toInt
def zshr (x y : Int) : Int := (Int32.ofInt x >>> (Int32.ofInt y &&& 31)).toInt
def zushr (x y : Int) : Int := ((Int32.ofInt x).toUInt32 >>> ((Int32.ofInt y).toUInt32 &&& Int32.toUInt32 31)).toInt32.toInt
def zlshl (x y : Int) : Int := (Int64.ofInt x <<< ((Int32.ofInt y).toInt64 &&& 63)).toInt
def zlushr (x y : Int) : Int := ((Int64.ofInt x).toUInt64 >>> ((Int32.ofInt y).toInt64.toUInt64 &&& Int64.toUInt64 63)).toInt64.toInt
def zland (x y : Int) : Int := (Int64.ofInt x &&& Int64.ofInt y).toInt
def zlor (x y : Int) : Int := (Int64.ofInt x ||| Int64.ofInt y).toInt
def zl2i (x : Int) : Int := (Int64.ofInt x).toInt32.toInt
/-- what is on top of the stack behind a call -/
def zpush (v : Option zV) (st : List zV) : List zV := match v with
  | none => st
  | some a => a :: st
/-- a local is written: one of two places that lies ahead is gone -/
def zset (L : List (Option zV)) (i : Nat) (v : zV) : List (Option zV) := match i with
  | 0 => L.set 0 (some v)
  | i + 1 => (match L[i]? with
    | some (some (.inr (.inl _))) => (L.set i none).set (i + 1) (some v)
    | _ => L.set (i + 1) (some v))
def zset2 (L : List (Option zV)) (i : Nat) (v : zV) : List (Option zV) := (zset L i v).set (i + 1) none
section ZROWS
variable {d : Nat} {M : zM} {mr : zK} {pc : Nat} {L : List (Option zV)} {st : List zV} {h : zH} {Q : Option zV → zH → Prop}

theorem z_iconst {v : Int} (n : Nat) (dd : decode M.2.1 pc = .ok (.iconst v, 1)) (hn : pc + 1 = n) (k : Z d M mr n L (vI v :: st) h Q) : Z d M mr pc L (st) h Q := by
  subst hn
  intro p l e R s m args below meth c D r G H locs ls C0 hG hL hR hS
  have K := k p l e R s m args below meth c D r G H locs ls C0 hG hL hR hS
  refine lv_iconst C0.1 C0.2.1 dd rfl ?_
  simpa only [List.map_cons, zv] using K

theorem z_bipush {v : Int} (n : Nat) (dd : decode M.2.1 pc = .ok (.bipush v, 2)) (hn : pc + 2 = n) (hv : (Int8.ofInt v).toInt32 = Int32.ofInt v) (k : Z d M mr n L (vI v :: st) h Q) : Z d M mr pc L (st) h Q := by
  subst hn
  intro p l e R s m args below meth c D r G H locs ls C0 hG hL hR hS
  have K := k p l e R s m args below meth c D r G H locs ls C0 hG hL hR hS
  refine lv_bipush C0.1 C0.2.1 dd hv ?_
  simpa only [List.map_cons, zv] using K

theorem z_sipush {v : Int} (n : Nat) (dd : decode M.2.1 pc = .ok (.sipush v, 3)) (hn : pc + 3 = n) (hv : (Int16.ofInt v).toInt32 = Int32.ofInt v) (k : Z d M mr n L (vI v :: st) h Q) : Z d M mr pc L (st) h Q := by
  subst hn
  intro p l e R s m args below meth c D r G H locs ls C0 hG hL hR hS
  have K := k p l e R s m args below meth c D r G H locs ls C0 hG hL hR hS
  refine lv_sipush C0.1 C0.2.1 dd hv ?_
  simpa only [List.map_cons, zv] using K

theorem z_lconst {v : Fin 2} (n : Nat) (dd : decode M.2.1 pc = .ok (.lconst v, 1)) (hn : pc + 1 = n) (k : Z d M mr n L (vJ (v.val : Int) :: st) h Q) : Z d M mr pc L (st) h Q := by
  subst hn
  intro p l e R s m args below meth c D r G H locs ls C0 hG hL hR hS
  have K := k p l e R s m args below meth c D r G H locs ls C0 hG hL hR hS
  refine lv_lconst (v := Int64.ofInt ((v.val : Nat) : Int)) C0.1 C0.2.1 dd Int64.ofInt_eq_ofNat.symm ?_
  simpa only [List.map_cons, zv] using K

theorem z_null  (n : Nat) (dd : decode M.2.1 pc = .ok (.aconst_null, 1)) (hn : pc + 1 = n) (k : Z d M mr n L (vN :: st) h Q) : Z d M mr pc L (st) h Q := by
  subst hn
  intro p l e R s m args below meth c D r G H locs ls C0 hG hL hR hS
  have K := k p l e R s m args below meth c D r G H locs ls C0 hG hL hR hS
  refine lv_null C0.1 C0.2.1 dd ?_
  simpa only [List.map_cons, zv] using K

theorem z_ldc {idx : Nat} {x : Int} (n : Nat) (dd : decode M.2.1 pc = .ok (.ldc idx, 2)) (hn : pc + 2 = n) (hw : Cond.constant M.1.cls idx (Int32.ofInt x) ∈ zW) (k : Z d M mr n L (vI x :: st) h Q) : Z d M mr pc L st h Q := by
  subst hn
  intro p l e R s m args below meth c D r G H locs ls C0 hG hL hR hS
  have K := k p l e R s m args below meth c D r G H locs ls C0 hG hL hR hS
  exact lv_ldc C0.1 C0.2.1 C0.2.2.2.1 (C0.2.2.2.2.1 _ hw) dd K

theorem z_ldcw {idx : Nat} {x : Int} (n : Nat) (dd : decode M.2.1 pc = .ok (.ldc_w idx, 3)) (hn : pc + 3 = n) (hw : Cond.constant M.1.cls idx (Int32.ofInt x) ∈ zW) (k : Z d M mr n L (vI x :: st) h Q) : Z d M mr pc L st h Q := by
  subst hn
  intro p l e R s m args below meth c D r G H locs ls C0 hG hL hR hS
  have K := k p l e R s m args below meth c D r G H locs ls C0 hG hL hR hS
  exact lv_ldcw C0.1 C0.2.1 C0.2.2.2.1 (C0.2.2.2.2.1 _ hw) dd K

theorem z_ldc2 {idx : Nat} {x : Int} (n : Nat) (dd : decode M.2.1 pc = .ok (.ldc2_w idx, 3)) (hn : pc + 3 = n) (hw : Cond.constantLong M.1.cls idx (Int64.ofInt x) ∈ zW) (k : Z d M mr n L (vJ x :: st) h Q) : Z d M mr pc L st h Q := by
  subst hn
  intro p l e R s m args below meth c D r G H locs ls C0 hG hL hR hS
  have K := k p l e R s m args below meth c D r G H locs ls C0 hG hL hR hS
  exact lv_ldc2 C0.1 C0.2.1 C0.2.2.2.1 (C0.2.2.2.2.1 _ hw) dd K

theorem z_iload {i : Nat} {x : Int} (n : Nat) (dd : decode M.2.1 pc = .ok (.iload i, 2)) (hn : pc + 2 = n) (hl : L[i]? = some (some (vI x))) (k : Z d M mr n L (vI x :: st) h Q) : Z d M mr pc L st h Q := by
  subst hn
  intro p l e R s m args below meth c D r G H locs ls C0 hG hL hR hS
  have K := k p l e R s m args below meth c D r G H locs ls C0 hG hL hR hS
  exact lv_iload C0.1 C0.2.1 dd (hL.2.2 i _ hl) K
theorem z_iload_n {i : Fin 4} {x : Int} (n : Nat) (dd : decode M.2.1 pc = .ok (.iload_n i, 1)) (hn : pc + 1 = n) (hl : L[i.val]? = some (some (vI x))) (k : Z d M mr n L (vI x :: st) h Q) : Z d M mr pc L st h Q := by
  subst hn
  intro p l e R s m args below meth c D r G H locs ls C0 hG hL hR hS
  have K := k p l e R s m args below meth c D r G H locs ls C0 hG hL hR hS
  exact lv_iload_n C0.1 C0.2.1 dd rfl (hL.2.2 _ _ hl) K

theorem z_lload {i : Nat} {x : Int} (n : Nat) (dd : decode M.2.1 pc = .ok (.lload i, 2)) (hn : pc + 2 = n) (hl : L[i]? = some (some (vJ x))) (k : Z d M mr n L (vJ x :: st) h Q) : Z d M mr pc L st h Q := by
  subst hn
  intro p l e R s m args below meth c D r G H locs ls C0 hG hL hR hS
  have K := k p l e R s m args below meth c D r G H locs ls C0 hG hL hR hS
  exact lv_lload C0.1 C0.2.1 dd (hL.2.2 i _ hl) K
theorem z_lload_n {i : Fin 4} {x : Int} (n : Nat) (dd : decode M.2.1 pc = .ok (.lload_n i, 1)) (hn : pc + 1 = n) (hl : L[i.val]? = some (some (vJ x))) (k : Z d M mr n L (vJ x :: st) h Q) : Z d M mr pc L st h Q := by
  subst hn
  intro p l e R s m args below meth c D r G H locs ls C0 hG hL hR hS
  have K := k p l e R s m args below meth c D r G H locs ls C0 hG hL hR hS
  exact lv_lload_n C0.1 C0.2.1 dd rfl (hL.2.2 _ _ hl) K

theorem z_aload {i : Nat} {x : Nat} (n : Nat) (dd : decode M.2.1 pc = .ok (.aload i, 2)) (hn : pc + 2 = n) (hl : L[i]? = some (some (vR x))) (k : Z d M mr n L (vR x :: st) h Q) : Z d M mr pc L st h Q := by
  subst hn
  intro p l e R s m args below meth c D r G H locs ls C0 hG hL hR hS
  have K := k p l e R s m args below meth c D r G H locs ls C0 hG hL hR hS
  exact lv_aload C0.1 C0.2.1 dd (hL.2.2 i _ hl) K
theorem z_aload_n {i : Fin 4} {x : Nat} (n : Nat) (dd : decode M.2.1 pc = .ok (.aload_n i, 1)) (hn : pc + 1 = n) (hl : L[i.val]? = some (some (vR x))) (k : Z d M mr n L (vR x :: st) h Q) : Z d M mr pc L st h Q := by
  subst hn
  intro p l e R s m args below meth c D r G H locs ls C0 hG hL hR hS
  have K := k p l e R s m args below meth c D r G H locs ls C0 hG hL hR hS
  exact lv_aload_n C0.1 C0.2.1 dd rfl (hL.2.2 _ _ hl) K

def zas (r : Nat → Nat) (L : List (Option zV)) : List (Nat × Value) := (List.range L.length).filterMap (fun i => match L[i]? with
  | some (some v) => some (i, zv r v)
  | _ => none)
theorem zas_mem {r : Nat → Nat} {L : List (Option zV)} {q : Nat × Value} : q ∈ zas r L ↔ ∃ v : zV, L[q.1]? = some (some v) ∧ q.2 = zv r v := by
  unfold zas
  rw [List.mem_filterMap]
  constructor
  · rintro ⟨i, -, hi⟩
    split at hi
    · next v hv => cases hi; exact ⟨v, hv, rfl⟩
    · cases hi
  · rintro ⟨v, hv, e⟩
    refine ⟨q.1, List.mem_range.mpr (List.getElem?_eq_some_iff.mp hv).1, ?_⟩
    rw [hv]; simp [← e]
theorem zL_has {r : Nat → Nat} {L : List (Option zV)} {ls : Array Slot} {nL : Nat} (h : zL r L ls nL) : lv_has ls nL (zas r L) := by
  refine ⟨h.1, h.2.1, fun q hq => ?_⟩
  obtain ⟨v, hv, e⟩ := zas_mem.mp hq
  rw [e]; exact h.2.2 _ _ hv
theorem zv_cat1 {r : Nat → Nat} {v : zV} (h : (zv r v).category = 2) : ∃ x, v = .inr (.inl x) := by
  rcases v with x | x | x | x
  · simp [zv, Value.category] at h
  · exact ⟨x, rfl⟩
  · simp [zv, Value.category] at h
  · simp [zv, Value.category] at h
theorem zset_ne {L : List (Option zV)} {i j : Nat} {v w : zV} (h : (zset L i v)[j]? = some (some w)) (hj : j ≠ i) : L[j]? = some (some w) ∧ ∀ x, j + 1 = i → w ≠ .inr (.inl x) := by
  cases i with
  | zero =>
    unfold zset at h
    rw [List.getElem?_set_ne (Ne.symm hj)] at h
    exact ⟨h, fun x e => by omega⟩
  | succ i =>
    unfold zset at h
    dsimp only at h
    split at h
    · next x hx =>
      rw [List.getElem?_set_ne (Ne.symm hj)] at h
      by_cases e : j = i
      · subst e
        rw [List.getElem?_set_self' ] at h
        rw [hx] at h
        simp at h
      · rw [List.getElem?_set_ne (Ne.symm e)] at h
        exact ⟨h, fun x e' => by omega⟩
    · next hx =>
      rw [List.getElem?_set_ne (Ne.symm hj)] at h
      refine ⟨h, fun x e' hw => ?_⟩
      have : j = i := by omega
      subst this; subst hw
      exact hx x h
theorem zset_eq {L : List (Option zV)} {i : Nat} {v w : zV} (h : (zset L i v)[i]? = some (some w)) : w = v := by
  have key : ∀ K : List (Option zV), (K.set i (some v))[i]? = some (some w) → w = v := by
    intro K hK
    rw [List.getElem?_set_self'] at hK
    cases hKi : K[i]? with
    | none => rw [hKi] at hK; simp at hK
    | some a => rw [hKi] at hK; simp at hK; exact hK.symm
  cases i with
  | zero => exact key L h
  | succ i =>
    unfold zset at h
    dsimp only at h
    split at h
    · exact key _ h
    · exact key _ h
theorem zL_set {r : Nat → Nat} {L : List (Option zV)} {ls : Array Slot} {nL i : Nat} {v : zV} (h : lv_has ls nL ((i, zv r v) :: (zas r L).filter (fun q => !(q.1 == i) && !(q.1 + 1 == i && q.2.category == 2)))) : zL r (zset L i v) ls nL := by
  refine ⟨h.1, h.2.1, fun j w hw => ?_⟩
  by_cases hj : j = i
  · subst hj
    rw [zset_eq hw]
    exact h.2.2 (j, zv r v) List.mem_cons_self
  · obtain ⟨g1, g2⟩ := zset_ne hw hj
    refine h.2.2 (j, zv r w) (List.mem_cons_of_mem _ (List.mem_filter.mpr ⟨zas_mem.mpr ⟨w, g1, rfl⟩, ?_⟩))
    simp only [Bool.and_eq_true, Bool.not_eq_true', beq_eq_false_iff_ne, ne_eq, Bool.and_eq_false_iff]
    refine ⟨hj, ?_⟩
    by_cases e : j + 1 = i
    · right
      intro hc
      obtain ⟨x, hx⟩ := zv_cat1 hc
      exact g2 x e hx
    · left; exact e
theorem zL_set2 {r : Nat → Nat} {L : List (Option zV)} {ls : Array Slot} {nL i : Nat} {v : zV} (h : lv_has ls nL ((i, zv r v) :: (zas r L).filter (fun q => !(q.1 == i) && (!(q.1 == i + 1) && !(q.1 + 1 == i && q.2.category == 2))))) : zL r (zset2 L i v) ls nL := by
  refine ⟨h.1, h.2.1, fun j w hw => ?_⟩
  unfold zset2 at hw
  have hj1 : j ≠ i + 1 := by
    intro e; subst e
    rw [List.getElem?_set_self'] at hw
    cases hx : (zset L i v)[i + 1]? with
    | none => rw [hx] at hw; simp at hw
    | some a => rw [hx] at hw; simp at hw
  rw [List.getElem?_set_ne (Ne.symm hj1)] at hw
  by_cases hj : j = i
  · subst hj
    rw [zset_eq hw]
    exact h.2.2 (j, zv r v) List.mem_cons_self
  · obtain ⟨g1, g2⟩ := zset_ne hw hj
    refine h.2.2 (j, zv r w) (List.mem_cons_of_mem _ (List.mem_filter.mpr ⟨zas_mem.mpr ⟨w, g1, rfl⟩, ?_⟩))
    simp only [Bool.and_eq_true, Bool.not_eq_true', beq_eq_false_iff_ne, ne_eq, Bool.and_eq_false_iff]
    refine ⟨hj, hj1, ?_⟩
    by_cases e : j + 1 = i
    · right
      intro hc
      obtain ⟨x, hx⟩ := zv_cat1 hc
      exact g2 x e hx
    · left; exact e

theorem z_istore {i : Nat} {x : Int} (n : Nat) (dd : decode M.2.1 pc = .ok (.istore i, 2)) (hn : pc + 2 = n) (hi : i < M.2.2.1) (k : Z d M mr n (zset L i (vI x)) st h Q) : Z d M mr pc L (vI x :: st) h Q := by
  subst hn
  intro p l e R s m args below meth c D r G H locs ls C0 hG hL hR hS
  refine lv_istore C0.1 C0.2.1 dd (zL_has hL) hi rfl (fun ls' hl' => ?_)
  exact k p l e R s m args below meth c D r G H locs ls' C0 hG (zL_set (v := vI x) hl') hR hS

theorem z_istore_n {i : Fin 4} {x : Int} (n : Nat) (dd : decode M.2.1 pc = .ok (.istore_n i, 1)) (hn : pc + 1 = n) (hi : i.val < M.2.2.1) (k : Z d M mr n (zset L i.val (vI x)) st h Q) : Z d M mr pc L (vI x :: st) h Q := by
  subst hn
  intro p l e R s m args below meth c D r G H locs ls C0 hG hL hR hS
  refine lv_istore_n C0.1 C0.2.1 dd rfl (zL_has hL) hi rfl (fun ls' hl' => ?_)
  exact k p l e R s m args below meth c D r G H locs ls' C0 hG (zL_set (v := vI x) hl') hR hS

theorem z_lstore {i : Nat} {x : Int} (n : Nat) (dd : decode M.2.1 pc = .ok (.lstore i, 2)) (hn : pc + 2 = n) (hi : i + 1 < M.2.2.1) (k : Z d M mr n (zset2 L i (vJ x)) st h Q) : Z d M mr pc L (vJ x :: st) h Q := by
  subst hn
  intro p l e R s m args below meth c D r G H locs ls C0 hG hL hR hS
  refine lv_lstore C0.1 C0.2.1 dd (zL_has hL) hi rfl (fun ls' hl' => ?_)
  exact k p l e R s m args below meth c D r G H locs ls' C0 hG (zL_set2 (v := vJ x) hl') hR hS

theorem z_lstore_n {i : Fin 4} {x : Int} (n : Nat) (dd : decode M.2.1 pc = .ok (.lstore_n i, 1)) (hn : pc + 1 = n) (hi : i.val + 1 < M.2.2.1) (k : Z d M mr n (zset2 L i.val (vJ x)) st h Q) : Z d M mr pc L (vJ x :: st) h Q := by
  subst hn
  intro p l e R s m args below meth c D r G H locs ls C0 hG hL hR hS
  refine lv_lstore_n C0.1 C0.2.1 dd rfl (zL_has hL) hi rfl (fun ls' hl' => ?_)
  exact k p l e R s m args below meth c D r G H locs ls' C0 hG (zL_set2 (v := vJ x) hl') hR hS

theorem z_astore_n {i : Fin 4} {x : Nat} (n : Nat) (dd : decode M.2.1 pc = .ok (.astore_n i, 1)) (hn : pc + 1 = n) (hi : i.val < M.2.2.1) (k : Z d M mr n (zset L i.val (vR x)) st h Q) : Z d M mr pc L (vR x :: st) h Q := by
  subst hn
  intro p l e R s m args below meth c D r G H locs ls C0 hG hL hR hS
  refine lv_astore_n C0.1 C0.2.1 dd rfl (zL_has hL) hi rfl (fun ls' hl' => ?_)
  exact k p l e R s m args below meth c D r G H locs ls' C0 hG (zL_set (v := vR x) hl') hR hS

theorem z_iinc {i : Nat} {x j : Int} (n : Nat) (dd : decode M.2.1 pc = .ok (.iinc i j, 3)) (hn : pc + 3 = n) (hi : i < M.2.2.1) (hl : L[i]? = some (some (vI x))) (k : Z d M mr n (zset L i (vI (x + j))) st h Q) : Z d M mr pc L st h Q := by
  subst hn
  intro p l e R s m args below meth c D r G H locs ls C0 hG hL hR hS
  obtain ⟨kk, hkk⟩ := List.getElem?_of_mem (zas_mem (r := r) (q := (i, zv r (vI x))).mpr ⟨_, hl, rfl⟩)
  refine lv_iinc C0.1 C0.2.1 dd (zL_has hL) hkk rfl hi rfl (fun ls' hl' => ?_)
  exact k p l e R s m args below meth c D r G H locs ls' C0 hG (zL_set (v := vI (x + j)) (by rw [show zv r (vI (x + j)) = Value.int (Int32.ofInt x + Int32.ofInt j) by simp only [zv, Int32.ofInt_add]]; exact hl')) hR hS

theorem z_dup_i {x : Int} (n : Nat) (dd : decode M.2.1 pc = .ok (.dup, 1)) (hn : pc + 1 = n) (k : Z d M mr n L (vI x :: vI x :: st) h Q) : Z d M mr pc L (vI x :: st) h Q := by
  subst hn
  intro p l e R s m args below meth c D r G H locs ls C0 hG hL hR hS
  have K := k p l e R s m args below meth c D r G H locs ls C0 hG hL hR hS
  refine lv_dup C0.1 C0.2.1 dd rfl ?_
  simpa only [List.map_cons, zv] using K

theorem z_dup_a {x : Nat} (n : Nat) (dd : decode M.2.1 pc = .ok (.dup, 1)) (hn : pc + 1 = n) (k : Z d M mr n L (vR x :: vR x :: st) h Q) : Z d M mr pc L (vR x :: st) h Q := by
  subst hn
  intro p l e R s m args below meth c D r G H locs ls C0 hG hL hR hS
  have K := k p l e R s m args below meth c D r G H locs ls C0 hG hL hR hS
  refine lv_dup C0.1 C0.2.1 dd rfl ?_
  simpa only [List.map_cons, zv] using K

theorem z_pop {x : Int} (n : Nat) (dd : decode M.2.1 pc = .ok (.pop, 1)) (hn : pc + 1 = n) (k : Z d M mr n L (st) h Q) : Z d M mr pc L (vI x :: st) h Q := by
  subst hn
  intro p l e R s m args below meth c D r G H locs ls C0 hG hL hR hS
  have K := k p l e R s m args below meth c D r G H locs ls C0 hG hL hR hS
  refine lv_pop C0.1 C0.2.1 dd rfl ?_
  simpa only [List.map_cons, zv] using K

theorem z_dup2 {x : Int} {a : Nat} (n : Nat) (dd : decode M.2.1 pc = .ok (.dup2, 1)) (hn : pc + 1 = n) (k : Z d M mr n L (vI x :: vR a :: vI x :: vR a :: st) h Q) : Z d M mr pc L (vI x :: vR a :: st) h Q := by
  subst hn
  intro p l e R s m args below meth c D r G H locs ls C0 hG hL hR hS
  have K := k p l e R s m args below meth c D r G H locs ls C0 hG hL hR hS
  refine lv_dup2_11 C0.1 C0.2.1 dd rfl rfl ?_
  simpa only [List.map_cons, zv] using K

theorem z_iadd {x y : Int} (n : Nat) (dd : decode M.2.1 pc = .ok (.iadd, 1)) (hn : pc + 1 = n) (k : Z d M mr n L (vI (x + y) :: st) h Q) : Z d M mr pc L (vI y :: vI x :: st) h Q := by
  subst hn
  intro p l e R s m args below meth c D r G H locs ls C0 hG hL hR hS
  have K := k p l e R s m args below meth c D r G H locs ls C0 hG hL hR hS
  refine lv_iadd C0.1 C0.2.1 dd ?_
  simpa only [List.map_cons, zv, Int32.ofInt_add] using K

theorem z_isub {x y : Int} (n : Nat) (dd : decode M.2.1 pc = .ok (.isub, 1)) (hn : pc + 1 = n) (k : Z d M mr n L (vI (x - y) :: st) h Q) : Z d M mr pc L (vI y :: vI x :: st) h Q := by
  subst hn
  intro p l e R s m args below meth c D r G H locs ls C0 hG hL hR hS
  have K := k p l e R s m args below meth c D r G H locs ls C0 hG hL hR hS
  refine lv_isub C0.1 C0.2.1 dd ?_
  simpa only [List.map_cons, zv, Int32.ofInt_sub] using K

theorem z_imul {x y : Int} (n : Nat) (dd : decode M.2.1 pc = .ok (.imul, 1)) (hn : pc + 1 = n) (k : Z d M mr n L (vI (x * y) :: st) h Q) : Z d M mr pc L (vI y :: vI x :: st) h Q := by
  subst hn
  intro p l e R s m args below meth c D r G H locs ls C0 hG hL hR hS
  have K := k p l e R s m args below meth c D r G H locs ls C0 hG hL hR hS
  refine lv_imul C0.1 C0.2.1 dd ?_
  simpa only [List.map_cons, zv, Int32.ofInt_mul] using K

theorem z_ladd {x y : Int} (n : Nat) (dd : decode M.2.1 pc = .ok (.ladd, 1)) (hn : pc + 1 = n) (k : Z d M mr n L (vJ (x + y) :: st) h Q) : Z d M mr pc L (vJ y :: vJ x :: st) h Q := by
  subst hn
  intro p l e R s m args below meth c D r G H locs ls C0 hG hL hR hS
  have K := k p l e R s m args below meth c D r G H locs ls C0 hG hL hR hS
  refine lv_ladd C0.1 C0.2.1 dd ?_
  simpa only [List.map_cons, zv, Int64.ofInt_add] using K

theorem z_lsub {x y : Int} (n : Nat) (dd : decode M.2.1 pc = .ok (.lsub, 1)) (hn : pc + 1 = n) (k : Z d M mr n L (vJ (x - y) :: st) h Q) : Z d M mr pc L (vJ y :: vJ x :: st) h Q := by
  subst hn
  intro p l e R s m args below meth c D r G H locs ls C0 hG hL hR hS
  have K := k p l e R s m args below meth c D r G H locs ls C0 hG hL hR hS
  refine lv_lsub C0.1 C0.2.1 dd ?_
  simpa only [List.map_cons, zv, Int64.ofInt_sub] using K

theorem z_lmul {x y : Int} (n : Nat) (dd : decode M.2.1 pc = .ok (.lmul, 1)) (hn : pc + 1 = n) (k : Z d M mr n L (vJ (x * y) :: st) h Q) : Z d M mr pc L (vJ y :: vJ x :: st) h Q := by
  subst hn
  intro p l e R s m args below meth c D r G H locs ls C0 hG hL hR hS
  have K := k p l e R s m args below meth c D r G H locs ls C0 hG hL hR hS
  refine lv_lmul C0.1 C0.2.1 dd ?_
  simpa only [List.map_cons, zv, Int64.ofInt_mul] using K

theorem z_ineg {x : Int} (n : Nat) (dd : decode M.2.1 pc = .ok (.ineg, 1)) (hn : pc + 1 = n) (k : Z d M mr n L (vI (-x) :: st) h Q) : Z d M mr pc L (vI x :: st) h Q := by
  subst hn
  intro p l e R s m args below meth c D r G H locs ls C0 hG hL hR hS
  have K := k p l e R s m args below meth c D r G H locs ls C0 hG hL hR hS
  refine lv_ineg C0.1 C0.2.1 dd ?_
  simpa only [List.map_cons, zv, Int32.ofInt_neg] using K

theorem z_lneg {x : Int} (n : Nat) (dd : decode M.2.1 pc = .ok (.lneg, 1)) (hn : pc + 1 = n) (k : Z d M mr n L (vJ (-x) :: st) h Q) : Z d M mr pc L (vJ x :: st) h Q := by
  subst hn
  intro p l e R s m args below meth c D r G H locs ls C0 hG hL hR hS
  have K := k p l e R s m args below meth c D r G H locs ls C0 hG hL hR hS
  refine lv_lneg C0.1 C0.2.1 dd ?_
  simpa only [List.map_cons, zv, Int64.ofInt_neg] using K

theorem z_iand {x y : Int} (n : Nat) (dd : decode M.2.1 pc = .ok (.iand, 1)) (hn : pc + 1 = n) (k : Z d M mr n L (vI (zand x y) :: st) h Q) : Z d M mr pc L (vI y :: vI x :: st) h Q := by
  subst hn
  intro p l e R s m args below meth c D r G H locs ls C0 hG hL hR hS
  have K := k p l e R s m args below meth c D r G H locs ls C0 hG hL hR hS
  refine lv_iand C0.1 C0.2.1 dd ?_
  simpa only [List.map_cons, zv, zand, Int32.ofInt_toInt] using K

theorem z_ior {x y : Int} (n : Nat) (dd : decode M.2.1 pc = .ok (.ior, 1)) (hn : pc + 1 = n) (k : Z d M mr n L (vI (zor x y) :: st) h Q) : Z d M mr pc L (vI y :: vI x :: st) h Q := by
  subst hn
  intro p l e R s m args below meth c D r G H locs ls C0 hG hL hR hS
  have K := k p l e R s m args below meth c D r G H locs ls C0 hG hL hR hS
  refine lv_ior C0.1 C0.2.1 dd ?_
  simpa only [List.map_cons, zv, zor, Int32.ofInt_toInt] using K

theorem z_ixor {x y : Int} (n : Nat) (dd : decode M.2.1 pc = .ok (.ixor, 1)) (hn : pc + 1 = n) (k : Z d M mr n L (vI (zxor x y) :: st) h Q) : Z d M mr pc L (vI y :: vI x :: st) h Q := by
  subst hn
  intro p l e R s m args below meth c D r G H locs ls C0 hG hL hR hS
  have K := k p l e R s m args below meth c D r G H locs ls C0 hG hL hR hS
  refine lv_ixor C0.1 C0.2.1 dd ?_
  simpa only [List.map_cons, zv, zxor, Int32.ofInt_toInt] using K

theorem z_ishl {x y : Int} (n : Nat) (dd : decode M.2.1 pc = .ok (.ishl, 1)) (hn : pc + 1 = n) (k : Z d M mr n L (vI (zshl x y) :: st) h Q) : Z d M mr pc L (vI y :: vI x :: st) h Q := by
  subst hn
  intro p l e R s m args below meth c D r G H locs ls C0 hG hL hR hS
  have K := k p l e R s m args below meth c D r G H locs ls C0 hG hL hR hS
  refine lv_ishl C0.1 C0.2.1 dd ?_
  simpa only [List.map_cons, zv, zshl, Int32.ofInt_toInt] using K

theorem z_ishr {x y : Int} (n : Nat) (dd : decode M.2.1 pc = .ok (.ishr, 1)) (hn : pc + 1 = n) (k : Z d M mr n L (vI (zshr x y) :: st) h Q) : Z d M mr pc L (vI y :: vI x :: st) h Q := by
  subst hn
  intro p l e R s m args below meth c D r G H locs ls C0 hG hL hR hS
  have K := k p l e R s m args below meth c D r G H locs ls C0 hG hL hR hS
  refine lv_ishr C0.1 C0.2.1 dd ?_
  simpa only [List.map_cons, zv, zshr, Int32.ofInt_toInt] using K

theorem z_iushr {x y : Int} (n : Nat) (dd : decode M.2.1 pc = .ok (.iushr, 1)) (hn : pc + 1 = n) (k : Z d M mr n L (vI (zushr x y) :: st) h Q) : Z d M mr pc L (vI y :: vI x :: st) h Q := by
  subst hn
  intro p l e R s m args below meth c D r G H locs ls C0 hG hL hR hS
  have K := k p l e R s m args below meth c D r G H locs ls C0 hG hL hR hS
  refine lv_iushr C0.1 C0.2.1 dd rfl ?_
  simpa only [List.map_cons, zv, zushr, Int32.ofInt_toInt] using K

theorem z_land {x y : Int} (n : Nat) (dd : decode M.2.1 pc = .ok (.land, 1)) (hn : pc + 1 = n) (k : Z d M mr n L (vJ (zland x y) :: st) h Q) : Z d M mr pc L (vJ y :: vJ x :: st) h Q := by
  subst hn
  intro p l e R s m args below meth c D r G H locs ls C0 hG hL hR hS
  have K := k p l e R s m args below meth c D r G H locs ls C0 hG hL hR hS
  refine lv_land C0.1 C0.2.1 dd ?_
  simpa only [List.map_cons, zv, zland, Int64.ofInt_toInt] using K

theorem z_lor {x y : Int} (n : Nat) (dd : decode M.2.1 pc = .ok (.lor, 1)) (hn : pc + 1 = n) (k : Z d M mr n L (vJ (zlor x y) :: st) h Q) : Z d M mr pc L (vJ y :: vJ x :: st) h Q := by
  subst hn
  intro p l e R s m args below meth c D r G H locs ls C0 hG hL hR hS
  have K := k p l e R s m args below meth c D r G H locs ls C0 hG hL hR hS
  refine lv_lor C0.1 C0.2.1 dd ?_
  simpa only [List.map_cons, zv, zlor, Int64.ofInt_toInt] using K

theorem z_lshl {x y : Int} (n : Nat) (dd : decode M.2.1 pc = .ok (.lshl, 1)) (hn : pc + 1 = n) (k : Z d M mr n L (vJ (zlshl x y) :: st) h Q) : Z d M mr pc L (vI y :: vJ x :: st) h Q := by
  subst hn
  intro p l e R s m args below meth c D r G H locs ls C0 hG hL hR hS
  have K := k p l e R s m args below meth c D r G H locs ls C0 hG hL hR hS
  refine lv_lshl C0.1 C0.2.1 dd rfl ?_
  simpa only [List.map_cons, zv, zlshl, Int64.ofInt_toInt] using K

theorem z_lushr {x y : Int} (n : Nat) (dd : decode M.2.1 pc = .ok (.lushr, 1)) (hn : pc + 1 = n) (k : Z d M mr n L (vJ (zlushr x y) :: st) h Q) : Z d M mr pc L (vI y :: vJ x :: st) h Q := by
  subst hn
  intro p l e R s m args below meth c D r G H locs ls C0 hG hL hR hS
  have K := k p l e R s m args below meth c D r G H locs ls C0 hG hL hR hS
  refine lv_lushr C0.1 C0.2.1 dd rfl ?_
  simpa only [List.map_cons, zv, zlushr, Int64.ofInt_toInt] using K

theorem z_l2i {x : Int} (n : Nat) (dd : decode M.2.1 pc = .ok (.l2i, 1)) (hn : pc + 1 = n) (k : Z d M mr n L (vI (zl2i x) :: st) h Q) : Z d M mr pc L (vJ x :: st) h Q := by
  subst hn
  intro p l e R s m args below meth c D r G H locs ls C0 hG hL hR hS
  have K := k p l e R s m args below meth c D r G H locs ls C0 hG hL hR hS
  refine lv_l2i C0.1 C0.2.1 dd rfl ?_
  simpa only [List.map_cons, zv, zl2i, Int32.ofInt_toInt] using K

theorem z_i2l {x : Int} (n : Nat) (dd : decode M.2.1 pc = .ok (.i2l, 1)) (hn : pc + 1 = n) (hx : -2147483648 ≤ x ∧ x ≤ 2147483647) (k : Z d M mr n L (vJ x :: st) h Q) : Z d M mr pc L (vI x :: st) h Q := by
  subst hn
  intro p l e R s m args below meth c D r G H locs ls C0 hG hL hR hS
  have K := k p l e R s m args below meth c D r G H locs ls C0 hG hL hR hS
  refine lv_i2l C0.1 C0.2.1 dd (Int32.toInt64_ofInt (by show (-2147483648 : Int) ≤ x; exact hx.1) (by show x ≤ (2147483647 : Int); exact hx.2)) ?_
  simpa only [List.map_cons, zv] using K

theorem z_div {x y : Int} (hx : 0 ≤ x ∧ x ≤ 2147483647) (hy : 0 < y ∧ y ≤ 2147483647) : Int32.ofInt x / Int32.ofInt y = Int32.ofInt (x / y) := by
  have h1 : 0 ≤ x / y := Int.ediv_nonneg hx.1 (by omega)
  have h2 : x / y ≤ x := Int.ediv_le_self y hx.1
  rw [← Int32.toInt_inj, Int32.toInt_div_of_ne_right _ _ (by intro e; have := congrArg Int32.toInt e; rw [z_rng (by omega)] at this; have e1 : (-1 : Int32).toInt = -1 := (by decide); omega), z_rng (by omega), z_rng (by omega), z_rng (by omega), Int.tdiv_eq_ediv_of_nonneg hx.1]
theorem z_rem {x y : Int} (hx : 0 ≤ x ∧ x ≤ 2147483647) (hy : 0 < y ∧ y ≤ 2147483647) : Int32.ofInt x - Int32.ofInt x / Int32.ofInt y * Int32.ofInt y = Int32.ofInt (x % y) := by
  rw [z_div hx hy, ← Int32.ofInt_mul, ← Int32.ofInt_sub, Int.emod_def, Int.mul_comm]
theorem z_divJ {x y : Int} (hx : 0 ≤ x ∧ x ≤ 9223372036854775807) (hy : 0 < y ∧ y ≤ 9223372036854775807) : Int64.ofInt x / Int64.ofInt y = Int64.ofInt (x / y) := by
  have h1 : 0 ≤ x / y := Int.ediv_nonneg hx.1 (by omega)
  have h2 : x / y ≤ x := Int.ediv_le_self y hx.1
  rw [← Int64.toInt_inj, Int64.toInt_div_of_ne_right _ _ (by intro e; have := congrArg Int64.toInt e; rw [z_rngJ (by omega)] at this; have e1 : (-1 : Int64).toInt = -1 := (by decide); omega), z_rngJ (by omega), z_rngJ (by omega), z_rngJ (by omega), Int.tdiv_eq_ediv_of_nonneg hx.1]
theorem z_remJ {x y : Int} (hx : 0 ≤ x ∧ x ≤ 9223372036854775807) (hy : 0 < y ∧ y ≤ 9223372036854775807) : Int64.ofInt x - Int64.ofInt x / Int64.ofInt y * Int64.ofInt y = Int64.ofInt (x % y) := by
  rw [z_divJ hx hy, ← Int64.ofInt_mul, ← Int64.ofInt_sub, Int.emod_def, Int.mul_comm]
theorem z_ne0 {y : Int} (hy : 0 < y ∧ y ≤ 2147483647) : ¬ Int32.ofInt y = 0 := by
  intro e
  have := (z_eq (y := 0) (by omega) (by omega)).mp e
  omega
theorem z_ne0J {y : Int} (hy : 0 < y ∧ y ≤ 9223372036854775807) : ¬ Int64.ofInt y = 0 := by
  intro e
  have := (z_eqJ (y := 0) (by omega) (by omega)).mp e
  omega

theorem z_idiv {x y : Int} (n : Nat) (dd : decode M.2.1 pc = .ok (.idiv, 1)) (hn : pc + 1 = n) (hx : 0 ≤ x ∧ x ≤ 2147483647) (hy : 0 < y ∧ y ≤ 2147483647) (k : Z d M mr n L (vI (x / y) :: st) h Q) : Z d M mr pc L (vI y :: vI x :: st) h Q := by
  subst hn
  intro p l e R s m args below meth c D r G H locs ls C0 hG hL hR hS
  have K := k p l e R s m args below meth c D r G H locs ls C0 hG hL hR hS
  refine lv_idiv C0.1 C0.2.1 dd (z_ne0 hy) ?_
  simpa only [List.map_cons, zv, z_div hx hy] using K

theorem z_irem {x y : Int} (n : Nat) (dd : decode M.2.1 pc = .ok (.irem, 1)) (hn : pc + 1 = n) (hx : 0 ≤ x ∧ x ≤ 2147483647) (hy : 0 < y ∧ y ≤ 2147483647) (k : Z d M mr n L (vI (x % y) :: st) h Q) : Z d M mr pc L (vI y :: vI x :: st) h Q := by
  subst hn
  intro p l e R s m args below meth c D r G H locs ls C0 hG hL hR hS
  have K := k p l e R s m args below meth c D r G H locs ls C0 hG hL hR hS
  refine lv_irem C0.1 C0.2.1 dd (z_ne0 hy) ?_
  simpa only [List.map_cons, zv, z_rem hx hy] using K

theorem z_ldiv {x y : Int} (n : Nat) (dd : decode M.2.1 pc = .ok (.ldiv, 1)) (hn : pc + 1 = n) (hx : 0 ≤ x ∧ x ≤ 9223372036854775807) (hy : 0 < y ∧ y ≤ 9223372036854775807) (k : Z d M mr n L (vJ (x / y) :: st) h Q) : Z d M mr pc L (vJ y :: vJ x :: st) h Q := by
  subst hn
  intro p l e R s m args below meth c D r G H locs ls C0 hG hL hR hS
  have K := k p l e R s m args below meth c D r G H locs ls C0 hG hL hR hS
  refine lv_ldiv C0.1 C0.2.1 dd (z_ne0J hy) ?_
  simpa only [List.map_cons, zv, z_divJ hx hy] using K

theorem z_lrem {x y : Int} (n : Nat) (dd : decode M.2.1 pc = .ok (.lrem, 1)) (hn : pc + 1 = n) (hx : 0 ≤ x ∧ x ≤ 9223372036854775807) (hy : 0 < y ∧ y ≤ 9223372036854775807) (k : Z d M mr n L (vJ (x % y) :: st) h Q) : Z d M mr pc L (vJ y :: vJ x :: st) h Q := by
  subst hn
  intro p l e R s m args below meth c D r G H locs ls C0 hG hL hR hS
  have K := k p l e R s m args below meth c D r G H locs ls C0 hG hL hR hS
  refine lv_lrem C0.1 C0.2.1 dd (z_ne0J hy) ?_
  simpa only [List.map_cons, zv, z_remJ hx hy] using K

def zcmp (x y : Int) : Int := if y < x then 1 else if x = y then 0 else -1
theorem z_lcmp {x y : Int} (n : Nat) (dd : decode M.2.1 pc = .ok (.lcmp, 1)) (hn : pc + 1 = n) (hx : -9223372036854775808 ≤ x ∧ x ≤ 9223372036854775807) (hy : -9223372036854775808 ≤ y ∧ y ≤ 9223372036854775807) (k : Z d M mr n L (vI (zcmp x y) :: st) h Q) : Z d M mr pc L (vJ y :: vJ x :: st) h Q := by
  subst hn
  intro p l e R s m args below meth c D r G H locs ls C0 hG hL hR hS
  have K := k p l e R s m args below meth c D r G H locs ls C0 hG hL hR hS
  refine W.lcmp C0.1 C0.2.1 dd ?_
  have e : lg_cmp (Int64.ofInt x) (Int64.ofInt y) = Int32.ofInt (zcmp x y) := by
    unfold lg_cmp zcmp
    have e1 : (Int64.ofInt x > Int64.ofInt y) ↔ y < x := z_ltJ hy hx
    by_cases h1 : y < x
    · rw [if_pos (e1.mpr h1), if_pos h1]; rfl
    · rw [if_neg (fun q => h1 (e1.mp q)), if_neg h1]
      by_cases h2 : x = y
      · rw [if_pos ((z_eqJ hx hy).mpr h2), if_pos h2]; rfl
      · rw [if_neg (fun q => h2 ((z_eqJ hx hy).mp q)), if_neg h2]; rfl
  rw [e]
  exact K

theorem z_icmp_lt {x y off : Int} (tgt n : Nat) (dd : decode M.2.1 pc = .ok (.if_icmp .lt off, 3)) (htg : (pc : Int) + off = (tgt : Int)) (hn : pc + 3 = n) (hx : -2147483648 ≤ x ∧ x ≤ 2147483647) (hy : -2147483648 ≤ y ∧ y ≤ 2147483647) (ht : x < y → Z d M mr tgt L st h Q) (hf : y ≤ x → Z d M mr n L st h Q) : Z d M mr pc L (vI y :: vI x :: st) h Q := by
  subst hn
  intro p l e R s m args below meth c D r G H locs ls C0 hG hL hR hS
  refine lv_icmp_lt C0.1 C0.2.1 dd htg (fun q => ?_) (fun q => ?_)
  · exact (ht ((z_lt hx hy).mp q)) p l e R s m args below meth c D r G H locs ls C0 hG hL hR hS
  · exact (hf (Int.not_lt.mp (fun e => q ((z_lt hx hy).mpr e)))) p l e R s m args below meth c D r G H locs ls C0 hG hL hR hS

theorem z_if_lt {x off : Int} (tgt n : Nat) (dd : decode M.2.1 pc = .ok (.ifCond .lt off, 3)) (htg : (pc : Int) + off = (tgt : Int)) (hn : pc + 3 = n) (hx : -2147483648 ≤ x ∧ x ≤ 2147483647) (ht : x < 0 → Z d M mr tgt L st h Q) (hf : 0 ≤ x → Z d M mr n L st h Q) : Z d M mr pc L (vI x :: st) h Q := by
  subst hn
  intro p l e R s m args below meth c D r G H locs ls C0 hG hL hR hS
  refine lv_if_lt C0.1 C0.2.1 dd htg (fun q => ?_) (fun q => ?_)
  · exact (ht ((z_lt (y := 0) hx (by omega)).mp q)) p l e R s m args below meth c D r G H locs ls C0 hG hL hR hS
  · exact (hf (Int.not_lt.mp (fun e => q ((z_lt (y := 0) hx (by omega)).mpr e)))) p l e R s m args below meth c D r G H locs ls C0 hG hL hR hS

theorem z_icmp_ge {x y off : Int} (tgt n : Nat) (dd : decode M.2.1 pc = .ok (.if_icmp .ge off, 3)) (htg : (pc : Int) + off = (tgt : Int)) (hn : pc + 3 = n) (hx : -2147483648 ≤ x ∧ x ≤ 2147483647) (hy : -2147483648 ≤ y ∧ y ≤ 2147483647) (ht : y ≤ x → Z d M mr tgt L st h Q) (hf : x < y → Z d M mr n L st h Q) : Z d M mr pc L (vI y :: vI x :: st) h Q := by
  subst hn
  intro p l e R s m args below meth c D r G H locs ls C0 hG hL hR hS
  refine lv_icmp_ge C0.1 C0.2.1 dd htg (fun q => ?_) (fun q => ?_)
  · exact (ht ((z_le hy hx).mp q)) p l e R s m args below meth c D r G H locs ls C0 hG hL hR hS
  · exact (hf (Int.not_le.mp (fun e => q ((z_le hy hx).mpr e)))) p l e R s m args below meth c D r G H locs ls C0 hG hL hR hS

theorem z_if_ge {x off : Int} (tgt n : Nat) (dd : decode M.2.1 pc = .ok (.ifCond .ge off, 3)) (htg : (pc : Int) + off = (tgt : Int)) (hn : pc + 3 = n) (hx : -2147483648 ≤ x ∧ x ≤ 2147483647) (ht : 0 ≤ x → Z d M mr tgt L st h Q) (hf : x < 0 → Z d M mr n L st h Q) : Z d M mr pc L (vI x :: st) h Q := by
  subst hn
  intro p l e R s m args below meth c D r G H locs ls C0 hG hL hR hS
  refine lv_if_ge C0.1 C0.2.1 dd htg (fun q => ?_) (fun q => ?_)
  · exact (ht ((z_le (x := 0) (by omega) hx).mp q)) p l e R s m args below meth c D r G H locs ls C0 hG hL hR hS
  · exact (hf (Int.not_le.mp (fun e => q ((z_le (x := 0) (by omega) hx).mpr e)))) p l e R s m args below meth c D r G H locs ls C0 hG hL hR hS

theorem z_icmp_gt {x y off : Int} (tgt n : Nat) (dd : decode M.2.1 pc = .ok (.if_icmp .gt off, 3)) (htg : (pc : Int) + off = (tgt : Int)) (hn : pc + 3 = n) (hx : -2147483648 ≤ x ∧ x ≤ 2147483647) (hy : -2147483648 ≤ y ∧ y ≤ 2147483647) (ht : y < x → Z d M mr tgt L st h Q) (hf : x ≤ y → Z d M mr n L st h Q) : Z d M mr pc L (vI y :: vI x :: st) h Q := by
  subst hn
  intro p l e R s m args below meth c D r G H locs ls C0 hG hL hR hS
  refine lv_icmp_gt C0.1 C0.2.1 dd htg (fun q => ?_) (fun q => ?_)
  · exact (ht ((z_lt hy hx).mp q)) p l e R s m args below meth c D r G H locs ls C0 hG hL hR hS
  · exact (hf (Int.not_lt.mp (fun e => q ((z_lt hy hx).mpr e)))) p l e R s m args below meth c D r G H locs ls C0 hG hL hR hS

theorem z_if_gt {x off : Int} (tgt n : Nat) (dd : decode M.2.1 pc = .ok (.ifCond .gt off, 3)) (htg : (pc : Int) + off = (tgt : Int)) (hn : pc + 3 = n) (hx : -2147483648 ≤ x ∧ x ≤ 2147483647) (ht : 0 < x → Z d M mr tgt L st h Q) (hf : x ≤ 0 → Z d M mr n L st h Q) : Z d M mr pc L (vI x :: st) h Q := by
  subst hn
  intro p l e R s m args below meth c D r G H locs ls C0 hG hL hR hS
  refine lv_if_gt C0.1 C0.2.1 dd htg (fun q => ?_) (fun q => ?_)
  · exact (ht ((z_lt (x := 0) (by omega) hx).mp q)) p l e R s m args below meth c D r G H locs ls C0 hG hL hR hS
  · exact (hf (Int.not_lt.mp (fun e => q ((z_lt (x := 0) (by omega) hx).mpr e)))) p l e R s m args below meth c D r G H locs ls C0 hG hL hR hS

theorem z_icmp_le {x y off : Int} (tgt n : Nat) (dd : decode M.2.1 pc = .ok (.if_icmp .le off, 3)) (htg : (pc : Int) + off = (tgt : Int)) (hn : pc + 3 = n) (hx : -2147483648 ≤ x ∧ x ≤ 2147483647) (hy : -2147483648 ≤ y ∧ y ≤ 2147483647) (ht : x ≤ y → Z d M mr tgt L st h Q) (hf : y < x → Z d M mr n L st h Q) : Z d M mr pc L (vI y :: vI x :: st) h Q := by
  subst hn
  intro p l e R s m args below meth c D r G H locs ls C0 hG hL hR hS
  refine lv_icmp_le C0.1 C0.2.1 dd htg (fun q => ?_) (fun q => ?_)
  · exact (ht ((z_le hx hy).mp q)) p l e R s m args below meth c D r G H locs ls C0 hG hL hR hS
  · exact (hf (Int.not_le.mp (fun e => q ((z_le hx hy).mpr e)))) p l e R s m args below meth c D r G H locs ls C0 hG hL hR hS

theorem z_if_le {x off : Int} (tgt n : Nat) (dd : decode M.2.1 pc = .ok (.ifCond .le off, 3)) (htg : (pc : Int) + off = (tgt : Int)) (hn : pc + 3 = n) (hx : -2147483648 ≤ x ∧ x ≤ 2147483647) (ht : x ≤ 0 → Z d M mr tgt L st h Q) (hf : 0 < x → Z d M mr n L st h Q) : Z d M mr pc L (vI x :: st) h Q := by
  subst hn
  intro p l e R s m args below meth c D r G H locs ls C0 hG hL hR hS
  refine lv_if_le C0.1 C0.2.1 dd htg (fun q => ?_) (fun q => ?_)
  · exact (ht ((z_le (y := 0) hx (by omega)).mp q)) p l e R s m args below meth c D r G H locs ls C0 hG hL hR hS
  · exact (hf (Int.not_le.mp (fun e => q ((z_le (y := 0) hx (by omega)).mpr e)))) p l e R s m args below meth c D r G H locs ls C0 hG hL hR hS

theorem z_icmp_eq {x y off : Int} (tgt n : Nat) (dd : decode M.2.1 pc = .ok (.if_icmp .eq off, 3)) (htg : (pc : Int) + off = (tgt : Int)) (hn : pc + 3 = n) (hx : -2147483648 ≤ x ∧ x ≤ 2147483647) (hy : -2147483648 ≤ y ∧ y ≤ 2147483647) (ht : x = y → Z d M mr tgt L st h Q) (hf : x ≠ y → Z d M mr n L st h Q) : Z d M mr pc L (vI y :: vI x :: st) h Q := by
  subst hn
  intro p l e R s m args below meth c D r G H locs ls C0 hG hL hR hS
  refine lv_icmp_eq C0.1 C0.2.1 dd htg (fun q => ?_) (fun q => ?_)
  · exact (ht ((z_eq hx hy).mp q)) p l e R s m args below meth c D r G H locs ls C0 hG hL hR hS
  · exact (hf ( (fun e => q ((z_eq hx hy).mpr e)))) p l e R s m args below meth c D r G H locs ls C0 hG hL hR hS

theorem z_if_eq {x off : Int} (tgt n : Nat) (dd : decode M.2.1 pc = .ok (.ifCond .eq off, 3)) (htg : (pc : Int) + off = (tgt : Int)) (hn : pc + 3 = n) (hx : -2147483648 ≤ x ∧ x ≤ 2147483647) (ht : x = 0 → Z d M mr tgt L st h Q) (hf : x ≠ 0 → Z d M mr n L st h Q) : Z d M mr pc L (vI x :: st) h Q := by
  subst hn
  intro p l e R s m args below meth c D r G H locs ls C0 hG hL hR hS
  refine lv_if_eq C0.1 C0.2.1 dd htg (fun q => ?_) (fun q => ?_)
  · exact (ht ((z_eq (y := 0) hx (by omega)).mp q)) p l e R s m args below meth c D r G H locs ls C0 hG hL hR hS
  · exact (hf ( (fun e => q ((z_eq (y := 0) hx (by omega)).mpr e)))) p l e R s m args below meth c D r G H locs ls C0 hG hL hR hS

theorem z_icmp_ne {x y off : Int} (tgt n : Nat) (dd : decode M.2.1 pc = .ok (.if_icmp .ne off, 3)) (htg : (pc : Int) + off = (tgt : Int)) (hn : pc + 3 = n) (hx : -2147483648 ≤ x ∧ x ≤ 2147483647) (hy : -2147483648 ≤ y ∧ y ≤ 2147483647) (ht : x ≠ y → Z d M mr tgt L st h Q) (hf : x = y → Z d M mr n L st h Q) : Z d M mr pc L (vI y :: vI x :: st) h Q := by
  subst hn
  intro p l e R s m args below meth c D r G H locs ls C0 hG hL hR hS
  refine lv_icmp_ne C0.1 C0.2.1 dd htg (fun q => ?_) (fun q => ?_)
  · exact (ht (fun e => q ((z_eq hx hy).mpr e))) p l e R s m args below meth c D r G H locs ls C0 hG hL hR hS
  · exact (hf ((z_eq hx hy).mp q)) p l e R s m args below meth c D r G H locs ls C0 hG hL hR hS

theorem z_if_ne {x off : Int} (tgt n : Nat) (dd : decode M.2.1 pc = .ok (.ifCond .ne off, 3)) (htg : (pc : Int) + off = (tgt : Int)) (hn : pc + 3 = n) (hx : -2147483648 ≤ x ∧ x ≤ 2147483647) (ht : x ≠ 0 → Z d M mr tgt L st h Q) (hf : x = 0 → Z d M mr n L st h Q) : Z d M mr pc L (vI x :: st) h Q := by
  subst hn
  intro p l e R s m args below meth c D r G H locs ls C0 hG hL hR hS
  refine lv_if_ne C0.1 C0.2.1 dd htg (fun q => ?_) (fun q => ?_)
  · exact (ht (fun e => q ((z_eq (y := 0) hx (by omega)).mpr e))) p l e R s m args below meth c D r G H locs ls C0 hG hL hR hS
  · exact (hf ((z_eq (y := 0) hx (by omega)).mp q)) p l e R s m args below meth c D r G H locs ls C0 hG hL hR hS

theorem z_goto {off : Int} (tgt : Nat) (dd : decode M.2.1 pc = .ok (.goto off, 3)) (htg : (pc : Int) + off = (tgt : Int)) (k : Z d M mr tgt L st h Q) : Z d M mr pc L st h Q := by
  intro p l e R s m args below meth c D r G H locs ls C0 hG hL hR hS
  exact lv_goto C0.1 C0.2.1 dd htg (k p l e R s m args below meth c D r G H locs ls C0 hG hL hR hS)
theorem z_ifnull {a : Nat} {off : Int} (n : Nat) (dd : decode M.2.1 pc = .ok (.ifnull off, 3)) (hn : pc + 3 = n) (k : Z d M mr n L st h Q) : Z d M mr pc L (vR a :: st) h Q := by
  subst hn
  intro p l e R s m args below meth c D r G H locs ls C0 hG hL hR hS
  have K := k p l e R s m args below meth c D r G H locs ls C0 hG hL hR hS
  exact lv_ifnull C0.1 C0.2.1 dd K
theorem z_ifnullN {off : Int} (tgt : Nat) (dd : decode M.2.1 pc = .ok (.ifnull off, 3)) (htg : (pc : Int) + off = (tgt : Int)) (k : Z d M mr tgt L st h Q) : Z d M mr pc L (vN :: st) h Q := by
  intro p l e R s m args below meth c D r G H locs ls C0 hG hL hR hS
  exact lv_ifnullN C0.1 C0.2.1 dd htg (k p l e R s m args below meth c D r G H locs ls C0 hG hL hR hS)
theorem z_tableIn {dflt lo hi off x : Int} {offs : Array Int} {len : Nat} (tgt : Nat) (dd : decode M.2.1 pc = .ok (.tableswitch dflt lo hi offs, len)) (hx : -2147483648 ≤ x ∧ x ≤ 2147483647) (h1 : lo ≤ x) (h2 : x ≤ hi) (ho : offs[(x - lo).toNat]? = some off) (htg : (pc : Int) + off = (tgt : Int)) (k : Z d M mr tgt L st h Q) : Z d M mr pc L (vI x :: st) h Q := by
  intro p l e R s m args below meth c D r G H locs ls C0 hG hL hR hS
  exact lv_tableIn C0.1 C0.2.1 dd (by rw [z_rng hx]; omega) (by rw [z_rng hx]; omega) (by rw [z_rng hx]; exact ho) htg (k p l e R s m args below meth c D r G H locs ls C0 hG hL hR hS)
theorem z_tableOut {dflt lo hi x : Int} {offs : Array Int} {len : Nat} (tgt : Nat) (dd : decode M.2.1 pc = .ok (.tableswitch dflt lo hi offs, len)) (hx : -2147483648 ≤ x ∧ x ≤ 2147483647) (h1 : x < lo ∨ hi < x) (htg : (pc : Int) + dflt = (tgt : Int)) (k : Z d M mr tgt L st h Q) : Z d M mr pc L (vI x :: st) h Q := by
  intro p l e R s m args below meth c D r G H locs ls C0 hG hL hR hS
  exact lv_tableOut C0.1 C0.2.1 dd (by rw [z_rng hx]; exact h1) htg (k p l e R s m args below meth c D r G H locs ls C0 hG hL hR hS)
theorem z_lookup {dflt off x : Int} {ps : Array (Int × Int)} {len : Nat} (tgt : Nat) (dd : decode M.2.1 pc = .ok (.lookupswitch dflt ps, len)) (hp : (ps.toList.zip (ps.toList.drop 1)).all (fun (a, next) => a.1 < next.1) = true) (hx : -2147483648 ≤ x ∧ x ≤ 2147483647) (ho : Op.lookupswitch.offset ps.toList dflt x = off) (htg : (pc : Int) + off = (tgt : Int)) (k : Z d M mr tgt L st h Q) : Z d M mr pc L (vI x :: st) h Q := by
  intro p l e R s m args below meth c D r G H locs ls C0 hG hL hR hS
  exact lv_lookup C0.1 C0.2.1 dd hp (by rw [z_rng hx]; exact ho) htg (k p l e R s m args below meth c D r G H locs ls C0 hG hL hR hS)
theorem z_ret {x : Int} (dd : decode M.2.1 pc = .ok (.ireturn, 1)) (hf : zfit M.2.2.2 (some (vI x))) (hc : mr.2.2.1 ≤ mr.1 ∧ mr.2.2.2 ≤ mr.2.1) (k : Q (some (vI x)) h) : Z d M mr pc L [vI x] h Q := by
  intro p l e R s m args below meth c D r G H locs ls C0 hG hL hR hS
  exact W.widen hc.1 hc.2 (hG (some (vI x)) h H locs ls pc dd hf k hR hS)
theorem z_lret {x : Int} (dd : decode M.2.1 pc = .ok (.lreturn, 1)) (hf : zfit M.2.2.2 (some (vJ x))) (hc : mr.2.2.1 ≤ mr.1 ∧ mr.2.2.2 ≤ mr.2.1) (k : Q (some (vJ x)) h) : Z d M mr pc L [vJ x] h Q := by
  intro p l e R s m args below meth c D r G H locs ls C0 hG hL hR hS
  exact W.widen hc.1 hc.2 (hG (some (vJ x)) h H locs ls pc dd hf k hR hS)
theorem z_aret {x : Option Nat} (dd : decode M.2.1 pc = .ok (.areturn, 1)) (hf : zfit M.2.2.2 (some (.inr (.inr x)))) (hc : mr.2.2.1 ≤ mr.1 ∧ mr.2.2.2 ≤ mr.2.1) (k : Q (some (.inr (.inr x))) h) : Z d M mr pc L [.inr (.inr x)] h Q := by
  intro p l e R s m args below meth c D r G H locs ls C0 hG hL hR hS
  exact W.widen hc.1 hc.2 (hG (some (.inr (.inr x))) h H locs ls pc dd hf k hR hS)
theorem z_vret (dd : decode M.2.1 pc = .ok (.return_, 1)) (hf : zfit M.2.2.2 none) (hc : mr.2.2.1 ≤ mr.1 ∧ mr.2.2.2 ≤ mr.2.1) (k : Q none h) : Z d M mr pc L [] h Q := by
  intro p l e R s m args below meth c D r G H locs ls C0 hG hL hR hS
  exact W.widen hc.1 hc.2 (hG none h H locs ls pc dd hf k hR hS)
/-- fewer locals are known -/
theorem z_sub {L' : List (Option zV)} (hs : ∀ (i : Nat) (v : zV), L'[i]? = some (some v) → L[i]? = some (some v)) (k : Z d M mr pc L' st h Q) : Z d M mr pc L st h Q := by
  intro p l e R s m args below meth c D r G H locs ls C0 hG hL hR hS
  exact k p l e R s m args below meth c D r G H locs ls C0 hG ⟨hL.1, hL.2.1, fun i v hi => hL.2.2 i v (hs i v hi)⟩ hR hS
end ZROWS
