/-! ROWS OF THE ABSTRACT MACHINE: fields, arrays, new cells -/
theorem zx_in {i : Int} {n : Nat} (h : 0 ≤ i ∧ i < n) (hn : n < 2147483648) : vp_in (Int32.ofInt i) n := by
  rw [vp_in_iff, z_rng (by omega)]
  exact h
theorem zx_cl {i : Int} (h : 0 ≤ i ∧ i ≤ 2147483647) : (Int32.ofInt i).toNatClampNeg = i.toNat := Int32.toNatClampNeg_ofInt_of_le (by omega) (by omega)
def zst (f : Int → Int) (i x : Int) : Int → Int := fun j => if j = i then x else f j
def zstR (f : Int → Option Nat) (i : Int) (x : Option Nat) : Int → Option Nat := fun j => if j = i then x else f j
theorem zst_same (f : Int → Int) (i x : Int) : zst f i x i = x := by simp [zst]
theorem zst_ne (f : Int → Int) {i j : Int} (x : Int) (h : j ≠ i) : zst f i x j = f j := by simp [zst, h]
theorem zRel.lab2 {U : State} {D : va_G} {r : Nat → Nat} {h : zH} {H : Heap} (k : zRel U D r h H) {a : Nat} {c : zE} (h2 : 2 ≤ a) (ha : h.1 a = some c) : zat U D r (r a) c H := by
  rcases (k.1 a c ha).2 with z | z
  · exact z
  · exact absurd z.1 (by omega)
theorem zRel.labO {U : State} {D : va_G} {r : Nat → Nat} {h : zH} {H : Heap} (k : zRel U D r h H) {a : Nat} {o : Nat × List zV} (ha : h.1 a = some (.inl o)) : zat U D r (r a) (.inl o) H := by
  rcases (k.1 a _ ha).2 with z | z
  · exact z
  · exact absurd z.2 id
theorem zRel.labT {U : State} {D : va_G} {r : Nat → Nat} {h : zH} {H : Heap} (k : zRel U D r h H) {a : Nat} {o : Nat × (Int → Option Nat)} (ha : h.1 a = some (.inr (.inr o))) : zat U D r (r a) (.inr (.inr o)) H := by
  rcases (k.1 a _ ha).2 with z | z
  · exact z
  · exact absurd z.2 id
/-- an array of numbers, to be read -/
theorem zRel.labR {U : State} {D : va_G} {r : Nat → Nat} {h : zH} {H : Heap} (k : zRel U D r h H) {a kk n : Nat} {f : Int → Int} (ha : h.1 a = some (.inr (.inl (kk, n, f)))) : zar U (r a) (.inr (.inl (kk, n, f))) H := by
  rcases (k.1 a _ ha).2 with ⟨cA, h1, h2, h3⟩ | z
  · match kk, h1, h3 with
    | 0, h1, h3 => exact ⟨_, h3, h1 n (fun j => .int (Int32.ofInt (f j))), (fun q => by cases q), (by show n ≤ (arrV _ _ _).slots.size; rw [arrV_size]; exact Nat.le_refl _), (by show ((arrV _ _ _).slots.size).toInt32 = _; rw [arrV_size, Int32.ofInt_eq_ofNat]), (fun j hj => by show (arrV _ _ _).slots[_]? = _; rw [arrV_read _ _ hj]; rfl)⟩
    | 1, h1, h3 => exact ⟨_, h3, h1 n (fun j => .long (Int64.ofInt (f j))), (fun q => by cases q), (by show n ≤ (arrV _ _ _).slots.size; rw [arrV_size]; exact Nat.le_refl _), (by show ((arrV _ _ _).slots.size).toInt32 = _; rw [arrV_size, Int32.ofInt_eq_ofNat]), (fun j hj => by show (arrV _ _ _).slots[_]? = _; rw [arrV_read _ _ hj]; rfl)⟩
    | kk + 2, h1, h3 => exact ⟨_, h3, h1 n (fun j => .int (Int32.ofInt (f j))), (fun q => by cases q), (by show n ≤ (arrV _ _ _).slots.size; rw [arrV_size]; exact Nat.le_refl _), (by show ((arrV _ _ _).slots.size).toInt32 = _; rw [arrV_size, Int32.ofInt_eq_ofNat]), (fun j hj => by show (arrV _ _ _).slots[_]? = _; rw [arrV_read _ _ hj]; rfl)⟩
  · exact z.2
theorem zin_le {i : Int32} {n N : Nat} (h : vp_in i n) (hn : n ≤ N) : ¬ (i < 0 ∨ N ≤ i.toNatClampNeg) := by
  intro q
  rcases q with q | q
  · exact h (Or.inl q)
  · exact h (Or.inr (by omega))
theorem zA_lab {r : Nat → Nat} {a : Nat} (h : 2 ≤ a) : zA r (r a) := ⟨a, h, rfl⟩
/-- contents count only within their length -/
theorem zat_ext {U : State} {D : va_G} {r : Nat → Nat} {a k n : Nat} {f g : Int → Int} {H : Heap} (h : zat U D r a (.inr (.inl (k, n, f))) H) (e : ∀ i : Int, 0 ≤ i → i < n → f i = g i) : zat U D r a (.inr (.inl (k, n, g))) H := by
  obtain ⟨cA, h1, h2, h3⟩ := h
  refine ⟨cA, h1, h2, ?_⟩
  rw [h3]
  have key : ∀ (F G : Nat → Value), (∀ j : Nat, j < n → F j = G j) → arrV cA n F = arrV cA n G := by
    intro F G hFG
    unfold arrV
    congr 1
    exact congrArg Array.ofFn (funext fun j => hFG j.val j.isLt)
  match k with
  | 0 => exact congrArg some (key (fun j => .int (Int32.ofInt (f j))) (fun j => .int (Int32.ofInt (g j))) (fun j hj => congrArg (fun z => Value.int (Int32.ofInt z)) (e j (by omega) (by omega))))
  | 1 => exact congrArg some (key (fun j => .long (Int64.ofInt (f j))) (fun j => .long (Int64.ofInt (g j))) (fun j hj => congrArg (fun z => Value.long (Int64.ofInt z)) (e j (by omega) (by omega))))
  | k + 2 => exact congrArg some (key (fun j => .int (Int32.ofInt (f j))) (fun j => .int (Int32.ofInt (g j))) (fun j hj => congrArg (fun z => Value.int (Int32.ofInt z)) (e j (by omega) (by omega))))
section ZHEAP
variable {d : Nat} {M : zM} {mr : zK} {pc : Nat} {L : List (Option zV)} {st : List zV} {h : zH} {Q : Option zV → zH → Prop}
/-- a heap that is the same as far as it counts -/
theorem z_ext {a k n : Nat} {f g : Int → Int} (h2 : 2 ≤ a) (ha : h.1 a = some (.inr (.inl (k, n, f)))) (e : ∀ i : Int, 0 ≤ i → i < n → f i = g i) (kk : Z d M mr pc L st (zup h a (.inr (.inl (k, n, g)))) Q) : Z d M mr pc L st h Q := by
  intro p l e' R s m args below meth c D r G H locs ls C0 hG hL hR hS
  exact kk p l e' R s m args below meth c D r G H locs ls C0 hG hL (hR.put ha (zat_ext (hR.lab2 h2 ha) e) rfl (fun _ _ => rfl)) hS
theorem z_getf {a ci idx N : Nat} {fs : List zV} {v : zV} {C : String} {T : u_T} (n : Nat) (dd : decode M.2.1 pc = .ok (.getfield idx, 3)) (hn : pc + 3 = n) (hc : vwCl[ci]? = some (C, T, N)) (hi : ∀ w ∈ u_ws C T N, w ∈ zW) (k : Nat) (hk : k < N) (hw : Cond.fieldLink M.1.cls idx (T k).1 (T k).2.1 (T k).2.2.1 ∈ zW) (ha : h.1 a = some (zO ci fs)) (hv : fs[k]? = some v) (kk : Z d M mr n L (v :: st) h Q) : Z d M mr pc L (vR a :: st) h Q := by
  subst hn
  intro p l e R s m args below meth c D r G H locs ls C0 hG hL hR hS
  have K := kk p l e R s m args below meth c D r G H locs ls C0 hG hL hR hS
  have hP : va_P D vwCl [(r a, .inr (ci, fs.map (zv r)))] H := fun j q hq => by
    match j, hq with
    | 0, hq => cases hq; exact hR.labO ha
    | j + 1, hq => simp at hq
  exact va_get C0.1 C0.2.1 C0.2.2.2.2.1 hi C0.2.2.2.1 C0.2.2.2.2.2.1.1 hP 0 rfl hc k hk (C0.2.2.2.2.1 _ hw) (fun _ q => q) (by rw [List.getElem?_map, hv]; rfl) dd K
theorem z_putf {a ci idx N : Nat} {fs : List zV} {v : zV} {C : String} {T : u_T} {ty : Nat → FieldType} (n : Nat) (dd : decode M.2.1 pc = .ok (.putfield idx, 3)) (hn : pc + 3 = n) (hc : vwCl[ci]? = some (C, T, N)) (hi : ∀ w ∈ u_ws C T N, w ∈ zW) (hty : ∀ k, k < N → parseFieldDescriptor (T k).2.2.1 = some (ty k)) (hnm : ∀ a, a < N → ∀ b, b < N → a ≠ b → (T a).2.1 ≠ (T b).2.1) (k : Nat) (hk : k < N) (hw : Cond.fieldLink M.1.cls idx (T k).1 (T k).2.1 (T k).2.2.1 ∈ zW) (hfin : (T k).2.2.2 = false) (hft : ∀ r : Nat → Nat, narrow (ty k) (zv r v) = zv r v ∧ fits (ty k) (zv r v) = true) (h2 : 2 ≤ a) (ha : h.1 a = some (zO ci fs)) (hl : k < fs.length) (kk : Z d M mr n L st (zup h a (zO ci (fs.set k v))) Q) : Z d M mr pc L (v :: vR a :: st) h Q := by
  subst hn
  intro p l e R s m args below meth c D r G H locs ls C0 hG hL hR hS
  have hts := C0.2.2.2.2.1
  have hK := C0.2.2.2.2.2.1.1
  have hap := va_apart (own := M.1.cls) hts hi ty hty hnm hK hc
  obtain ⟨r', h1, cell, q1, q2, q3, q4⟩ := hR.labO ha
  have hr : r' = (C, T, N) := Option.some.inj (h1.symm.trans hc)
  subst hr
  obtain ⟨hSl, hfc, kC, hkC, hkind⟩ := hK.1 ci _ hc
  obtain ⟨cf, kf, fi, f, hif, hsl⟩ := hSl k hk
  have hlay := hts _ (hi _ (u_in_lay hk))
  unfold u_lay at hlay
  rw [if_neg (by rw [hfin]; decide)] at hlay
  have hst := (u_facts hfc hkC (u_lays hts hi hk) hif).1
  have h6 := u_store hfc hkC hkind hlay hif (hty k hk) (hft r).1 (hft r).2
  refine W.putK C0.1 C0.2.1 (f := f) ⟨C0.2.2.2.1, hts _ hw, ⟨_, _, _, hif⟩, hst⟩ (by rw [q2]; exact h6) q1 q3 (by rw [hsl]; exact k2_hasslot (q4 k hk)) rfl rfl dd fun H' e1 e2 e3 => ?_
  rw [hsl] at e1 ⊢
  refine kk p l e R s m args below meth c D r G H' _ ls C0 hG hL (hR.put ha ?_ e2 e3) (hS.put e2 e3 (zA_lab h2))
  refine ⟨_, hc, t_OB.to (V := updV (vp_V (fs.map (zv r))) k (zv r v)) ⟨_, e1, q2, q3, t_set q4 hap hk (zv r v)⟩ (fun j _ => ?_)⟩
  rw [vp_updV_set (by rw [List.length_map]; exact hl), ← List.map_set]
theorem z_putF {a ci idx N : Nat} {fs : List zV} {v : zV} {C : String} {T : u_T} {ty : Nat → FieldType} (n : Nat) (dd : decode M.2.1 pc = .ok (.putfield idx, 3)) (hn : pc + 3 = n) (hc : vwCl[ci]? = some (C, T, N)) (hi : ∀ w ∈ u_ws C T N, w ∈ zW) (hty : ∀ k, k < N → parseFieldDescriptor (T k).2.2.1 = some (ty k)) (hnm : ∀ a, a < N → ∀ b, b < N → a ≠ b → (T a).2.1 ≠ (T b).2.1) (k : Nat) (hk : k < N) (hw : Cond.fieldLink M.1.cls idx (T k).1 (T k).2.1 (T k).2.2.1 ∈ zW) (hfin : (T k).2.2.2 = true) (hini : M.1.name = "<init>") (hdecl : (T k).1 = M.1.cls) (hft : ∀ r : Nat → Nat, narrow (ty k) (zv r v) = zv r v ∧ fits (ty k) (zv r v) = true) (h2 : 2 ≤ a) (ha : h.1 a = some (zO ci fs)) (hl : k < fs.length) (kk : Z d M mr n L st (zup h a (zO ci (fs.set k v))) Q) : Z d M mr pc L (v :: vR a :: st) h Q := by
  subst hn
  intro p l e R s m args below meth c D r G H locs ls C0 hG hL hR hS
  have hts := C0.2.2.2.2.1
  have hK := C0.2.2.2.2.2.1.1
  have hown := C0.2.2.2.1
  have hap := va_apart (own := M.1.cls) hts hi ty hty hnm hK hc
  obtain ⟨r', h1, cell, q1, q2, q3, q4⟩ := hR.labO ha
  have hr : r' = (C, T, N) := Option.some.inj (h1.symm.trans hc)
  subst hr
  obtain ⟨hSl, hfc, kC, hkC, hkind⟩ := hK.1 ci _ hc
  obtain ⟨cf, kf, fi, f, hif, hsl⟩ := hSl k hk
  have hlay := hts _ (hi _ (u_in_lay hk))
  unfold u_lay at hlay
  rw [if_pos hfin] at hlay
  have hst := (u_facts hfc hkC (u_lays hts hi hk) hif).1
  have hcf : m.cls = cf := by
    obtain ⟨_, _, c', _, _, _, -, -, hf', -, -, -, hown2, -⟩ := Cond.laysFinal_spec hlay
    have e1 : c' = cf := by have := hif.symm.trans hf'; simp at this; exact this.1.symm
    rw [hdecl] at hown2
    rw [← e1]; exact Option.some.inj (hown.symm.trans hown2)
  have h6 := u_fits hfc hkC hkind (Or.inr hlay) hif (hty k hk) (hft r).1 (hft r).2
  refine W.putFinK C0.1 C0.2.1 hown (hts _ hw) hif hst hcf (by rw [C0.2.2.2.2.2.2.1]; exact hini) (by rw [q2]; exact h6) q1 q3 (by rw [hsl]; exact k2_hasslot (q4 k hk)) rfl rfl dd fun H' e1 e2 e3 => ?_
  rw [hsl] at e1 ⊢
  refine kk p l e R s m args below meth c D r G H' _ ls C0 hG hL (hR.put ha ?_ e2 e3) (hS.put e2 e3 (zA_lab h2))
  refine ⟨_, hc, t_OB.to (V := updV (vp_V (fs.map (zv r))) k (zv r v)) ⟨_, e1, q2, q3, t_set q4 hap hk (zv r v)⟩ (fun j _ => ?_)⟩
  rw [vp_updV_set (by rw [List.length_map]; exact hl), ← List.map_set]
theorem zidx {i : Int} {n : Nat} (h : 0 ≤ i ∧ i < n) (hn : n < 2147483648) : ((Int32.ofInt i).toNatClampNeg : Int) = i ∧ (Int32.ofInt i).toNatClampNeg < n := by
  rw [zx_cl (by omega)]
  omega
theorem z_iald {a N : Nat} {f : Int → Int} {i : Int} (n : Nat) (dd : decode M.2.1 pc = .ok (.iaload, 1)) (hn : pc + 1 = n) (ha : h.1 a = some (zI N f)) (hN : N < 2147483648) (hi : 0 ≤ i ∧ i < N) (kk : Z d M mr n L (vI (f i) :: st) h Q) : Z d M mr pc L (vI i :: vR a :: st) h Q := by
  subst hn
  intro p l e R s m args below meth c D r G H locs ls C0 hG hL hR hS
  have K := kk p l e R s m args below meth c D r G H locs ls C0 hG hL hR hS
  obtain ⟨cell, g1, g2, g3, g4, g5, g6⟩ := hR.labR ha
  have hz := zx_in hi hN
  obtain ⟨e1, e2⟩ := zidx hi hN
  exact W.iald (v := .int (Int32.ofInt (f i))) C0.1 C0.2.1 g1 g2 g3 (zin_le hz g4) (by rw [g6 _ e2, e1]; rfl) rfl rfl dd K
theorem z_lald {a N : Nat} {f : Int → Int} {i : Int} (n : Nat) (dd : decode M.2.1 pc = .ok (.laload, 1)) (hn : pc + 1 = n) (ha : h.1 a = some (zJ N f)) (hN : N < 2147483648) (hi : 0 ≤ i ∧ i < N) (kk : Z d M mr n L (vJ (f i) :: st) h Q) : Z d M mr pc L (vI i :: vR a :: st) h Q := by
  subst hn
  intro p l e R s m args below meth c D r G H locs ls C0 hG hL hR hS
  have K := kk p l e R s m args below meth c D r G H locs ls C0 hG hL hR hS
  obtain ⟨cell, g1, g2, g3, g4, g5, g6⟩ := hR.labR ha
  have hz := zx_in hi hN
  obtain ⟨e1, e2⟩ := zidx hi hN
  exact W.lald (v := .long (Int64.ofInt (f i))) C0.1 C0.2.1 g1 g2 g3 (zin_le hz g4) (by rw [g6 _ e2, e1]; rfl) rfl rfl dd K
theorem z_bald {a N : Nat} {f : Int → Int} {i : Int} (n : Nat) (dd : decode M.2.1 pc = .ok (.baload, 1)) (hn : pc + 1 = n) (ha : h.1 a = some (zB N f)) (hN : N < 2147483648) (hi : 0 ≤ i ∧ i < N) (kk : Z d M mr n L (vI (f i) :: st) h Q) : Z d M mr pc L (vI i :: vR a :: st) h Q := by
  subst hn
  intro p l e R s m args below meth c D r G H locs ls C0 hG hL hR hS
  have K := kk p l e R s m args below meth c D r G H locs ls C0 hG hL hR hS
  obtain ⟨cell, g1, g2, g3, g4, g5, g6⟩ := hR.labR ha
  have hz := zx_in hi hN
  obtain ⟨e1, e2⟩ := zidx hi hN
  exact W.zald (v := .int (Int32.ofInt (f i))) C0.1 C0.2.1 g1 g2 g3 (zin_le hz g4) (by rw [g6 _ e2, e1]; rfl) rfl rfl dd K
theorem z_aald {a N : Nat} {f : Int → Option Nat} {i : Int} (n : Nat) (dd : decode M.2.1 pc = .ok (.aaload, 1)) (hn : pc + 1 = n) (ha : h.1 a = some (zT N f)) (hN : N < 2147483648) (hi : 0 ≤ i ∧ i < N) (kk : Z d M mr n L (.inr (.inr (f i)) :: st) h Q) : Z d M mr pc L (vI i :: vR a :: st) h Q := by
  subst hn
  intro p l e R s m args below meth c D r G H locs ls C0 hG hL hR hS
  have K := kk p l e R s m args below meth c D r G H locs ls C0 hG hL hR hS
  obtain ⟨cA, h1, h2, h3⟩ := hR.labT ha
  have hz := zx_in hi hN
  obtain ⟨e1, e2⟩ := zidx hi hN
  refine W.aald (v := zv r (.inr (.inr (f i)))) (ty := .object ztel) C0.1 C0.2.1 h3 (h1 N (fun j => va_rf ((f j).map r))) rfl (fun q => by cases q) (by show ¬ (_ ∨ (arrV _ _ _).slots.size ≤ _); rw [arrV_size]; exact hz) (by show (arrV _ _ _).slots[_]? = _; rw [arrV_read _ _ e2]; dsimp only; rw [e1]; cases f i <;> rfl) rfl rfl dd K
theorem zstore_fun {i : Int} {n : Nat} (h : 0 ≤ i ∧ i < n) (hn : n < 2147483648) (f : Int → Int) (x : Int) (mk : Int → Value) : updV (fun j : Nat => mk (f j)) (Int32.ofInt i).toNatClampNeg (mk x) = fun j : Nat => mk (zst f i x j) := by
  obtain ⟨e1, e2⟩ := zidx h hn
  funext q
  by_cases hq : q = (Int32.ofInt i).toNatClampNeg
  · rw [hq]; simp [updV, zst, e1]
  · have : ((q : Int) ≠ i) := by omega
    simp [updV, zst, hq, this]
theorem z_iast {a N : Nat} {f : Int → Int} {i x : Int} (n : Nat) (dd : decode M.2.1 pc = .ok (.iastore, 1)) (hn : pc + 1 = n) (h2 : 2 ≤ a) (ha : h.1 a = some (zI N f)) (hN : N < 2147483648) (hi : 0 ≤ i ∧ i < N) (kk : Z d M mr n L st (zup h a (zI N (zst f i x))) Q) : Z d M mr pc L (vI x :: vI i :: vR a :: st) h Q := by
  subst hn
  intro p l e R s m args below meth c D r G H locs ls C0 hG hL hR hS
  obtain ⟨cA, k1, k2, k3⟩ := hR.lab2 h2 ha
  have hz := zx_in hi hN
  refine W.iast C0.1 C0.2.1 k3 (k1 N (fun j => .int (Int32.ofInt (f j)))) (fun q => by cases q) (by show ¬ (_ ∨ (arrV _ _ _).slots.size ≤ _); rw [arrV_size]; exact hz) rfl rfl dd fun H1 e1 z1 o1 => ?_
  refine kk p l e R s m args below meth c D r G H1 _ ls C0 hG hL (hR.put ha ⟨cA, k1, k2, ?_⟩ z1 o1) (hS.put z1 o1 (zA_lab h2))
  rw [e1]
  show some ((arrV cA N (fun j => Value.int (Int32.ofInt (f j)))).setSlot _ _) = some (arrV cA N (fun j => Value.int (Int32.ofInt (zst f i x j))))
  rw [arrV_store]
  exact congrArg (fun F => some (arrV cA N F)) (zstore_fun hi hN f x (fun z => .int (Int32.ofInt z)))
theorem z_last {a N : Nat} {f : Int → Int} {i x : Int} (n : Nat) (dd : decode M.2.1 pc = .ok (.lastore, 1)) (hn : pc + 1 = n) (h2 : 2 ≤ a) (ha : h.1 a = some (zJ N f)) (hN : N < 2147483648) (hi : 0 ≤ i ∧ i < N) (kk : Z d M mr n L st (zup h a (zJ N (zst f i x))) Q) : Z d M mr pc L (vJ x :: vI i :: vR a :: st) h Q := by
  subst hn
  intro p l e R s m args below meth c D r G H locs ls C0 hG hL hR hS
  obtain ⟨cA, k1, k2, k3⟩ := hR.lab2 h2 ha
  have hz := zx_in hi hN
  refine W.last C0.1 C0.2.1 k3 (k1 N (fun j => .long (Int64.ofInt (f j)))) (fun q => by cases q) (by show ¬ (_ ∨ (arrV _ _ _).slots.size ≤ _); rw [arrV_size]; exact hz) rfl rfl dd fun H1 e1 z1 o1 => ?_
  refine kk p l e R s m args below meth c D r G H1 _ ls C0 hG hL (hR.put ha ⟨cA, k1, k2, ?_⟩ z1 o1) (hS.put z1 o1 (zA_lab h2))
  rw [e1]
  show some ((arrV cA N (fun j => Value.long (Int64.ofInt (f j)))).setSlot _ _) = some (arrV cA N (fun j => Value.long (Int64.ofInt (zst f i x j))))
  rw [arrV_store]
  exact congrArg (fun F => some (arrV cA N F)) (zstore_fun hi hN f x (fun z => .long (Int64.ofInt z)))
theorem z_bast {a N : Nat} {f : Int → Int} {i x : Int} (n : Nat) (dd : decode M.2.1 pc = .ok (.bastore, 1)) (hn : pc + 1 = n) (h2 : 2 ≤ a) (ha : h.1 a = some (zB N f)) (hN : N < 2147483648) (hi : 0 ≤ i ∧ i < N) (hx : x = 0 ∨ x = 1) (kk : Z d M mr n L st (zup h a (zB N (zst f i x))) Q) : Z d M mr pc L (vI x :: vI i :: vR a :: st) h Q := by
  subst hn
  intro p l e R s m args below meth c D r G H locs ls C0 hG hL hR hS
  obtain ⟨cA, k1, k2, k3⟩ := hR.lab2 h2 ha
  have hz := zx_in hi hN
  have hnar : narrow .boolean (.int (Int32.ofInt x)) = .int (Int32.ofInt x) := by rcases hx with rfl | rfl <;> decide
  refine W.zast C0.1 C0.2.1 k3 (k1 N (fun j => .int (Int32.ofInt (f j)))) (fun q => by cases q) (by show ¬ (_ ∨ (arrV _ _ _).slots.size ≤ _); rw [arrV_size]; exact hz) rfl rfl dd fun H1 e1 z1 o1 => ?_
  refine kk p l e R s m args below meth c D r G H1 _ ls C0 hG hL (hR.put ha ⟨cA, k1, k2, ?_⟩ z1 o1) (hS.put z1 o1 (zA_lab h2))
  rw [e1, hnar]
  show some ((arrV cA N (fun j => Value.int (Int32.ofInt (f j)))).setSlot _ _) = some (arrV cA N (fun j => Value.int (Int32.ofInt (zst f i x j))))
  rw [arrV_store]
  exact congrArg (fun F => some (arrV cA N F)) (zstore_fun hi hN f x (fun z => .int (Int32.ofInt z)))
theorem z_aast {a b N ci : Nat} {fs : List zV} {f : Int → Option Nat} {i : Int} {T : u_T} {NT : Nat} (n : Nat) (dd : decode M.2.1 pc = .ok (.aastore, 1)) (hn : pc + 1 = n) (h2 : 2 ≤ a) (ha : h.1 a = some (zT N f)) (hN : N < 2147483648) (hi : 0 ≤ i ∧ i < N) (hb : h.1 b = some (zO ci fs)) (hc : vwCl[ci]? = some (ztel, T, NT)) (kk : Z d M mr n L st (zup h a (zT N (zstR f i (some b)))) Q) : Z d M mr pc L (vR b :: vI i :: vR a :: st) h Q := by
  subst hn
  intro p l e R s m args below meth c D r G H locs ls C0 hG hL hR hS
  have hK := C0.2.2.2.2.2.1.1
  obtain ⟨cA, k1, k2, k3⟩ := hR.labT ha
  obtain ⟨r', hr', cellV, g1, g2, g3, -⟩ := hR.labO hb
  obtain ⟨e1, e2⟩ := zidx hi hN
  have hz := zx_in hi hN
  have hcls := (hK.1 ci _ hc).2
  obtain ⟨kA, comp, j1, j2, j3, j4⟩ := k2
  have hcomp : comp = D.1 ci := Option.some.inj (j3.symm.trans hcls.1)
  subst hcomp
  obtain ⟨kC, hkC, -⟩ := hcls.2
  refine W.aast C0.1 C0.2.1 k3 (fun q h => by cases h) (fun h => by cases h) j1 j2 rfl hkC ⟨fun q => hz (Or.inl q), by show _ < (arrV _ _ _).slots.size; rw [arrV_size]; exact e2⟩ g1 (fun q h => by rw [g3] at h; cases h) (by rw [g2]; exact hkC) (by rw [g2]; exact va_assign hcls) rfl rfl dd fun H1 ee z1 o1 => ?_
  refine kk p l e R s m args below meth c D r G H1 _ ls C0 hG hL (hR.put ha ⟨cA, k1, ⟨kA, _, j1, j2, j3, j4⟩, ?_⟩ z1 o1) (hS.put z1 o1 (zA_lab h2))
  rw [ee]
  show some ((arrV cA N (fun j => va_rf ((f j).map r))).setSlot _ _) = some (arrV cA N (fun j => va_rf ((zstR f i (some b) j).map r)))
  rw [arrV_store]
  refine congrArg (fun F => some (arrV cA N F)) ?_
  funext q
  by_cases hq : q = (Int32.ofInt i).toNatClampNeg
  · rw [hq]; simp [updV, zstR, e1, va_rf]
  · have : ((q : Int) ≠ i) := by omega
    simp [updV, zstR, hq, this]
theorem z_alen {a k N : Nat} {f : Int → Int} (n : Nat) (dd : decode M.2.1 pc = .ok (.arraylength, 1)) (hn : pc + 1 = n) (ha : h.1 a = some (.inr (.inl (k, N, f)))) (kk : Z d M mr n L (vI (N : Int) :: st) h Q) : Z d M mr pc L (vR a :: st) h Q := by
  subst hn
  intro p l e R s m args below meth c D r G H locs ls C0 hG hL hR hS
  have K := kk p l e R s m args below meth c D r G H locs ls C0 hG hL hR hS
  obtain ⟨cell, g1, g2, g3, g4, g5, g6⟩ := hR.labR ha
  exact W.alen (n := Int32.ofInt N) C0.1 C0.2.1 g1 g2 g5 rfl rfl dd K
theorem z_alenT {a N : Nat} {f : Int → Option Nat} (n : Nat) (dd : decode M.2.1 pc = .ok (.arraylength, 1)) (hn : pc + 1 = n) (ha : h.1 a = some (zT N f)) (kk : Z d M mr n L (vI (N : Int) :: st) h Q) : Z d M mr pc L (vR a :: st) h Q := by
  subst hn
  intro p l e R s m args below meth c D r G H locs ls C0 hG hL hR hS
  have K := kk p l e R s m args below meth c D r G H locs ls C0 hG hL hR hS
  obtain ⟨cA, k1, k2, k3⟩ := hR.labT ha
  exact W.alen (n := Int32.ofInt N) C0.1 C0.2.1 k3 (k1 N (fun j => va_rf ((f j).map r))) (by show ((arrV _ _ _).slots.size).toInt32 = _; rw [arrV_size, Int32.ofInt_eq_ofNat]) rfl rfl dd K
end ZHEAP
