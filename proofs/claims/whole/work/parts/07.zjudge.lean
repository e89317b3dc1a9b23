/-! THE ABSTRACT MACHINE'S JUDGEMENTS. Z: from here the method comes to its end with Q. zC: a call comes to its end with Q. -/
/-- a method: its name, its code, its locals, its kind of answer -/
abbrev zM : Type := MethodName × ByteArray × Nat × Option FieldType
def zfit (ret : Option FieldType) (v : Option zV) : Prop := match ret, v with
  | none, none => True
  | some .int, some (.inl _) => True
  | some .boolean, some (.inl x) => x = 0 ∨ x = 1
  | some .long, some (.inr (.inl _)) => True
  | some (.object _), some (.inr (.inr _)) => True
  | _, _ => False
def zRI (v : Option zV) (cc : ByteArray) (pc : Nat) : Prop := match v with
  | none => decode cc pc = .ok (.return_, 1)
  | some (.inl _) => decode cc pc = .ok (.ireturn, 1)
  | some (.inr (.inl _)) => decode cc pc = .ok (.lreturn, 1)
  | some (.inr (.inr _)) => decode cc pc = .ok (.areturn, 1)
def zL (r : Nat → Nat) (L : List (Option zV)) (ls : Array Slot) (nL : Nat) : Prop := ls.size = nL ∧ lv_wf ls ∧ ∀ (i : Nat) (v : zV), L[i]? = some (some v) → ls[i]? = some (.val (zv r v))
abbrev zK : Type := Nat × Nat × Nat × Nat
def zCtx (d : Nat) (M : zM) (mr : zK) (p : Program) (R : Room) (s : State) (m : MethodId) (args : Array Value) (meth : Method) (c : Code) (D : va_G) (r : Nat → Nat) : Prop :=
  p.tables.exec = Jvm.exec ∧ c.code = M.2.1 ∧ c.maxLocals = M.2.2.1 ∧ s.vm.findClass M.1.cls = some m.cls ∧ (∀ w ∈ zW, w.before args s = true) ∧ zEnv D r s s.heap ∧ meth.name = M.1.name ∧ d ≤ R.frames ∧ 64 * d ≤ R.locals ∧ mr.1 ≤ R.cells ∧ mr.2.1 ≤ R.slots
def zEnd (M : zM) (mr : zK) (Q : Option zV → zH → Prop) (p : Program) (l : Launch) (e : Env) (R : Room) (s : State) (m : MethodId) (args : Array Value) (below : List Frame) (meth : Method) (c : Code) (D : va_G) (r : Nat → Nat) (G : State → Prop) : Prop :=
  ∀ (v : Option zV) (h : zH) (H : Heap) (locs : List Loc) (ls : Array Slot) (pc : Nat), zRI v M.2.1 pc → zfit M.2.2.2 v → Q v h → zRel s D r h H → va_S (zA r) s.heap H locs →
    W p l e R s m args below meth c H locs mr.1 mr.2.1 G (F0 m pc ls (v.toList.map (zv r)))
def Z (d : Nat) (M : zM) (mr : zK) (pc : Nat) (L : List (Option zV)) (st : List zV) (h : zH) (Q : Option zV → zH → Prop) : Prop :=
  ∀ (p : Program) (l : Launch) (e : Env) (R : Room) (s : State) (m : MethodId) (args : Array Value) (below : List Frame) (meth : Method) (c : Code) (D : va_G) (r : Nat → Nat) (G : State → Prop) (H : Heap) (locs : List Loc) (ls : Array Slot),
    zCtx d M mr p R s m args meth c D r → zEnd M mr Q p l e R s m args below meth c D r G → zL r L ls M.2.2.1 → zRel s D r h H → va_S (zA r) s.heap H locs →
    W p l e R s m args below meth c H locs mr.2.2.1 mr.2.2.2 G (F0 m pc ls (st.map (zv r)))
def zroom (d mc ms : Nat) : Room := { frames := d, cells := mc, slots := ms, locals := 64 * d }
def zPc (D : va_G) (r : Nat → Nat) (av : List zV) (h : zH) : Array Value → State → Prop := va_Pc (av.map (zv r)) (fun U => zEnv D r U U.heap ∧ zRel U D r h U.heap)
def zQc (D : va_G) (r : Nat → Nat) (Q : Option zV → zH → Prop) : Array Value → State → Outcome → State → Prop := fun _ st o t => (∃ (v : Option zV) (h : zH), o = .returned (v.map (zv r)) ∧ Q v h ∧ zRel t D r h t.heap) ∧ va_F (zA r) st t
def zC (d : Nat) (M : zM) (mc ms : Nat) (av : List zV) (h : zH) (Q : Option zV → zH → Prop) : Prop :=
  ∀ (l : Launch) (D : va_G) (r : Nat → Nat), Met l M.1 (Cond.code M.1 M.2.1 M.2.2.1 M.2.2.2 :: zW) (zroom d mc ms) (zPc D r av h) (zQc D r Q) mc ms (zA r)
/-- the locals at a method's entry -/
def zent1 : List zV → List (Option zV)
  | [] => []
  | .inr (.inl x) :: t => some (.inr (.inl x)) :: none :: zent1 t
  | v :: t => some v :: zent1 t
def zent (av : List zV) (n : Nat) : List (Option zV) := zent1 av ++ List.replicate (n - (zent1 av).length) none
theorem zent1_len (r : Nat → Nat) : ∀ av : List zV, (lg_sl (av.map (zv r))).length = (zent1 av).length
  | [] => rfl
  | .inr (.inl x) :: t => by
    have := zent1_len r t
    simp only [lg_sl, List.map_cons, List.flatMap_cons, zv, Value.category, zent1, List.length_append, List.length_cons] at this ⊢
    simp at this ⊢
    omega
  | .inl x :: t => by
    have := zent1_len r t
    simp only [lg_sl, List.map_cons, List.flatMap_cons, zv, Value.category, zent1, List.length_append, List.length_cons] at this ⊢
    simp at this ⊢
    omega
  | .inr (.inr (some x)) :: t => by
    have := zent1_len r t
    simp only [lg_sl, List.map_cons, List.flatMap_cons, zv, Value.category, zent1, List.length_append, List.length_cons] at this ⊢
    simp at this ⊢
    omega
  | .inr (.inr none) :: t => by
    have := zent1_len r t
    simp only [lg_sl, List.map_cons, List.flatMap_cons, zv, Value.category, zent1, List.length_append, List.length_cons] at this ⊢
    simp at this ⊢
    omega
theorem zent1_at (r : Nat → Nat) : ∀ (av : List zV) (i : Nat) (v : zV), (zent1 av)[i]? = some (some v) → (lg_sl (av.map (zv r)))[i]? = some (.val (zv r v))
  | [], i, v, h => by simp [zent1] at h
  | .inr (.inl x) :: t, i, v, h => by
    have ih := zent1_at r t
    match i, h with
    | 0, h => simp [zent1] at h; subst h; simp [lg_sl, zv, Value.category]
    | 1, h => simp [zent1] at h
    | i + 2, h => simp [zent1] at h; have := ih i v h; simp only [lg_sl, List.map_cons, List.flatMap_cons, zv, Value.category] at this ⊢; simpa using this
  | .inl x :: t, i, v, h => by
    have ih := zent1_at r t
    match i, h with
    | 0, h => simp [zent1] at h; subst h; simp [lg_sl, zv, Value.category]
    | i + 1, h => simp [zent1] at h; have := ih i v h; simp only [lg_sl, List.map_cons, List.flatMap_cons, zv, Value.category] at this ⊢; simpa using this
  | .inr (.inr (some x)) :: t, i, v, h => by
    have ih := zent1_at r t
    match i, h with
    | 0, h => simp [zent1] at h; subst h; simp [lg_sl, zv, Value.category]
    | i + 1, h => simp [zent1] at h; have := ih i v h; simp only [lg_sl, List.map_cons, List.flatMap_cons, zv, Value.category] at this ⊢; simpa using this
  | .inr (.inr none) :: t, i, v, h => by
    have ih := zent1_at r t
    match i, h with
    | 0, h => simp [zent1] at h; subst h; simp [lg_sl, zv, Value.category]
    | i + 1, h => simp [zent1] at h; have := ih i v h; simp only [lg_sl, List.map_cons, List.flatMap_cons, zv, Value.category] at this ⊢; simpa using this
theorem zL_entry (r : Nat → Nat) (av : List zV) {n : Nat} (hn : (zent1 av).length ≤ n) : zL r (zent av n) ((lg_sl (av.map (zv r)) ++ List.replicate (n - (lg_sl (av.map (zv r))).length) Slot.unset).toArray) n := by
  obtain ⟨h1, h2, -⟩ := lv_entry (av.map (zv r)) (n := n) (by rw [zent1_len]; exact hn)
  refine ⟨h1, h2, fun i v hi => ?_⟩
  have hlen := zent1_len r av
  unfold zent at hi
  rcases Nat.lt_or_ge i (zent1 av).length with g | g
  · rw [List.getElem?_append_left g] at hi
    have := zent1_at r av i v hi
    simp only [List.getElem?_toArray]
    rw [List.getElem?_append_left (by omega)]
    exact this
  · rw [List.getElem?_append_right g] at hi
    have : (List.replicate (n - (zent1 av).length) (none : Option zV))[i - (zent1 av).length]? ≠ some (some v) := by
      rw [List.getElem?_replicate]
      split <;> simp
    exact absurd hi this
theorem zPc_blind (D : va_G) (r : Nat → Nat) (av : List zV) (h : zH) : FrameBlind (zPc D r av h) := by
  intro a U g mk ⟨h1, ⟨k1, k2, k3, k4⟩, h3⟩
  refine ⟨h1, ⟨va_K.moved (u := U) (U := U.calling g mk a) (Vm.Alike.refl U.vm) k1, va_Z.moved (u := U) (U := U.calling g mk a) (Vm.Alike.refl U.vm) k2, fun w hw b i x hh e => ?_, va_AO.moved (u := U) (U := U.calling g mk a) (Vm.Alike.refl U.vm) k4⟩, zRel.moved (u := U) (U := U.calling g mk a) (Vm.Alike.refl U.vm) h3⟩
  subst e
  exact va_Nw.same rfl rfl (k3 _ hw b i x hh rfl)
set_option maxHeartbeats 1000000 in
/-- a call's contract, out of the walk of the method's body -/
theorem zC.of {d : Nat} {M : zM} {mc ms : Nat} {av : List zV} {h : zH} {Q : Option zV → zH → Prop} (hp : plainName M.1.cls = true) (hn : (zent1 av).length ≤ M.2.2.1) (k : Z d M (mc, ms, 0, 0) 0 (zent av M.2.2.1) [] h Q) : zC d M mc ms av h Q := by
  obtain ⟨y, cc, nL, ret⟩ := M
  intro l D r
  refine Met.ofW (cc := cc) (maxL := nL) (ret := ret) hp rfl ?_
  intro p e s m args below meth c s₁ B hml hv
  obtain ⟨rfl, hE, hR⟩ := hv
  have hr := B.returns
  have hlocks := B.notSynchronized
  have hts := atoms_spec (ws := Cond.code y cc nL ret :: zW) B.pre
  have hown : s.vm.findClass y.cls = some m.cls := findClass_of_methodNamed B.named
  have hin : meth.name = y.name := (name_of_methodNamed B.named B.method).1
  rw [lg_entry_eq]
  refine k p l e (headSpec (Cond.code y cc nL ret :: zW) (zroom d mc ms)).room s m _ below meth c D r _ s.heap [] _ ⟨B.exec, B.bytes, hml, hown, fun w hw => hts w (List.mem_cons_of_mem _ hw), hE, hin, Nat.le_refl _, Nat.le_refl _, Nat.le_refl _, Nat.le_refl _⟩ ?_ (zL_entry r av hn) hR va_S.rf
  intro v h2 H2 locs2 ls2 pc2 hi hf hq hR2 hS2
  have post : ∀ t : State, t.heap = H2 → s.WarmedH t.vm → zQc D r Q (List.map (zv r) av).toArray s (.returned (v.map (zv r))) t := fun t ht hW => ⟨⟨v, h2, rfl, hq, by rw [ht]; exact hR2.moved hW.alike⟩, hS2.F ht⟩
  rcases v with _ | x | x | x
  · cases ret with
    | none => exact W.vret B.exec B.bytes hr post hS2.2.2 hi
    | some t => cases t <;> exact absurd hf id
  · cases ret with
    | none => exact absurd hf id
    | some t =>
      cases t with
      | int => exact W.iret B.exec B.bytes hr post hS2.2.2 hi
      | boolean =>
        have hx : narrow .boolean (.int (Int32.ofInt x)) = .int (Int32.ofInt x) := by
          rcases hf with rfl | rfl <;> decide
        exact W.zret B.exec B.bytes hr hx post hS2.2.2 hi
      | _ => exact absurd hf id
  · cases ret with
    | none => exact absurd hf id
    | some t =>
      cases t with
      | long => exact W.lret B.exec B.bytes hr post hS2.2.2 hi
      | _ => exact absurd hf id
  · cases ret with
    | none => exact absurd hf id
    | some t =>
      cases t with
      | object C =>
        cases x with
        | none => exact W.aret B.exec B.bytes hr (Or.inl ⟨C, rfl⟩) (Or.inl rfl) post hS2.2.2 hi
        | some x => exact W.aret B.exec B.bytes hr (Or.inl ⟨C, rfl⟩) (Or.inr ⟨_, rfl⟩) post hS2.2.2 hi
      | _ => exact absurd hf id
