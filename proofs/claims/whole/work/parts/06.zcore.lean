/-! THE ABSTRACT MACHINE. A heap of labels: label 0 is the script, label 1 the table of factorials (both are only read), the others are the cells that the law makes. Numbers are Int. -/
/-- values: an int, a long, a reference to a label (or null) -/
abbrev zV : Type := Int ⊕ (Int ⊕ Option Nat)
abbrev vI (x : Int) : zV := .inl x
abbrev vJ (x : Int) : zV := .inr (.inl x)
abbrev vR (a : Nat) : zV := .inr (.inr (some a))
abbrev vN : zV := .inr (.inr none)
/-- cells: an object (its class's number, its fields); an array of numbers (0 int, 1 long, else boolean; length; contents); an array of references -/
abbrev zE : Type := (Nat × List zV) ⊕ ((Nat × Nat × (Int → Int)) ⊕ (Nat × (Int → Option Nat)))
abbrev zO (ci : Nat) (fs : List zV) : zE := .inl (ci, fs)
abbrev zI (n : Nat) (f : Int → Int) : zE := .inr (.inl (0, n, f))
abbrev zJ (n : Nat) (f : Int → Int) : zE := .inr (.inl (1, n, f))
abbrev zB (n : Nat) (f : Int → Int) : zE := .inr (.inl (2, n, f))
abbrev zT (n : Nat) (f : Int → Option Nat) : zE := .inr (.inr (n, f))
/-- a heap: its cells by label, and the next label -/
abbrev zH : Type := (Nat → Option zE) × Nat
def zup (h : zH) (a : Nat) (c : zE) : zH := (fun q => if q = a then some c else h.1 q, h.2)
def znew (h : zH) (c : zE) : zH := (fun q => if q = h.2 then some c else h.1 q, h.2 + 1)
theorem zup_same (h : zH) (a : Nat) (c : zE) : (zup h a c).1 a = some c := by simp [zup]
theorem zup_ne (h : zH) {a b : Nat} (c : zE) (hb : b ≠ a) : (zup h a c).1 b = h.1 b := by simp [zup, hb]
theorem zup_2 (h : zH) (a : Nat) (c : zE) : (zup h a c).2 = h.2 := rfl
def zv (r : Nat → Nat) : zV → Value
  | .inl x => .int (Int32.ofInt x)
  | .inr (.inl x) => .long (Int64.ofInt x)
  | .inr (.inr (some a)) => .ref (r a)
  | .inr (.inr none) => .null
def zty : Nat → FieldType
  | 0 => .int
  | 1 => .long
  | _ => .boolean
def zpf (k : Nat) (f : Int → Int) : (Nat → Int32) ⊕ (Nat → Int64) ⊕ (Nat → UInt32) ⊕ (Nat → UInt64) ⊕ (Nat → Option Nat) := match k with
  | 1 => .inr (.inl (fun j => Int64.ofInt (f j)))
  | _ => .inl (fun j => Int32.ofInt (f j))
def ztel : String := "LateLetters$Telling"
def zat (U : State) (D : va_G) (r : Nat → Nat) (a : Nat) (c : zE) (H : Heap) : Prop := match c with
  | .inl (ci, fs) => va_at D vwCl (a, .inr (ci, fs.map (zv r))) H
  | .inr (.inl (k, n, f)) => ∃ cA : ClassId, ArrOfT U cA (zty k) ∧ va_RA U cA (zty k) ∧ H[a]? = some (vp_cell cA (n, zpf k f))
  | .inr (.inr (n, f)) => ∃ cA : ClassId, ArrOfT U cA (.object ztel) ∧ va_RA U cA (.object ztel) ∧ H[a]? = some (vp_cell cA (n, .inr (.inr (.inr (.inr (fun j => (f j).map r))))))
/-- a number as the machine has it -/
def zval (k : Nat) (x : Int) : Value := match k with
  | 1 => .long (Int64.ofInt x)
  | _ => .int (Int32.ofInt x)
/-- an array of numbers that was there before: it can be read -/
def zar (U : State) (a : Nat) (c : zE) (H : Heap) : Prop := match c with
  | .inr (.inl (k, n, f)) => ∃ cell : Cell, H[a]? = some cell ∧ U.isArrayOf cell (zty k) ∧ cell.vm ≠ .unknown ∧ n ≤ cell.slots.size ∧ cell.slots.size.toInt32 = Int32.ofInt n ∧ ∀ j : Nat, j < n → cell.slots[j]? = some (zval k (f j))
  | _ => False
def zRel (U : State) (D : va_G) (r : Nat → Nat) (h : zH) (H : Heap) : Prop :=
  (∀ (q : Nat) (c : zE), h.1 q = some c → q < h.2 ∧ (zat U D r (r q) c H ∨ (q < 2 ∧ zar U (r q) c H))) ∧ (∀ q : Nat, q < h.2 → r q < H.size) ∧ (∀ i j : Nat, i < h.2 → j < h.2 → r i = r j → i = j) ∧ ∀ k : Nat, r (h.2 + k) = H.size + k
/-- the addresses that may be written -/
def zA (r : Nat → Nat) : Nat → Prop := fun q => ∃ a : Nat, 2 ≤ a ∧ r a = q
/-- the words that go along with every call -/
def zW : List Cond := lw_tbl.filter goodWord
theorem zW_good : GoodIn zW zW := fun w h => ⟨h, good_of_word (List.mem_filter.mp h).2⟩
/-- nest mates' links: they are no words, they go along in the worlds -/
def zNw (U : State) : Prop := ∀ w ∈ lw_tbl, ∀ (a : String) (i : Nat) (x : MethodName) (h : String), w = .methodLinkNest a i x h → va_Nw w U
def zEnv (D : va_G) (r : Nat → Nat) (U : State) (H : Heap) : Prop := va_K D vwCl [] U ∧ va_Z "LateLetters" "FACTORIALS" "[J" (.ref (r 1)) (zA r) U H ∧ zNw U ∧ va_AO ztel U
theorem zat.moved {u U : State} {D : va_G} {r : Nat → Nat} {a : Nat} {c : zE} {H : Heap} (hvm : u.vm.Alike U.vm) (h : zat u D r a c H) : zat U D r a c H := by
  rcases c with ⟨ci, fs⟩ | ⟨k, n, f⟩ | ⟨n, f⟩
  · exact h
  · obtain ⟨cA, h1, h2, h3⟩ := h
    exact ⟨cA, arrOfT_moved hvm h1, h2.moved hvm, h3⟩
  · obtain ⟨cA, h1, h2, h3⟩ := h
    exact ⟨cA, arrOfT_moved hvm h1, h2.moved hvm, h3⟩
theorem zat.kept {U : State} {D : va_G} {r : Nat → Nat} {a : Nat} {c : zE} {H H1 : Heap} (h : zat U D r a c H) (hq : H1[a]? = H[a]?) : zat U D r a c H1 := by
  rcases c with ⟨ci, fs⟩ | ⟨k, n, f⟩ | ⟨n, f⟩
  · exact va_at.kept (q := (a, .inr (ci, fs.map (zv r)))) h hq
  · obtain ⟨cA, h1, h2, h3⟩ := h
    exact ⟨cA, h1, h2, by rw [hq]; exact h3⟩
  · obtain ⟨cA, h1, h2, h3⟩ := h
    exact ⟨cA, h1, h2, by rw [hq]; exact h3⟩
theorem zar.moved {u U : State} {a : Nat} {c : zE} {H : Heap} (hvm : u.vm.Alike U.vm) (h : zar u a c H) : zar U a c H := by
  rcases c with ⟨ci, fs⟩ | ⟨k, n, f⟩ | ⟨n, f⟩
  · exact h
  · obtain ⟨cell, h1, h2, h3⟩ := h
    exact ⟨cell, h1, State.isArrayOf_alike hvm h2, h3⟩
  · exact h
theorem zar.kept {U : State} {a : Nat} {c : zE} {H H1 : Heap} (h : zar U a c H) (hq : H1[a]? = H[a]?) : zar U a c H1 := by
  rcases c with ⟨ci, fs⟩ | ⟨k, n, f⟩ | ⟨n, f⟩
  · exact h
  · obtain ⟨cell, h1, h2, h3⟩ := h
    exact ⟨cell, by rw [hq]; exact h1, h2, h3⟩
  · exact h
theorem zRel.moved {u U : State} {D : va_G} {r : Nat → Nat} {h : zH} {H : Heap} (hvm : u.vm.Alike U.vm) (k : zRel u D r h H) : zRel U D r h H :=
  ⟨fun q c hq => ⟨(k.1 q c hq).1, (k.1 q c hq).2.imp (fun z => z.moved hvm) (fun z => ⟨z.1, z.2.moved hvm⟩)⟩, k.2⟩
/-- one cell is written anew -/
theorem zRel.put {U : State} {D : va_G} {r : Nat → Nat} {h : zH} {H H1 : Heap} {a : Nat} {c c0 : zE} (k : zRel U D r h H) (h0 : h.1 a = some c0) (hc : zat U D r (r a) c H1) (hz : H1.size = H.size) (ho : ∀ q, q ≠ r a → H1[q]? = H[q]?) : zRel U D r (zup h a c) H1 := by
  obtain ⟨k1, k2, k3, k4⟩ := k
  have hal := (k1 a c0 h0).1
  refine ⟨fun q e hq => ?_, fun q hq => by rw [hz]; exact k2 q hq, k3, fun j => by rw [hz]; exact k4 j⟩
  by_cases hqa : q = a
  · subst hqa
    rw [zup_same] at hq
    cases hq
    exact ⟨hal, Or.inl hc⟩
  · rw [zup_ne _ _ hqa] at hq
    obtain ⟨g1, g2⟩ := k1 q e hq
    have e1 := ho _ (fun e => hqa (k3 q a g1 hal e))
    exact ⟨g1, g2.imp (fun z => z.kept e1) (fun z => ⟨z.1, z.2.kept e1⟩)⟩
/-- a new cell -/
theorem zRel.push {U : State} {D : va_G} {r : Nat → Nat} {h : zH} {H H1 : Heap} {c : zE} (k : zRel U D r h H) (hc : zat U D r H.size c H1) (hz : H1.size = H.size + 1) (ho : ∀ q, q < H.size → H1[q]? = H[q]?) : zRel U D r (znew h c) H1 ∧ r h.2 = H.size := by
  obtain ⟨k1, k2, k3, k4⟩ := k
  have hr : r h.2 = H.size := k4 0
  refine ⟨⟨fun q e hq => ?_, fun q hq => ?_, fun i j hi hj he => ?_, fun j => ?_⟩, hr⟩
  · by_cases hqa : q = h.2
    · subst hqa
      simp [znew] at hq
      cases hq
      refine ⟨by simp [znew], Or.inl ?_⟩
      rw [hr]; exact hc
    · simp [znew, hqa] at hq
      obtain ⟨g1, g2⟩ := k1 q e hq
      have e1 := ho _ (k2 q g1)
      exact ⟨by simp [znew]; omega, g2.imp (fun z => z.kept e1) (fun z => ⟨z.1, z.2.kept e1⟩)⟩
  · simp [znew] at hq
    rw [hz]
    rcases Nat.lt_or_ge q h.2 with g | g
    · have := k2 q g; omega
    · rw [show q = h.2 by omega, hr]; omega
  · simp [znew] at hi hj
    rcases Nat.lt_or_ge i h.2 with g | g <;> rcases Nat.lt_or_ge j h.2 with g' | g'
    · exact k3 i j g g' he
    · have e1 := k2 i g; have e2 : j = h.2 := by omega
      rw [e2, hr] at he; omega
    · have e1 := k2 j g'; have e2 : i = h.2 := by omega
      rw [e2, hr] at he; omega
    · omega
  · have := k4 (j + 1)
    show r (h.2 + 1 + j) = _
    rw [hz, show h.2 + 1 + j = h.2 + (j + 1) by omega, this]; omega
theorem zEnv.to {D : va_G} {r : Nat → Nat} {u U : State} {H H1 : Heap} (hW : u.WarmedH U.vm) (hq : ∀ a : Nat, a < H.size → ¬ zA r a → H1[a]? = H[a]?) (h : zEnv D r u H) : zEnv D r U H1 := by
  obtain ⟨h1, h2, h3, h4⟩ := h
  refine ⟨va_K.moved hW.alike h1, (h2.kept hq).moved hW.alike, fun w hw a i x g e => ?_, ?_⟩
  · subst e
    exact va_Nw.warmM hW (h3 _ hw a i x g rfl)
  · exact (va_AO.moved (u := u) hW.alike h4)
