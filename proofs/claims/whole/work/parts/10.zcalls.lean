/-! ROWS OF THE ABSTRACT MACHINE: new cells, calls -/
def zcat : List zV → Nat
  | [] => 0
  | .inr (.inl _) :: t => 2 + zcat t
  | _ :: t => 1 + zcat t
theorem zcat_eq (r : Nat → Nat) : ∀ st : List zV, ((st.map (zv r)).map fun v => v.category).sum = zcat st
  | [] => rfl
  | .inr (.inl x) :: t => by simp only [List.map_cons, List.sum_cons, zcat, zcat_eq r t]; rfl
  | .inl x :: t => by simp only [List.map_cons, List.sum_cons, zcat, zcat_eq r t]; rfl
  | .inr (.inr (some x)) :: t => by simp only [List.map_cons, List.sum_cons, zcat, zcat_eq r t]; rfl
  | .inr (.inr none) :: t => by simp only [List.map_cons, List.sum_cons, zcat, zcat_eq r t]; rfl
theorem va_S.new {A : Nat → Prop} {H0 H H1 : Heap} {locs : List Loc} (h : va_S A H0 H locs) (hz : H1.size = H.size + 1) (ho : ∀ q, q < H.size → H1[q]? = H[q]?) : va_S A H0 H1 locs :=
  ⟨by have := h.1; omega, fun q h1 h2 => (ho q (Nat.lt_of_lt_of_le h1 h.1)).trans (h.2.1 q h1 h2), h.2.2⟩
section ZNEW
variable {d : Nat} {M : zM} {A B x y : Nat} {pc : Nat} {L : List (Option zV)} {st : List zV} {h : zH} {Q : Option zV → zH → Prop}
theorem z_new {ci idx N : Nat} {C : String} {T : u_T} {ty : Nat → FieldType} (n : Nat) (fs : List zV) (dd : decode M.2.1 pc = .ok (.new idx, 3)) (hn : pc + 3 = n) (hc : vwCl[ci]? = some (C, T, N)) (hi : ∀ w ∈ u_ws C T N, w ∈ zW) (hty : ∀ k, k < N → parseFieldDescriptor (T k).2.2.1 = some (ty k)) (hw1 : Cond.classLink M.1.cls idx C ∈ zW) (hw2 : Cond.instantiable C N ∈ zW) (hw3 : Cond.initialized C ∈ zW) (hfs : ∀ (r : Nat → Nat) (j : Nat), j < N → defaultValue (ty j) = vp_V (fs.map (zv r)) j) (hr : x + 1 ≤ A ∧ y + N ≤ B) (kk : Z d M (A, B, x + 1, y + N) n L (vR h.2 :: st) (znew h (zO ci fs)) Q) : Z d M (A, B, x, y) pc L st h Q := by
  subst hn
  intro p l e R s m args below meth c D r G H locs ls C0 hG hL hR hS
  have hts := C0.2.2.2.2.1
  have hKn := C0.2.2.2.2.2.1.1.1 ci _ hc
  obtain ⟨-, -, -, -, -, -, -, -, -, hcA, hcB⟩ := id C0
  refine W.newcK C0.1 C0.2.1 C0.2.2.2.1 (hts _ hw1) (hts _ hw2) (hts _ hw3) rfl dd (Nat.le_trans hr.1 hcA) (Nat.le_trans hr.2 hcB) hKn.2.1 rfl fun H1 kC hkC e1 z1 o1 => ?_
  obtain ⟨hR1, hr1⟩ := hR.push (c := zO ci fs) ⟨_, hc, (u_born ty hts hi hKn hkC e1 hty).to (hfs r)⟩ z1 o1
  have K := kk p l e R s m args below meth c D r G H1 locs ls C0 hG hL hR1 (hS.new z1 o1)
  rw [← hr1]
  exact K

theorem z_newa_int {v : Int} (n N : Nat) (dd : decode M.2.1 pc = .ok (.newarray .int, 2)) (hn : pc + 2 = n) (hN : v = (N : Int)) (hM : N ≤ 100000) (hw : Cond.arrayClass (newarray.typeOf .int) ∈ zW) (hr : x + 1 ≤ A ∧ y + N ≤ B) (kk : Z d M (A, B, x + 1, y + N) n L (vR h.2 :: st) (znew h (zI N (fun _ => 0))) Q) : Z d M (A, B, x, y) pc L (vI v :: st) h Q := by
  subst hn
  subst hN
  intro p l e R s m args below meth c D r G H locs ls C0 hG hL hR hS
  have hts := C0.2.2.2.2.1
  obtain ⟨-, -, -, -, -, -, -, -, -, hcA, hcB⟩ := id C0
  refine va_newaK (atype := .int) (N := N) C0.1 C0.2.1 (hts _ hw) rfl dd rfl (by intro q; have := (z_lt (x := (N : Int)) (y := 0) (by omega) (by omega)).mp q; omega) (by rw [zx_cl (by omega)]; omega) (by show N * _ ≤ 536870912; simp only [newarray.typeOf, componentBytes]; omega) (Nat.le_trans hr.1 hcA) (Nat.le_trans hr.2 hcB) rfl fun H1 cA e1 z1 o1 hAr hNm => ?_
  obtain ⟨hR1, hr1⟩ := hR.push (c := zI N (fun _ => 0)) ⟨cA, hAr, hNm, e1⟩ z1 o1
  have K := kk p l e R s m args below meth c D r G H1 locs ls C0 hG hL hR1 (hS.new z1 o1)
  rw [← hr1]
  exact K

theorem z_newa_long {v : Int} (n N : Nat) (dd : decode M.2.1 pc = .ok (.newarray .long, 2)) (hn : pc + 2 = n) (hN : v = (N : Int)) (hM : N ≤ 100000) (hw : Cond.arrayClass (newarray.typeOf .long) ∈ zW) (hr : x + 1 ≤ A ∧ y + N ≤ B) (kk : Z d M (A, B, x + 1, y + N) n L (vR h.2 :: st) (znew h (zJ N (fun _ => 0))) Q) : Z d M (A, B, x, y) pc L (vI v :: st) h Q := by
  subst hn
  subst hN
  intro p l e R s m args below meth c D r G H locs ls C0 hG hL hR hS
  have hts := C0.2.2.2.2.1
  obtain ⟨-, -, -, -, -, -, -, -, -, hcA, hcB⟩ := id C0
  refine va_newaK (atype := .long) (N := N) C0.1 C0.2.1 (hts _ hw) rfl dd rfl (by intro q; have := (z_lt (x := (N : Int)) (y := 0) (by omega) (by omega)).mp q; omega) (by rw [zx_cl (by omega)]; omega) (by show N * _ ≤ 536870912; simp only [newarray.typeOf, componentBytes]; omega) (Nat.le_trans hr.1 hcA) (Nat.le_trans hr.2 hcB) rfl fun H1 cA e1 z1 o1 hAr hNm => ?_
  obtain ⟨hR1, hr1⟩ := hR.push (c := zJ N (fun _ => 0)) ⟨cA, hAr, hNm, e1⟩ z1 o1
  have K := kk p l e R s m args below meth c D r G H1 locs ls C0 hG hL hR1 (hS.new z1 o1)
  rw [← hr1]
  exact K

theorem z_newa_boolean {v : Int} (n N : Nat) (dd : decode M.2.1 pc = .ok (.newarray .boolean, 2)) (hn : pc + 2 = n) (hN : v = (N : Int)) (hM : N ≤ 100000) (hw : Cond.arrayClass (newarray.typeOf .boolean) ∈ zW) (hr : x + 1 ≤ A ∧ y + N ≤ B) (kk : Z d M (A, B, x + 1, y + N) n L (vR h.2 :: st) (znew h (zB N (fun _ => 0))) Q) : Z d M (A, B, x, y) pc L (vI v :: st) h Q := by
  subst hn
  subst hN
  intro p l e R s m args below meth c D r G H locs ls C0 hG hL hR hS
  have hts := C0.2.2.2.2.1
  obtain ⟨-, -, -, -, -, -, -, -, -, hcA, hcB⟩ := id C0
  refine va_newaK (atype := .boolean) (N := N) C0.1 C0.2.1 (hts _ hw) rfl dd rfl (by intro q; have := (z_lt (x := (N : Int)) (y := 0) (by omega) (by omega)).mp q; omega) (by rw [zx_cl (by omega)]; omega) (by show N * _ ≤ 536870912; simp only [newarray.typeOf, componentBytes]; omega) (Nat.le_trans hr.1 hcA) (Nat.le_trans hr.2 hcB) rfl fun H1 cA e1 z1 o1 hAr hNm => ?_
  obtain ⟨hR1, hr1⟩ := hR.push (c := zB N (fun _ => 0)) ⟨cA, hAr, hNm, e1⟩ z1 o1
  have K := kk p l e R s m args below meth c D r G H1 locs ls C0 hG hL hR1 (hS.new z1 o1)
  rw [← hr1]
  exact K

theorem z_anew {idx : Nat} {v : Int} (n N : Nat) (dd : decode M.2.1 pc = .ok (.anewarray idx, 3)) (hn : pc + 3 = n) (hN : v = (N : Int)) (hM : N ≤ 100000) (hw : Cond.classLink M.1.cls idx ztel ∈ zW) (hr : x + 1 ≤ A ∧ y + N ≤ B) (kk : Z d M (A, B, x + 1, y + N) n L (vR h.2 :: st) (znew h (zT N (fun _ => none))) Q) : Z d M (A, B, x, y) pc L (vI v :: st) h Q := by
  subst hn
  subst hN
  intro p l e R s m args below meth c D r G H locs ls C0 hG hL hR hS
  have hts := C0.2.2.2.2.1
  obtain ⟨-, -, -, -, -, -, -, -, -, hcA, hcB⟩ := id C0
  have hov : va_AO ztel s := C0.2.2.2.2.2.1.2.2.2
  have hcl : (Int32.ofInt (N : Int)).toNatClampNeg = N := by rw [zx_cl (by omega)]; omega
  refine W.anew C0.1 C0.2.1 C0.2.2.2.1 (hts _ hw) (va_AO.use hov) rfl dd rfl (by intro q; have := (z_lt (x := (N : Int)) (y := 0) (by omega) (by omega)).mp q; omega) (by rw [hcl]; omega) (Nat.le_trans hr.1 hcA) (by rw [hcl]; exact Nat.le_trans hr.2 hcB) fun cA kA comp f1 f2 f3 f4 => ?_
  rw [hcl]
  generalize hH1 : H.push ({ cls := cA, slots := Array.replicate N .null, vm := .none } : Cell) = H1
  have z1 : H1.size = H.size + 1 := by rw [← hH1, Array.size_push]
  have e1 : H1[H.size]? = some (arrV cA N (fun _ => .null)) := by rw [← hH1, Array.getElem?_push_size, ← arrV_new]
  have o1 : ∀ q : Nat, q < H.size → H1[q]? = H[q]? := fun q hq => by rw [← hH1, Array.getElem?_push, if_neg (Nat.ne_of_lt hq)]
  have hAr : ArrOfT s cA (.object ztel) := fun N z => ⟨(fun k h => by cases h), kA, f2, comp, f3⟩
  obtain ⟨hR1, hr1⟩ := hR.push (c := zT N (fun _ => none)) ⟨cA, hAr, ⟨kA, comp, f2, f3, f4, f1⟩, e1⟩ z1 o1
  have K := kk p l e R s m args below meth c D r G H1 locs ls C0 hG hL hR1 (hS.new z1 o1)
  rw [← hr1]
  exact K
end ZNEW
section ZCALL
variable {d : Nat} {M : zM} {mr : zK} {pc : Nat} {L : List (Option zV)} {st : List zV} {h : zH} {Q : Option zV → zH → Prop}
theorem z_objInit {a idx : Nat} (n : Nat) (dd : decode M.2.1 pc = .ok (.invokespecial idx, 3)) (hn : pc + 3 = n) (hw1 : Cond.methodLink M.1.cls idx Lib.objectInit ∈ zW) (hw2 : Cond.instanceMethod Lib.objectInit ∈ zW) (hw3 : Cond.code Lib.objectInit ⟨#[0xb1]⟩ 1 none ∈ zW) (hst : zcat st ≤ 8) (kk : Z (d + 1) M mr n L st h Q) : Z (d + 1) M mr pc L (vR a :: st) h Q := by
  subst hn
  intro p l e R s m args below meth c D r G H locs ls C0 hG hL hR hS
  have K := kk p l e R s m args below meth c D r G H locs ls C0 hG hL hR hS
  have hts := C0.2.2.2.2.1
  obtain ⟨-, -, hml, -, -, -, -, hfr, hlo, -, -⟩ := id C0
  refine W.objInit C0.1 C0.2.1 C0.2.2.2.1 (hts _ hw1) (hts _ hw2) (hts _ hw3) rfl (by rw [hml]; exact hL.1) rfl dd (by omega) ?_ K
  show 2 * 0 + _ + 12 ≤ _
  rw [zcat_eq]; omega
theorem z_gets {idx : Nat} (n : Nat) (dd : decode M.2.1 pc = .ok (.getstatic idx, 3)) (hn : pc + 3 = n) (hw : Cond.fieldLink M.1.cls idx "LateLetters" "FACTORIALS" "[J" ∈ zW) (kk : Z d M mr n L (vR 1 :: st) h Q) : Z d M mr pc L st h Q := by
  subst hn
  intro p l e R s m args below meth c D r G H locs ls C0 hG hL hR hS
  have K := kk p l e R s m args below meth c D r G H locs ls C0 hG hL hR hS
  exact va_gets C0.1 C0.2.1 C0.2.2.2.2.2.1.2.1 hS C0.2.2.2.1 (C0.2.2.2.2.1 _ hw) (fun _ q => q) dd K
/-- behind a call -/
theorem zrun_go {p : Program} {l : Launch} {e : Env} {R : Room} {s : State} {m : MethodId} {args : Array Value} {below : List Frame} {meth : Method} {c : Code} {D : va_G} {r : Nat → Nat} {G : State → Prop} {H : Heap} {locs : List Loc} {ls : Array Slot} {mc ms : Nat} {a : Array Value} {st0 : List Value}
    (C0 : zCtx d M mr p R s m args meth c D r) (hG : zEnd M mr Q p l e R s m args below meth c D r G) (hL : zL r L ls M.2.2.1) (hS : va_S (zA r) s.heap H locs)
    (hr : va_Run p l e R s m args below meth c H locs mr.2.2.1 mr.2.2.2 mc ms (F0 m pc ls st0) (st.map (zv r)) (zQc D r (fun v h' => Z d M (mr.1, mr.2.1, mr.2.2.1 + mc, mr.2.2.2 + ms) (pc + 3) L (zpush v st) h' Q) a) (zA r)) :
    W p l e R s m args below meth c H locs mr.2.2.1 mr.2.2.2 G (F0 m pc ls st0) := by
  intro T hT X
  obtain ⟨v, st₀, t, T', Lc, h0, X', hLc, e1, e2, ⟨⟨v', h', hv, hq, hR'⟩, hz, hk⟩, stp⟩ := hr T hT X
  have hv' : v = v'.map (zv r) := by injection hv
  have hal : t.vm.Alike s.vm := by rw [← e2]; exact X'.warmed.alike.symm
  have hR2 : zRel s D r h' T'.heap := by rw [e1]; exact hR'.moved hal
  rw [h0] at hz hk
  have hS2 : va_S (zA r) s.heap T'.heap (locs ++ Lc) := ⟨Nat.le_trans hS.1 (by rw [e1]; exact hz), fun q g1 g2 => by rw [e1, hk q (Nat.lt_of_lt_of_le g1 hS.1) g2]; exact hS.2.1 q g1 g2, fun q hq => by
      rcases List.mem_append.mp hq with g | g
      · exact hS.2.2 q g
      · exact hLc q g⟩
  obtain ⟨t2, a1, b1⟩ := hq p l e R s m args below meth c D r G T'.heap (locs ++ Lc) ls C0 hG hL hR2 hS2 T' rfl X'
  refine ⟨t2, stp t2 ?_, b1⟩
  subst hv'
  cases v' <;> exact a1
/-- what a caller must know of a callee: its class's number, how many arguments; n: of an instance -/
def zcee (M2 : zM) (n : Nat) : Prop := Cond.initialized M2.1.cls ∈ zW ∧ Cond.code M2.1 M2.2.1 M2.2.2.1 M2.2.2.2 ∈ zW ∧ (M2.1.cls ≠ "java/lang/invoke/MethodHandle" ∧ M2.1.cls ≠ "java/lang/invoke/VarHandle" ∧ (parseMethodDescriptor M2.1.desc).map (fun d => d.parameters.length) = some n) ∧ M2.2.2.1 ≤ 40
def zceeV (M2 : zM) (ci n : Nat) : Prop := zcee M2 n ∧ Cond.instanceMethod M2.1 ∈ zW ∧ Cond.selects M2.1.cls M2.1 M2.1 ∈ zW ∧ ∃ (T : u_T) (N : Nat), vwCl[ci]? = some (M2.1.cls, T, N)
def zceeS (M2 : zM) (n : Nat) : Prop := zcee M2 n ∧ Cond.static M2.1 ∈ zW
def zceeI (M2 : zM) (n : Nat) : Prop := zcee M2 n ∧ Cond.instanceMethod M2.1 ∈ zW ∧ M2.1.name = "<init>" ∧ M2.2.2.2 = none
theorem zcallB {R : Room} {s : State} {m : MethodId} {args : Array Value} {meth : Method} {c : Code} {p : Program} {D : va_G} {r : Nat → Nat} {M2 : zM} {idx n mc ms : Nat} (C0 : zCtx (d + 1) M mr p R s m args meth c D r) (hk : zcee M2 n) (hw : Cond.methodLink M.1.cls idx M2.1 ∈ zW) :
    CallB R s args M.1.cls idx M2.1 M2.2.1 M2.2.2.1 M2.2.2.2 (Cond.code M2.1 M2.2.1 M2.2.2.1 M2.2.2.2 :: zW) (zroom d mc ms) mc ms n := by
  obtain ⟨k1, k2, k3, k4⟩ := hk
  have hts := C0.2.2.2.2.1
  obtain ⟨-, -, -, -, -, -, -, hfr, hlo, -, -⟩ := id C0
  refine callB_of n hts (fun w h => ?_) rfl rfl rfl (hts _ k1) (hts _ hw) k3 ⟨hfr, ?_⟩
  · rcases List.mem_cons.mp h with rfl | h
    · exact zW_good _ k2
    · exact zW_good _ h
  · show 8 + (M2.2.2.1 + 11) + 64 * d ≤ _
    omega
theorem zcallP {s U : State} {D : va_G} {r : Nat → Nat} {H : Heap} {locs : List Loc} {av : List zV} (hE : zEnv D r s s.heap) (hR : zRel s D r h H) (hS : va_S (zA r) s.heap H locs) (hU : U.heap = H) (hW : s.WarmedH U.vm) : zPc D r av h (av.map (zv r)).toArray U :=
  ⟨rfl, hE.to hW (fun a h1 h2 => by rw [hU]; exact hS.2.1 a h1 h2), by rw [hU]; exact hR.moved hW.alike⟩
theorem z_callV {M2 : zM} {idx ci mc ms a : Nat} {fs : List zV} (As : List zV) (n : Nat) (dd : decode M.2.1 pc = .ok (.invokevirtual idx, 3)) (hn : pc + 3 = n) (hk : zceeV M2 ci As.length) (hw : Cond.methodLink M.1.cls idx M2.1 ∈ zW) (hst : zcat st ≤ 8) (hm : mr.2.2.1 + mc ≤ mr.1 ∧ mr.2.2.2 + ms ≤ mr.2.1) (ha : h.1 a = some (zO ci fs))
    (kk : zC d M2 mc ms (vR a :: As) h (fun v h' => Z (d + 1) M (mr.1, mr.2.1, mr.2.2.1 + mc, mr.2.2.2 + ms) n L (zpush v st) h' Q)) : Z (d + 1) M mr pc L (As.reverse ++ vR a :: st) h Q := by
  subst hn
  intro p l e R s m args below meth c D r G H locs ls C0 hG hL hR hS
  have hts := C0.2.2.2.2.1
  obtain ⟨k0, k1, k2, T, N, k3⟩ := hk
  obtain ⟨-, -, hml, -, -, hE, -, -, -, hcA, hcB⟩ := id C0
  have hrecv : ∃ cellB : Cell, H[r a]? = some cellB ∧ cellB.vm.isStatics = false ∧ s.vm.findClass M2.1.cls = some cellB.cls := by
    obtain ⟨q', g0, cell, g1, g2, g3, -⟩ := hR.labO ha
    exact ⟨cell, g1, by rw [g3]; rfl, by rw [g2]; exact (hE.1.1 ci _ k3).2.1⟩
  refine zrun_go (st := st) (mc := mc) (ms := ms) (a := ((vR a :: As).map (zv r)).toArray) C0 hG hL hS ?_
  exact va_runV (As := As.map (zv r)) ⟨C0.1, C0.2.1, rfl, C0.2.2.2.1, hts⟩ (kk l D r) ⟨zcallB C0 k0 hw, hts _ k1, hts _ k2⟩ ⟨zPc_blind D r _ h, hrecv, fun U hU hW => zcallP (av := vR a :: As) hE hR hS hU hW⟩ rfl (List.length_map _) (by rw [hml]; exact hL.1) (by show List.map (zv r) (As.reverse ++ vR a :: st) = _; rw [List.map_append, List.map_reverse]; rfl) (by show 2 * 0 + _ ≤ 8; rw [zcat_eq]; omega) dd ⟨Nat.le_trans hm.1 hcA, Nat.le_trans hm.2 hcB⟩
theorem z_callS {M2 : zM} {idx mc ms : Nat} (As : List zV) (n : Nat) (dd : decode M.2.1 pc = .ok (.invokestatic idx, 3)) (hn : pc + 3 = n) (hk : zceeS M2 As.length) (hw : Cond.methodLink M.1.cls idx M2.1 ∈ zW) (hst : zcat st ≤ 8) (hm : mr.2.2.1 + mc ≤ mr.1 ∧ mr.2.2.2 + ms ≤ mr.2.1)
    (kk : zC d M2 mc ms As h (fun v h' => Z (d + 1) M (mr.1, mr.2.1, mr.2.2.1 + mc, mr.2.2.2 + ms) n L (zpush v st) h' Q)) : Z (d + 1) M mr pc L (As.reverse ++ st) h Q := by
  subst hn
  intro p l e R s m args below meth c D r G H locs ls C0 hG hL hR hS
  have hts := C0.2.2.2.2.1
  obtain ⟨k0, k1⟩ := hk
  obtain ⟨-, -, hml, -, -, hE, -, -, -, hcA, hcB⟩ := id C0
  refine zrun_go (st := st) (mc := mc) (ms := ms) (a := (As.map (zv r)).toArray) C0 hG hL hS ?_
  exact va_runS (As := As.map (zv r)) ⟨C0.1, C0.2.1, rfl, C0.2.2.2.1, hts⟩ (kk l D r) ⟨zcallB C0 k0 hw, hts _ k1⟩ ⟨zPc_blind D r _ h, fun U hU hW => zcallP (av := As) hE hR hS hU hW⟩ rfl (List.length_map _) (by rw [hml]; exact hL.1) (by show List.map (zv r) (As.reverse ++ st) = _; rw [List.map_append, List.map_reverse]) (by show 2 * 0 + _ ≤ 8; rw [zcat_eq]; omega) dd ⟨Nat.le_trans hm.1 hcA, Nat.le_trans hm.2 hcB⟩
theorem z_callI {M2 : zM} {idx mc ms a : Nat} (As : List zV) (n : Nat) (dd : decode M.2.1 pc = .ok (.invokespecial idx, 3)) (hn : pc + 3 = n) (hk : zceeI M2 As.length) (hw : Cond.methodLink M.1.cls idx M2.1 ∈ zW) (hst : zcat st ≤ 8) (hm : mr.2.2.1 + mc ≤ mr.1 ∧ mr.2.2.2 + ms ≤ mr.2.1)
    (kk : zC d M2 mc ms (vR a :: As) h (fun v h' => Z (d + 1) M (mr.1, mr.2.1, mr.2.2.1 + mc, mr.2.2.2 + ms) n L (zpush v st) h' Q)) : Z (d + 1) M mr pc L (As.reverse ++ vR a :: st) h Q := by
  subst hn
  intro p l e R s m args below meth c D r G H locs ls C0 hG hL hR hS
  have hts := C0.2.2.2.2.1
  obtain ⟨k0, k1, k2, k3⟩ := hk
  obtain ⟨-, -, hml, -, -, hE, -, -, -, hcA, hcB⟩ := id C0
  have hB := zcallB (mc := mc) (ms := ms) C0 k0 hw
  rw [k3] at hB
  have hK := kk l D r
  rw [k3] at hK
  refine zrun_go (st := st) (mc := mc) (ms := ms) (a := ((vR a :: As).map (zv r)).toArray) C0 hG hL hS ?_
  exact va_runI (As := As.map (zv r)) ⟨C0.1, C0.2.1, rfl, C0.2.2.2.1, hts⟩ hK ⟨hB, k2, hts _ k1⟩ ⟨zPc_blind D r _ h, fun U hU hW => zcallP (av := vR a :: As) hE hR hS hU hW⟩ rfl (List.length_map _) (by rw [hml]; exact hL.1) (by show List.map (zv r) (As.reverse ++ vR a :: st) = _; rw [List.map_append, List.map_reverse]; rfl) (by show 2 * 0 + _ ≤ 8; rw [zcat_eq]; omega) dd ⟨Nat.le_trans hm.1 hcA, Nat.le_trans hm.2 hcB⟩
theorem zcallN {R : Room} {s : State} {m : MethodId} {args : Array Value} {meth : Method} {c : Code} {p : Program} {D : va_G} {r : Nat → Nat} {M2 : zM} {idx n mc ms : Nat} {host : String} (C0 : zCtx (d + 1) M mr p R s m args meth c D r) (hk : zcee M2 n) (hw : Cond.methodLinkNest M.1.cls idx M2.1 host ∈ lw_tbl) :
    va_CN R s args M.1.cls idx M2.1 host M2.2.1 M2.2.2.1 M2.2.2.2 (Cond.code M2.1 M2.2.1 M2.2.2.1 M2.2.2.2 :: zW) (zroom d mc ms) mc ms n := by
  obtain ⟨k1, k2, k3, k4⟩ := hk
  have hts := C0.2.2.2.2.1
  obtain ⟨-, -, -, -, -, hE, -, hfr, hlo, -, -⟩ := id C0
  refine va_cnB n hts (fun w h => ?_) rfl rfl rfl (hE.2.2.1 _ hw _ _ _ _ rfl) (hts _ k1) k3 ⟨hfr, ?_⟩
  · rcases List.mem_cons.mp h with rfl | h
    · exact zW_good _ k2
    · exact zW_good _ h
  · show 8 + (M2.2.2.1 + 11) + 64 * d ≤ _
    omega
theorem z_callSN {M2 : zM} {idx mc ms : Nat} {host : String} (As : List zV) (n : Nat) (dd : decode M.2.1 pc = .ok (.invokestatic idx, 3)) (hn : pc + 3 = n) (hk : zceeS M2 As.length) (hw : Cond.methodLinkNest M.1.cls idx M2.1 host ∈ lw_tbl) (hst : zcat st ≤ 8) (hm : mr.2.2.1 + mc ≤ mr.1 ∧ mr.2.2.2 + ms ≤ mr.2.1)
    (kk : zC d M2 mc ms As h (fun v h' => Z (d + 1) M (mr.1, mr.2.1, mr.2.2.1 + mc, mr.2.2.2 + ms) n L (zpush v st) h' Q)) : Z (d + 1) M mr pc L (As.reverse ++ st) h Q := by
  subst hn
  intro p l e R s m args below meth c D r G H locs ls C0 hG hL hR hS
  have hts := C0.2.2.2.2.1
  obtain ⟨k0, k1⟩ := hk
  obtain ⟨-, -, hml, -, -, hE, -, -, -, hcA, hcB⟩ := id C0
  refine zrun_go (st := st) (mc := mc) (ms := ms) (a := (As.map (zv r)).toArray) C0 hG hL hS ?_
  exact va_runSN (As := As.map (zv r)) ⟨C0.1, C0.2.1, rfl, C0.2.2.2.1, hts⟩ (kk l D r) ⟨zcallN C0 k0 hw, hts _ k1, trivial⟩ ⟨zPc_blind D r _ h, fun U hU hW => zcallP (av := As) hE hR hS hU hW⟩ rfl (List.length_map _) (by rw [hml]; exact hL.1) (by show List.map (zv r) (As.reverse ++ st) = _; rw [List.map_append, List.map_reverse]) (by show 2 * 0 + _ ≤ 8; rw [zcat_eq]; omega) dd ⟨Nat.le_trans hm.1 hcA, Nat.le_trans hm.2 hcB⟩
theorem z_callIN {M2 : zM} {idx mc ms a : Nat} {host : String} (As : List zV) (n : Nat) (dd : decode M.2.1 pc = .ok (.invokespecial idx, 3)) (hn : pc + 3 = n) (hk : zceeI M2 As.length) (hw : Cond.methodLinkNest M.1.cls idx M2.1 host ∈ lw_tbl) (hst : zcat st ≤ 8) (hm : mr.2.2.1 + mc ≤ mr.1 ∧ mr.2.2.2 + ms ≤ mr.2.1)
    (kk : zC d M2 mc ms (vR a :: As) h (fun v h' => Z (d + 1) M (mr.1, mr.2.1, mr.2.2.1 + mc, mr.2.2.2 + ms) n L (zpush v st) h' Q)) : Z (d + 1) M mr pc L (As.reverse ++ vR a :: st) h Q := by
  subst hn
  intro p l e R s m args below meth c D r G H locs ls C0 hG hL hR hS
  have hts := C0.2.2.2.2.1
  obtain ⟨k0, k1, k2, k3⟩ := hk
  obtain ⟨-, -, hml, -, -, hE, -, -, -, hcA, hcB⟩ := id C0
  have hB := zcallN (mc := mc) (ms := ms) C0 k0 hw
  rw [k3] at hB
  have hK := kk l D r
  rw [k3] at hK
  refine zrun_go (st := st) (mc := mc) (ms := ms) (a := ((vR a :: As).map (zv r)).toArray) C0 hG hL hS ?_
  exact va_runIN (As := As.map (zv r)) ⟨C0.1, C0.2.1, rfl, C0.2.2.2.1, hts⟩ hK ⟨hB, k2, hts _ k1⟩ ⟨zPc_blind D r _ h, fun U hU hW => zcallP (av := vR a :: As) hE hR hS hU hW⟩ rfl (List.length_map _) (by rw [hml]; exact hL.1) (by show List.map (zv r) (As.reverse ++ vR a :: st) = _; rw [List.map_append, List.map_reverse]; rfl) (by show 2 * 0 + _ ≤ 8; rw [zcat_eq]; omega) dd ⟨Nat.le_trans hm.1 hcA, Nat.le_trans hm.2 hcB⟩

theorem z_callV0 {M2 : zM} {idx mc ms ci a : Nat} {fs : List zV} (n : Nat) (dd : decode M.2.1 pc = .ok (.invokevirtual idx, 3)) (hn : pc + 3 = n) (hk : zceeV M2 ci 0) (hw : Cond.methodLink M.1.cls idx M2.1 ∈ zW) (hst : zcat st ≤ 8) (hm : mr.2.2.1 + mc ≤ mr.1 ∧ mr.2.2.2 + ms ≤ mr.2.1) (ha : h.1 a = some (zO ci fs))
    (kk : zC d M2 mc ms (vR a :: []) h (fun v h' => Z (d + 1) M (mr.1, mr.2.1, mr.2.2.1 + mc, mr.2.2.2 + ms) n L (zpush v st) h' Q)) : Z (d + 1) M mr pc L (vR a :: st) h Q := z_callV [] n dd hn hk hw hst hm ha kk

theorem z_callV1 {M2 : zM} {idx mc ms ci a : Nat} {fs : List zV} {x0 : zV} (n : Nat) (dd : decode M.2.1 pc = .ok (.invokevirtual idx, 3)) (hn : pc + 3 = n) (hk : zceeV M2 ci 1) (hw : Cond.methodLink M.1.cls idx M2.1 ∈ zW) (hst : zcat st ≤ 8) (hm : mr.2.2.1 + mc ≤ mr.1 ∧ mr.2.2.2 + ms ≤ mr.2.1) (ha : h.1 a = some (zO ci fs))
    (kk : zC d M2 mc ms (vR a :: [x0]) h (fun v h' => Z (d + 1) M (mr.1, mr.2.1, mr.2.2.1 + mc, mr.2.2.2 + ms) n L (zpush v st) h' Q)) : Z (d + 1) M mr pc L (x0 :: vR a :: st) h Q := z_callV [x0] n dd hn hk hw hst hm ha kk

theorem z_callV2 {M2 : zM} {idx mc ms ci a : Nat} {fs : List zV} {x0 x1 : zV} (n : Nat) (dd : decode M.2.1 pc = .ok (.invokevirtual idx, 3)) (hn : pc + 3 = n) (hk : zceeV M2 ci 2) (hw : Cond.methodLink M.1.cls idx M2.1 ∈ zW) (hst : zcat st ≤ 8) (hm : mr.2.2.1 + mc ≤ mr.1 ∧ mr.2.2.2 + ms ≤ mr.2.1) (ha : h.1 a = some (zO ci fs))
    (kk : zC d M2 mc ms (vR a :: [x0, x1]) h (fun v h' => Z (d + 1) M (mr.1, mr.2.1, mr.2.2.1 + mc, mr.2.2.2 + ms) n L (zpush v st) h' Q)) : Z (d + 1) M mr pc L (x1 :: x0 :: vR a :: st) h Q := z_callV [x0, x1] n dd hn hk hw hst hm ha kk

theorem z_callV3 {M2 : zM} {idx mc ms ci a : Nat} {fs : List zV} {x0 x1 x2 : zV} (n : Nat) (dd : decode M.2.1 pc = .ok (.invokevirtual idx, 3)) (hn : pc + 3 = n) (hk : zceeV M2 ci 3) (hw : Cond.methodLink M.1.cls idx M2.1 ∈ zW) (hst : zcat st ≤ 8) (hm : mr.2.2.1 + mc ≤ mr.1 ∧ mr.2.2.2 + ms ≤ mr.2.1) (ha : h.1 a = some (zO ci fs))
    (kk : zC d M2 mc ms (vR a :: [x0, x1, x2]) h (fun v h' => Z (d + 1) M (mr.1, mr.2.1, mr.2.2.1 + mc, mr.2.2.2 + ms) n L (zpush v st) h' Q)) : Z (d + 1) M mr pc L (x2 :: x1 :: x0 :: vR a :: st) h Q := z_callV [x0, x1, x2] n dd hn hk hw hst hm ha kk

theorem z_callV4 {M2 : zM} {idx mc ms ci a : Nat} {fs : List zV} {x0 x1 x2 x3 : zV} (n : Nat) (dd : decode M.2.1 pc = .ok (.invokevirtual idx, 3)) (hn : pc + 3 = n) (hk : zceeV M2 ci 4) (hw : Cond.methodLink M.1.cls idx M2.1 ∈ zW) (hst : zcat st ≤ 8) (hm : mr.2.2.1 + mc ≤ mr.1 ∧ mr.2.2.2 + ms ≤ mr.2.1) (ha : h.1 a = some (zO ci fs))
    (kk : zC d M2 mc ms (vR a :: [x0, x1, x2, x3]) h (fun v h' => Z (d + 1) M (mr.1, mr.2.1, mr.2.2.1 + mc, mr.2.2.2 + ms) n L (zpush v st) h' Q)) : Z (d + 1) M mr pc L (x3 :: x2 :: x1 :: x0 :: vR a :: st) h Q := z_callV [x0, x1, x2, x3] n dd hn hk hw hst hm ha kk

theorem z_callS1 {M2 : zM} {idx mc ms : Nat} {x0 : zV} (n : Nat) (dd : decode M.2.1 pc = .ok (.invokestatic idx, 3)) (hn : pc + 3 = n) (hk : zceeS M2 1) (hw : Cond.methodLink M.1.cls idx M2.1 ∈ zW) (hst : zcat st ≤ 8) (hm : mr.2.2.1 + mc ≤ mr.1 ∧ mr.2.2.2 + ms ≤ mr.2.1)
    (kk : zC d M2 mc ms ([x0]) h (fun v h' => Z (d + 1) M (mr.1, mr.2.1, mr.2.2.1 + mc, mr.2.2.2 + ms) n L (zpush v st) h' Q)) : Z (d + 1) M mr pc L (x0 :: st) h Q := z_callS [x0] n dd hn hk hw hst hm kk

theorem z_callS2 {M2 : zM} {idx mc ms : Nat} {x0 x1 : zV} (n : Nat) (dd : decode M.2.1 pc = .ok (.invokestatic idx, 3)) (hn : pc + 3 = n) (hk : zceeS M2 2) (hw : Cond.methodLink M.1.cls idx M2.1 ∈ zW) (hst : zcat st ≤ 8) (hm : mr.2.2.1 + mc ≤ mr.1 ∧ mr.2.2.2 + ms ≤ mr.2.1)
    (kk : zC d M2 mc ms ([x0, x1]) h (fun v h' => Z (d + 1) M (mr.1, mr.2.1, mr.2.2.1 + mc, mr.2.2.2 + ms) n L (zpush v st) h' Q)) : Z (d + 1) M mr pc L (x1 :: x0 :: st) h Q := z_callS [x0, x1] n dd hn hk hw hst hm kk

theorem z_callS3 {M2 : zM} {idx mc ms : Nat} {x0 x1 x2 : zV} (n : Nat) (dd : decode M.2.1 pc = .ok (.invokestatic idx, 3)) (hn : pc + 3 = n) (hk : zceeS M2 3) (hw : Cond.methodLink M.1.cls idx M2.1 ∈ zW) (hst : zcat st ≤ 8) (hm : mr.2.2.1 + mc ≤ mr.1 ∧ mr.2.2.2 + ms ≤ mr.2.1)
    (kk : zC d M2 mc ms ([x0, x1, x2]) h (fun v h' => Z (d + 1) M (mr.1, mr.2.1, mr.2.2.1 + mc, mr.2.2.2 + ms) n L (zpush v st) h' Q)) : Z (d + 1) M mr pc L (x2 :: x1 :: x0 :: st) h Q := z_callS [x0, x1, x2] n dd hn hk hw hst hm kk

theorem z_callS4 {M2 : zM} {idx mc ms : Nat} {x0 x1 x2 x3 : zV} (n : Nat) (dd : decode M.2.1 pc = .ok (.invokestatic idx, 3)) (hn : pc + 3 = n) (hk : zceeS M2 4) (hw : Cond.methodLink M.1.cls idx M2.1 ∈ zW) (hst : zcat st ≤ 8) (hm : mr.2.2.1 + mc ≤ mr.1 ∧ mr.2.2.2 + ms ≤ mr.2.1)
    (kk : zC d M2 mc ms ([x0, x1, x2, x3]) h (fun v h' => Z (d + 1) M (mr.1, mr.2.1, mr.2.2.1 + mc, mr.2.2.2 + ms) n L (zpush v st) h' Q)) : Z (d + 1) M mr pc L (x3 :: x2 :: x1 :: x0 :: st) h Q := z_callS [x0, x1, x2, x3] n dd hn hk hw hst hm kk

theorem z_callI0 {M2 : zM} {idx mc ms a : Nat} (n : Nat) (dd : decode M.2.1 pc = .ok (.invokespecial idx, 3)) (hn : pc + 3 = n) (hk : zceeI M2 0) (hw : Cond.methodLink M.1.cls idx M2.1 ∈ zW) (hst : zcat st ≤ 8) (hm : mr.2.2.1 + mc ≤ mr.1 ∧ mr.2.2.2 + ms ≤ mr.2.1)
    (kk : zC d M2 mc ms (vR a :: []) h (fun v h' => Z (d + 1) M (mr.1, mr.2.1, mr.2.2.1 + mc, mr.2.2.2 + ms) n L (zpush v st) h' Q)) : Z (d + 1) M mr pc L (vR a :: st) h Q := z_callI [] n dd hn hk hw hst hm kk

theorem z_callI1 {M2 : zM} {idx mc ms a : Nat} {x0 : zV} (n : Nat) (dd : decode M.2.1 pc = .ok (.invokespecial idx, 3)) (hn : pc + 3 = n) (hk : zceeI M2 1) (hw : Cond.methodLink M.1.cls idx M2.1 ∈ zW) (hst : zcat st ≤ 8) (hm : mr.2.2.1 + mc ≤ mr.1 ∧ mr.2.2.2 + ms ≤ mr.2.1)
    (kk : zC d M2 mc ms (vR a :: [x0]) h (fun v h' => Z (d + 1) M (mr.1, mr.2.1, mr.2.2.1 + mc, mr.2.2.2 + ms) n L (zpush v st) h' Q)) : Z (d + 1) M mr pc L (x0 :: vR a :: st) h Q := z_callI [x0] n dd hn hk hw hst hm kk

theorem z_callSN1 {M2 : zM} {idx mc ms : Nat} {host : String} {x0 : zV} (n : Nat) (dd : decode M.2.1 pc = .ok (.invokestatic idx, 3)) (hn : pc + 3 = n) (hk : zceeS M2 1) (hw : Cond.methodLinkNest M.1.cls idx M2.1 host ∈ lw_tbl) (hst : zcat st ≤ 8) (hm : mr.2.2.1 + mc ≤ mr.1 ∧ mr.2.2.2 + ms ≤ mr.2.1)
    (kk : zC d M2 mc ms ([x0]) h (fun v h' => Z (d + 1) M (mr.1, mr.2.1, mr.2.2.1 + mc, mr.2.2.2 + ms) n L (zpush v st) h' Q)) : Z (d + 1) M mr pc L (x0 :: st) h Q := z_callSN [x0] n dd hn hk hw hst hm kk

theorem z_callSN2 {M2 : zM} {idx mc ms : Nat} {host : String} {x0 x1 : zV} (n : Nat) (dd : decode M.2.1 pc = .ok (.invokestatic idx, 3)) (hn : pc + 3 = n) (hk : zceeS M2 2) (hw : Cond.methodLinkNest M.1.cls idx M2.1 host ∈ lw_tbl) (hst : zcat st ≤ 8) (hm : mr.2.2.1 + mc ≤ mr.1 ∧ mr.2.2.2 + ms ≤ mr.2.1)
    (kk : zC d M2 mc ms ([x0, x1]) h (fun v h' => Z (d + 1) M (mr.1, mr.2.1, mr.2.2.1 + mc, mr.2.2.2 + ms) n L (zpush v st) h' Q)) : Z (d + 1) M mr pc L (x1 :: x0 :: st) h Q := z_callSN [x0, x1] n dd hn hk hw hst hm kk

theorem z_callSN3 {M2 : zM} {idx mc ms : Nat} {host : String} {x0 x1 x2 : zV} (n : Nat) (dd : decode M.2.1 pc = .ok (.invokestatic idx, 3)) (hn : pc + 3 = n) (hk : zceeS M2 3) (hw : Cond.methodLinkNest M.1.cls idx M2.1 host ∈ lw_tbl) (hst : zcat st ≤ 8) (hm : mr.2.2.1 + mc ≤ mr.1 ∧ mr.2.2.2 + ms ≤ mr.2.1)
    (kk : zC d M2 mc ms ([x0, x1, x2]) h (fun v h' => Z (d + 1) M (mr.1, mr.2.1, mr.2.2.1 + mc, mr.2.2.2 + ms) n L (zpush v st) h' Q)) : Z (d + 1) M mr pc L (x2 :: x1 :: x0 :: st) h Q := z_callSN [x0, x1, x2] n dd hn hk hw hst hm kk

theorem z_callIN0 {M2 : zM} {idx mc ms a : Nat} {host : String} (n : Nat) (dd : decode M.2.1 pc = .ok (.invokespecial idx, 3)) (hn : pc + 3 = n) (hk : zceeI M2 0) (hw : Cond.methodLinkNest M.1.cls idx M2.1 host ∈ lw_tbl) (hst : zcat st ≤ 8) (hm : mr.2.2.1 + mc ≤ mr.1 ∧ mr.2.2.2 + ms ≤ mr.2.1)
    (kk : zC d M2 mc ms (vR a :: []) h (fun v h' => Z (d + 1) M (mr.1, mr.2.1, mr.2.2.1 + mc, mr.2.2.2 + ms) n L (zpush v st) h' Q)) : Z (d + 1) M mr pc L (vR a :: st) h Q := z_callIN [] n dd hn hk hw hst hm kk

theorem z_callIN1 {M2 : zM} {idx mc ms a : Nat} {host : String} {x0 : zV} (n : Nat) (dd : decode M.2.1 pc = .ok (.invokespecial idx, 3)) (hn : pc + 3 = n) (hk : zceeI M2 1) (hw : Cond.methodLinkNest M.1.cls idx M2.1 host ∈ lw_tbl) (hst : zcat st ≤ 8) (hm : mr.2.2.1 + mc ≤ mr.1 ∧ mr.2.2.2 + ms ≤ mr.2.1)
    (kk : zC d M2 mc ms (vR a :: [x0]) h (fun v h' => Z (d + 1) M (mr.1, mr.2.1, mr.2.2.1 + mc, mr.2.2.2 + ms) n L (zpush v st) h' Q)) : Z (d + 1) M mr pc L (x0 :: vR a :: st) h Q := z_callIN [x0] n dd hn hk hw hst hm kk

theorem z_max {idx : Nat} {x y : Int} (n : Nat) (dd : decode M.2.1 pc = .ok (.invokestatic idx, 3)) (hn : pc + 3 = n) (hw1 : Cond.methodLink M.1.cls idx Lib.Math.max.name ∈ zW) (hw2 : Cond.static Lib.Math.max.name ∈ zW) (hw3 : Cond.initialized "java/lang/Math" ∈ zW) (hw4 : Cond.code Lib.Math.max.name Lib.Math.max.code 2 (some .int) ∈ zW) (hst : zcat st ≤ 8) (hc : mr.2.2.1 ≤ mr.1 ∧ mr.2.2.2 ≤ mr.2.1) (hx : -2147483648 ≤ x ∧ x ≤ 2147483647) (hy : -2147483648 ≤ y ∧ y ≤ 2147483647)
    (kk : Z (d + 1) M mr n L (vI (max x y) :: st) h Q) : Z (d + 1) M mr pc L (vI y :: vI x :: st) h Q := by
  subst hn
  intro p l e R s m args below meth c D r G H locs ls C0 hG hL hR hS
  have K := kk p l e R s m args below meth c D r G H locs ls C0 hG hL hR hS
  have hts := C0.2.2.2.2.1
  obtain ⟨-, -, hml, -, -, -, -, hfr, hlo, hcA, hcB⟩ := id C0
  refine va_mmax C0.1 C0.2.1 (by rw [hml]; exact hL.1.symm) C0.2.2.2.1 (hts _ hw1) (hts _ hw2) (hts _ hw3) (hts _ hw4) (by omega) (by rw [zcat_eq]; omega) (Nat.le_trans hc.1 hcA) (Nat.le_trans hc.2 hcB) dd ?_
  have e0 : (if Int32.ofInt x < Int32.ofInt y then Int32.ofInt y else Int32.ofInt x) = Int32.ofInt (max x y) := by
    by_cases q : x < y
    · rw [if_pos ((z_lt hx hy).mpr q)]; congr 1; omega
    · rw [if_neg (fun z => q ((z_lt hx hy).mp z))]; congr 1; omega
  rw [e0]
  exact K

theorem z_min {idx : Nat} {x y : Int} (n : Nat) (dd : decode M.2.1 pc = .ok (.invokestatic idx, 3)) (hn : pc + 3 = n) (hw1 : Cond.methodLink M.1.cls idx Lib.Math.min.name ∈ zW) (hw2 : Cond.static Lib.Math.min.name ∈ zW) (hw3 : Cond.initialized "java/lang/Math" ∈ zW) (hw4 : Cond.code Lib.Math.min.name Lib.Math.min.code 2 (some .int) ∈ zW) (hst : zcat st ≤ 8) (hc : mr.2.2.1 ≤ mr.1 ∧ mr.2.2.2 ≤ mr.2.1) (hx : -2147483648 ≤ x ∧ x ≤ 2147483647) (hy : -2147483648 ≤ y ∧ y ≤ 2147483647)
    (kk : Z (d + 1) M mr n L (vI (min x y) :: st) h Q) : Z (d + 1) M mr pc L (vI y :: vI x :: st) h Q := by
  subst hn
  intro p l e R s m args below meth c D r G H locs ls C0 hG hL hR hS
  have K := kk p l e R s m args below meth c D r G H locs ls C0 hG hL hR hS
  have hts := C0.2.2.2.2.1
  obtain ⟨-, -, hml, -, -, -, -, hfr, hlo, hcA, hcB⟩ := id C0
  refine va_mmin C0.1 C0.2.1 (by rw [hml]; exact hL.1.symm) C0.2.2.2.1 (hts _ hw1) (hts _ hw2) (hts _ hw3) (hts _ hw4) (by omega) (by rw [zcat_eq]; omega) (Nat.le_trans hc.1 hcA) (Nat.le_trans hc.2 hcB) dd ?_
  have e0 : (if Int32.ofInt y < Int32.ofInt x then Int32.ofInt y else Int32.ofInt x) = Int32.ofInt (min x y) := by
    by_cases q : y < x
    · rw [if_pos ((z_lt hy hx).mpr q)]; congr 1; omega
    · rw [if_neg (fun z => q ((z_lt hy hx).mp z))]; congr 1; omega
  rw [e0]
  exact K

theorem z_abs {idx : Nat} {x : Int} (n : Nat) (dd : decode M.2.1 pc = .ok (.invokestatic idx, 3)) (hn : pc + 3 = n) (hw1 : Cond.methodLink M.1.cls idx Lib.MathLoose.abs_long.x ∈ zW) (hw2 : Cond.static Lib.MathLoose.abs_long.x ∈ zW) (hw3 : Cond.initialized "java/lang/Math" ∈ zW) (hw4 : Cond.code Lib.MathLoose.abs_long.x Lib.MathLoose.abs_long.code 2 (some .long) ∈ zW) (hst : zcat st ≤ 8) (hc : mr.2.2.1 ≤ mr.1 ∧ mr.2.2.2 ≤ mr.2.1) (hx : 0 ≤ x ∧ x ≤ 9223372036854775807)
    (kk : Z (d + 1) M mr n L (vJ x :: st) h Q) : Z (d + 1) M mr pc L (vJ x :: st) h Q := by
  subst hn
  intro p l e R s m args below meth c D r G H locs ls C0 hG hL hR hS
  have K := kk p l e R s m args below meth c D r G H locs ls C0 hG hL hR hS
  have hts := C0.2.2.2.2.1
  obtain ⟨-, -, hml, -, -, -, -, hfr, hlo, hcA, hcB⟩ := id C0
  refine va_mabs_long C0.1 C0.2.1 (by rw [hml]; exact hL.1.symm) C0.2.2.2.1 (hts _ hw1) (hts _ hw2) (hts _ hw3) (hts _ hw4) (by omega) (by rw [zcat_eq]; omega) (Nat.le_trans hc.1 hcA) (Nat.le_trans hc.2 hcB) dd ?_
  have e0 : (if 0 < Int64.ofInt x then Int64.ofInt x else -Int64.ofInt x) = Int64.ofInt x := by
    by_cases q : 0 < x
    · exact if_pos ((z_ltJ (x := 0) (by omega) (by omega)).mpr q)
    · rw [show x = 0 by omega]; rfl
  rw [e0]
  exact K
/-- a whole row of ints is copied -/
theorem z_copy {idx a b N : Nat} {f g : Int → Int} {v : Int} (n : Nat) (dd : decode M.2.1 pc = .ok (.invokestatic idx, 3)) (hn : pc + 3 = n) (hw1 : Cond.methodLink M.1.cls idx arraycopyName ∈ zW) (hw2 : Cond.native arraycopyName ∈ zW) (hw3 : Cond.static arraycopyName ∈ zW) (hw4 : Cond.initialized "java/lang/System" ∈ zW) (hst : zcat st ≤ 8) (hv : v = (N : Int)) (hN : N < 100000) (ha : h.1 a = some (zI N f)) (hb : h.1 b = some (zI N g)) (h2 : 2 ≤ b) (h2a : 2 ≤ a)
    (kk : Z (d + 1) M mr n L st (zup h b (zI N f)) Q) : Z (d + 1) M mr pc L (vI v :: vI 0 :: vR b :: vI 0 :: vR a :: st) h Q := by
  subst hn
  subst hv
  intro p l e R s m args below meth c D r G H locs ls C0 hG hL hR hS
  have hts := C0.2.2.2.2.1
  obtain ⟨-, -, hml, -, -, -, -, hfr, hlo, hcA, hcB⟩ := id C0
  obtain ⟨c0, k1, k2, hc0⟩ := hR.lab2 h2a ha
  obtain ⟨c1, j1, j2, hc1⟩ := hR.lab2 h2 hb
  intro T hT X
  obtain ⟨-, q0, hk0, cm0, hkk0⟩ := k1 N (fun j => .int (Int32.ofInt (f j)))
  obtain ⟨-, q1, hk1, cm1, hkk1⟩ := j1 N (fun j => .int (Int32.ofInt (g j)))
  have hcl : (Int32.ofInt (N : Int)).toNatClampNeg = N := by rw [zx_cl (by omega)]; omega
  have hti : (Int32.ofInt (N : Int)).toInt = (N : Int) := z_rng (by omega)
  have ht0 : (Int32.ofInt 0).toInt = 0 := by decide
  have hcl0 : (Int32.ofInt 0).toNatClampNeg = 0 := by decide
  obtain ⟨vm', X', step⟩ := X.arraycopy C0.1 C0.2.2.2.1 (hts _ hw1) (hts _ hw2) (hts _ hw3) (hts _ hw4) (src := r a) (dst := r b) (cs := vp_cell c0 (N, zpf 0 f)) (cd := vp_cell c1 (N, zpf 0 g)) (srcPos := Int32.ofInt 0) (destPos := Int32.ofInt 0) (n := Int32.ofInt (N : Int)) (by rw [hT]; exact hc0) (by rw [hT]; exact hc1)
    (fun _ h => by cases h) (fun _ h => by cases h) (fun h => by cases h) (fun h => by cases h) hk0 hk1 hkk0 hkk1 (by simp [zty, refKind]) (by decide) (by decide) (by intro q; have := (z_lt (x := (N : Int)) (y := 0) (by omega) (by omega)).mp q; omega)
    (by rw [ht0, hti]; show ¬ _ > ((arrV c0 N (fun j => .int (Int32.ofInt (f j)))).slots.size : Int); rw [arrV_size]; omega)
    (by rw [ht0, hti]; show ¬ _ > ((arrV c1 N (fun j => .int (Int32.ofInt (g j)))).slots.size : Int); rw [arrV_size]; omega)
    (fun vm₁ _ i hi => by
      rw [hcl] at hi
      have ee : (vp_cell c0 (N, zpf 0 f)).slots.getD ((Int32.ofInt 0).toNatClampNeg + i) .null = .int (Int32.ofInt (f i)) := by
        show (arrV c0 N (fun j => .int (Int32.ofInt (f j)))).slots.getD _ _ = _
        rw [Array.getD_eq_getD_getElem?, arrV_read _ _ (by rw [hcl0]; omega), hcl0]
        simp
      refine ⟨?_, ?_⟩
      · rw [ee]; rfl
      · rw [ee]; exact trivial)
    (g := F0 m pc ls (List.map (zv r) (vI N :: vI 0 :: vR b :: vI 0 :: vR a :: st))) rfl (by rw [hml]; exact hL.1) (rest := st.map (zv r)) rfl (by rw [C0.2.1]; exact dd) (by omega) (by
      show 2 * 0 + _ + (nativeFrameWords "java/lang/System" "arraycopy" 5 + 11) ≤ _
      rw [zcat_eq]
      have : nativeFrameWords "java/lang/System" "arraycopy" 5 ≤ 40 := by decide
      omega)
  have e1 : copied (vp_cell c0 (N, zpf 0 f)) (vp_cell c1 (N, zpf 0 g)) (Int32.ofInt 0) (Int32.ofInt 0) (Int32.ofInt (N : Int)) = vp_cell c1 (N, zpf 0 f) := by
    refine (va_copied (n0 := N) (n1 := N) (fun z => .int z) c0 c1 (fun j => Int32.ofInt (f j)) (fun j => Int32.ofInt (g j)) (by rw [hcl, hcl0]; omega)).trans ?_
    have key : ∀ (F G : Nat → Value), (∀ j : Nat, j < N → F j = G j) → arrV c1 N F = arrV c1 N G := by
      intro F G hFG
      unfold arrV
      congr 1
      exact congrArg Array.ofFn (funext fun j => hFG j.val j.isLt)
    refine key _ (fun j => Value.int (Int32.ofInt (f j))) (fun j hj => ?_)
    rw [hcl, hcl0]
    rw [pk_cpy_in (Nat.zero_le _) (by omega)]
    simp
  rw [e1] at X' step
  have hl : r b < H.size := (Array.getElem?_eq_some_iff.mp hc1).1
  have hheap : ((T.setVm vm').setCell (r b) (vp_cell c1 (N, zpf 0 f))).heap = H.setIfInBounds (r b) (vp_cell c1 (N, zpf 0 f)) := by rw [← hT]; rfl
  have oq : ∀ q : Nat, q ≠ r b → (H.setIfInBounds (r b) (vp_cell c1 (N, zpf 0 f)))[q]? = H[q]? := fun q hq => by simp [Array.getElem?_setIfInBounds, Ne.symm hq]
  obtain ⟨t, a1, b1⟩ := kk p l e R s m args below meth c D r G _ _ ls C0 hG hL (hR.put hb (c := zI N f) ⟨c1, j1, j2, by simp [Array.getElem?_setIfInBounds, hl]⟩ (by simp) oq) ⟨by simp; exact hS.1, fun q g1 g2 => by
      rw [oq q (fun ee => g2 (by rw [ee]; exact zA_lab h2))]
      exact hS.2.1 q g1 g2, fun q hq => by
      rcases List.mem_append.mp hq with g | g
      · exact hS.2.2 q g
      · obtain ⟨z, -, hz⟩ := List.mem_map.mp g
        rw [← hz]
        exact zA_lab h2⟩ _ hheap X'
  exact ⟨t, step t a1, b1⟩
end ZCALL
