/-! THE LAW: what is there at its entry -/
theorem zex_K {s : State} {args : Array Value} (hts : ∀ w ∈ zW, w.before args s = true) : ∃ D : va_G, va_K D vwCl [] s := by
  obtain ⟨c0, i0, k0⟩ := u_known (C := RX0) (T := TX0) (N := 3) (n := 3) hts zin_0 (hts _ zw_162)
  obtain ⟨c1, i1, k1⟩ := u_known (C := RX1) (T := TX1) (N := 1) (n := 1) hts zin_1 (hts _ zw_138)
  obtain ⟨c2, i2, k2⟩ := u_known (C := RX2) (T := TX2) (N := 3) (n := 3) hts zin_2 (hts _ zw_209)
  obtain ⟨c3, i3, k3⟩ := u_known (C := RX3) (T := TX3) (N := 1) (n := 1) hts zin_3 (hts _ zw_168)
  obtain ⟨c4, i4, k4⟩ := u_known (C := RX4) (T := TX4) (N := 2) (n := 2) hts zin_4 (hts _ zw_194)
  obtain ⟨c5, i5, k5⟩ := u_known (C := RX5) (T := TX5) (N := 2) (n := 2) hts zin_5 (hts _ zw_125)
  obtain ⟨c6, i6, k6⟩ := u_known (C := RX6) (T := TX6) (N := 7) (n := 7) hts zin_6 (hts _ zw_83)
  obtain ⟨c7, i7, k7⟩ := u_known (C := RX7) (T := TX7) (N := 2) (n := 2) hts zin_7 (hts _ zw_149)
  obtain ⟨c8, i8, k8⟩ := u_known (C := RX8) (T := TX8) (N := 2) (n := 2) hts zin_8 (hts _ zw_112)
  obtain ⟨c9, i9, k9⟩ := u_known (C := RX9) (T := TX9) (N := 11) (n := 11) hts zin_9 (hts _ zw_75)
  obtain ⟨c10, i10, k10⟩ := u_known (C := RX10) (T := TX10) (N := 25) (n := 25) hts zin_10 (hts _ zw_759)
  refine ⟨(fun k => match k with | 0 => c0 | 1 => c1 | 2 => c2 | 3 => c3 | 4 => c4 | 5 => c5 | 6 => c6 | 7 => c7 | 8 => c8 | 9 => c9 | _ => c10, fun k => match k with | 0 => i0 | 1 => i1 | 2 => i2 | 3 => i3 | 4 => i4 | 5 => i5 | 6 => i6 | 7 => i7 | 8 => i8 | 9 => i9 | _ => i10), fun k q hq => ?_, fun k q h => by simp at h⟩
  match k, hq with
  | 0, hq => cases hq; exact k0
  | 1, hq => cases hq; exact k1
  | 2, hq => cases hq; exact k2
  | 3, hq => cases hq; exact k3
  | 4, hq => cases hq; exact k4
  | 5, hq => cases hq; exact k5
  | 6, hq => cases hq; exact k6
  | 7, hq => cases hq; exact k7
  | 8, hq => cases hq; exact k8
  | 9, hq => cases hq; exact k9
  | 10, hq => cases hq; exact k10
  | k + 11, hq => simp at hq
/-- the table of factorials, read off the statement -/
theorem zex_F {s : State} {args : Array Value} (hgv : (Jvm.Cond.and given_1 narrow_1).before args s = true) {A : Nat → Prop} (hA : ∀ a : Nat, a < s.heap.size → ¬ A a) : ∃ t : Nat, (Term.static "LateLetters" "FACTORIALS" "[J").eval args s none [] s = some (.ref t) ∧ va_T .long t 9 (fun j => .long (Int64.ofInt (zfac j))) A s s.heap := by
  have hs := flat_of_before _ hgv
  have harr : (Cond.arrayOf (.static "LateLetters" "FACTORIALS" "[J") .long).before args s = true := hs _ (by decide +kernel)
  have hlen : (Cond.eq (.length (.static "LateLetters" "FACTORIALS" "[J")) (.int 9)).before args s = true := hs _ (by decide +kernel)
  have e0 : (Cond.eq (.elem (.static "LateLetters" "FACTORIALS" "[J") (.int 0)) (.long 1)).before args s = true := hs _ (by decide +kernel)
  have e1 : (Cond.eq (.elem (.static "LateLetters" "FACTORIALS" "[J") (.int 1)) (.long 1)).before args s = true := hs _ (by decide +kernel)
  have e2 : (Cond.eq (.elem (.static "LateLetters" "FACTORIALS" "[J") (.int 2)) (.long 2)).before args s = true := hs _ (by decide +kernel)
  have e3 : (Cond.eq (.elem (.static "LateLetters" "FACTORIALS" "[J") (.int 3)) (.long 6)).before args s = true := hs _ (by decide +kernel)
  have e4 : (Cond.eq (.elem (.static "LateLetters" "FACTORIALS" "[J") (.int 4)) (.long 24)).before args s = true := hs _ (by decide +kernel)
  have e5 : (Cond.eq (.elem (.static "LateLetters" "FACTORIALS" "[J") (.int 5)) (.long 120)).before args s = true := hs _ (by decide +kernel)
  have e6 : (Cond.eq (.elem (.static "LateLetters" "FACTORIALS" "[J") (.int 6)) (.long 720)).before args s = true := hs _ (by decide +kernel)
  have e7 : (Cond.eq (.elem (.static "LateLetters" "FACTORIALS" "[J") (.int 7)) (.long 5040)).before args s = true := hs _ (by decide +kernel)
  have e8 : (Cond.eq (.elem (.static "LateLetters" "FACTORIALS" "[J") (.int 8)) (.long 40320)).before args s = true := hs _ (by decide +kernel)
  refine va_Tof (by decide) harr (va_eqt hlen) (fun j hj => ?_) hA
  match j, hj with
  | 0, _ => rw [show Int64.ofInt (zfac ((0 : Nat) : Int)) = 1 by decide]; exact va_eqtl e0
  | 1, _ => rw [show Int64.ofInt (zfac ((1 : Nat) : Int)) = 1 by decide]; exact va_eqtl e1
  | 2, _ => rw [show Int64.ofInt (zfac ((2 : Nat) : Int)) = 2 by decide]; exact va_eqtl e2
  | 3, _ => rw [show Int64.ofInt (zfac ((3 : Nat) : Int)) = 6 by decide]; exact va_eqtl e3
  | 4, _ => rw [show Int64.ofInt (zfac ((4 : Nat) : Int)) = 24 by decide]; exact va_eqtl e4
  | 5, _ => rw [show Int64.ofInt (zfac ((5 : Nat) : Int)) = 120 by decide]; exact va_eqtl e5
  | 6, _ => rw [show Int64.ofInt (zfac ((6 : Nat) : Int)) = 720 by decide]; exact va_eqtl e6
  | 7, _ => rw [show Int64.ofInt (zfac ((7 : Nat) : Int)) = 5040 by decide]; exact va_eqtl e7
  | 8, _ => rw [show Int64.ofInt (zfac ((8 : Nat) : Int)) = 40320 by decide]; exact va_eqtl e8
  | j + 9, hj => exact absurd hj (by omega)
/-! THE CLAIM OUT OF ONE WALK OF THE LAW'S BODY. Your part is whole_start (and what it stands on); all else here is the same for every law, but numbers. -/
def R_law : String := "LateLettersLaw"
def lw_P (b : Addr) (xs : List Int32) (args : Array Value) (s : State) : Prop := args = #[.ref b] ∧ s.IntsAt b xs ∧ xs.length ≤ 2048 ∧ (Jvm.Cond.and given_1 narrow_1).before args s = true
def lw_Q (_ : Array Value) (s : State) (o : Outcome) (t : State) : Prop := o = .returned (some (.int 1)) ∧ Framed s o t [] 600000 7302250
def lw_Z (below : List Frame) (a : Array Value) (s : State) : State → Prop := fun t => ∃ o, t.status = .running ∧ Ended t below o ∧ lw_Q a s o t
/-- the law's own end, with 1 on the stack, nothing written that was there before, its room as the claim has it -/
theorem lw_ret {p : Program} {l : Launch} {e : Env} {s : State} {m : MethodId} {below : List Frame} {meth : Method} {c : Code} {b : Nat} (hx : p.tables.exec = Jvm.exec) (hb : c.code = code) (hr : meth.sig.returnType = ret) (hlocks : meth.locks = false) {pc : Nat} {H : Heap} {ls : Array Slot} (hdg : decode code pc = .ok (.ireturn, 1)) : W p l e room_1 s m #[Value.ref b] below meth c H [] 600000 7302250 (lw_Z below #[Value.ref b] s) (F0 m pc ls [.int 1]) := by
  intro T hT X
  obtain ⟨fs, hret, hrun, hended, hW, hframe⟩ := X.leave (v := some (.int 1)) (hlocks := hlocks) (fun h => by rw [hr] at h; cases h)
  have hmeth' : T.vm.method? m = some meth := X.method'
  refine ⟨T.setFrames fs, ?_, .returned (some (.int 1)), hrun, hended, rfl, ⟨_, rfl⟩, hW, hframe⟩
  jvm_step X.here [X.here.top, hx, hb, hdg, hmeth', hr, ret, narrow_b1]
  (try refine ⟨rfl, ?_⟩); (try refine ⟨rfl, ?_⟩)
  first | (intro acts; rw [hret _ acts rfl rfl rfl]) | rw [hret _ _ rfl rfl rfl]
  exact Steps.refl _
/-- what holds at the law's entry: the machine, the code, the tables' words (any of lw_tbl by 'hts w (by decide +kernel)'), the script of L ints xs at the cell b, what the Statement gives of the start (any of its parts by flat_of_before) -/
def lw_At (p : Program) (s : State) (m : MethodId) (meth : Method) (c : Code) (b L : Nat) (xs : Nat → Int32) : Prop :=
  p.tables.exec = Jvm.exec ∧ c.code = code ∧ meth.sig.returnType = ret ∧ c.maxLocals = 4 ∧ s.vm.findClass R_law = some m.cls ∧ (∀ w ∈ lw_tbl, w.before #[Value.ref b] s = true) ∧ va_X b L xs s s.heap ∧ b < s.heap.size ∧ meth.locks = false ∧ (Jvm.Cond.and given_1 narrow_1).before #[Value.ref b] s = true
/-- labels to addresses, at the entry -/
def zr0 (b t n : Nat) : Nat → Nat := fun q => if q = 0 then b else if q = 1 then t else n + (q - 2)
set_option maxHeartbeats 4000000 in
/-- from the entry, for every script of at most 2048 ints, the law comes to its end with true -/
theorem whole_start {p : Program} {e : Env} {s : State} {m : MethodId} {below : List Frame} {meth : Method} {c : Code} (l : Launch) (hflags : l.flags = flags0) {b L : Nat} {xs : Nat → Int32} (hL : L ≤ 2048) (C0 : lw_At p s m meth c b L xs) : W p l e room_1 s m #[Value.ref b] below meth c s.heap [] 0 0 (lw_Z below #[Value.ref b] s) (entryFrame m ([Value.ref b] : List Value).toArray 4) := by
  obtain ⟨hx, hb, hr, hml, hown, hts, hX, hbl, hlocks, hgv⟩ := id C0
  have hzW : ∀ w ∈ zW, w.before #[Value.ref b] s = true := fun w hw => hts w (List.mem_filter.mp hw).1
  obtain ⟨D, hK⟩ := zex_K hzW
  obtain ⟨t, hev, hT⟩ := zex_F (A := fun q => s.heap.size ≤ q) hgv (fun a h => Nat.not_le.mpr h)
  obtain ⟨cell, t1, t2, t3, t4, t5, t6, -⟩ := id hT
  have htl : t < s.heap.size := (Array.getElem?_eq_some_iff.mp t1).1
  obtain ⟨scr, x1, x2, x3, x4, x5⟩ := hX
  have hbt : b ≠ t := fun e => by
    subst e
    cases x1.symm.trans t1
    obtain ⟨-, k1, g1, c1, g2⟩ := x2
    obtain ⟨-, k2, g3, c2, g4⟩ := t2
    cases g1.symm.trans g3
    rw [g2] at g4
    cases g4
  have hzA : ∀ q : Nat, zA (zr0 b t s.heap.size) q → s.heap.size ≤ q := fun q ⟨a, h1, h2⟩ => by
    unfold zr0 at h2
    rw [if_neg (by omega), if_neg (by omega)] at h2
    omega
  have hA : ∀ a : Nat, a < s.heap.size → ¬ zA (zr0 b t s.heap.size) a := fun a h1 h2 => by have := hzA a h2; omega
  have hE : zEnv D (zr0 b t s.heap.size) s s.heap :=
    ⟨hK, va_Zref (hts _ (List.mem_of_getElem? (i := 712) (by decide +kernel))) (hts _ (List.mem_filter.mp zw_60).1) hev hA, fun w hw a i x h e => va_Nw.of (by subst e; rfl) (hts w hw), va_AO.of (hts _ (List.mem_of_getElem? (i := 177) (by decide +kernel)))⟩
  have hR : zRel s D (zr0 b t s.heap.size) (zh0 L (fun j => (xs j.toNat).toInt)) s.heap := by
    refine ⟨fun q cc hq => ?_, fun q hq => ?_, fun i j hi hj hij => ?_, fun k => ?_⟩
    · match q, hq with
      | 0, hq =>
        cases hq
        refine ⟨by show 0 < 2; omega, Or.inr ⟨by omega, scr, x1, x2, x3, by omega, by rw [x4, Int32.ofInt_eq_ofNat], fun j hj => ?_⟩⟩
        rw [x5 j hj]
        show _ = some (Value.int (Int32.ofInt (xs ((j : Int)).toNat).toInt))
        rw [Int32.ofInt_toInt, show ((j : Int)).toNat = j by omega]
      | 1, hq =>
        cases hq
        refine ⟨by show 1 < 2; omega, Or.inr ⟨by omega, cell, t1, t2, t3, t4, by rw [t5, Int32.ofInt_eq_ofNat], fun j hj => ?_⟩⟩
        rw [t6 j hj]; rfl
      | q + 2, hq =>
        have : (zh0 L (fun j => (xs j.toNat).toInt)).1 (q + 2) = none := by
          unfold zh0
          dsimp only
          rw [if_neg (by omega), if_neg (by omega)]
        rw [this] at hq
        cases hq
    · match q, hq with
      | 0, _ => exact hbl
      | 1, _ => exact htl
      | q + 2, hq => exact absurd (show q + 2 < 2 from hq) (by omega)
    · match i, j, hi, hj, hij with
      | 0, 0, _, _, _ => rfl
      | 1, 1, _, _, _ => rfl
      | 0, 1, _, _, hij => exact absurd hij hbt
      | 1, 0, _, _, hij => exact absurd hij.symm hbt
      | i + 2, _, hi, _, _ => exact absurd (show i + 2 < 2 from hi) (by omega)
      | _, j + 2, _, hj, _ => exact absurd (show j + 2 < 2 from hj) (by omega)
    · show (if 2 + k = 0 then _ else if 2 + k = 1 then _ else s.heap.size + (2 + k - 2)) = _
      rw [if_neg (by omega), if_neg (by omega)]
      omega
  have hf : ∀ j : Int, 0 ≤ j → j < L → -2147483648 ≤ (xs j.toNat).toInt ∧ (xs j.toNat).toInt ≤ 2147483647 := fun j _ _ => zr_32 _
  have key := law_Z (nm := meth.name) (d := 0) (L := L) (f := fun j => (xs j.toNat).toInt) (Q := fun v _ => v = some (vI 1)) hL hf (fun _ => rfl)
  rw [lg_entry_eq]
  refine key p l e room_1 s m #[Value.ref b] below meth c D (zr0 b t s.heap.size) (lw_Z below #[Value.ref b] s) s.heap [] _ ⟨hx, hb, hml, hown, hzW, hE, rfl, Nat.le_of_ble_eq_true rfl, Nat.le_of_ble_eq_true rfl, Nat.le_of_ble_eq_true rfl, Nat.le_of_ble_eq_true rfl⟩ ?_ (zL_entry (zr0 b t s.heap.size) [vR 0] (Nat.le_of_ble_eq_true rfl)) hR va_S.rf
  intro v h2 H2 locs2 ls2 pc2 hi hfit hq hR2 hS2
  subst hq
  refine va_forget (fun q hq => hzA _ (hS2.2.2 q hq)) ?_
  refine W.widen (k := 600000) (n := 7302250) (Nat.le_of_ble_eq_true rfl) (Nat.le_of_ble_eq_true rfl) ?_
  have e1 : Int32.ofInt 1 = 1 := by decide
  show W p l e room_1 s m #[Value.ref b] below meth c H2 [] 600000 7302250 _ (F0 m pc2 ls2 [Value.int (Int32.ofInt 1)])
  rw [e1]
  exact lw_ret hx hb hr hlocks hi
set_option maxHeartbeats 4000000 in
theorem lw_walk (l : Launch) (hflags : l.flags = flags0) (b : Addr) (xs : List Int32) : MetFree l x (headSpec (Jvm.Cond.code x code maxLocals ret :: tables_1) room_1) (lw_P b xs) (fun _ _ _ _ _ => True) lw_Q := by
  refine MetFree.of_bodyS (code := code) (maxLocals := maxLocals) (ret := ret) (by decide) ?_ ?_
  · intro args s m h hn
    obtain ⟨meth, c, h1, h2, h3, h4, h5, h6, -, -⟩ := Cond.code_spec hn (atoms_spec (ws := Jvm.Cond.code x code maxLocals ret :: tables_1) h _ List.mem_cons_self)
    exact ⟨meth, c, h1, h2, h3, h4, h5, h6⟩
  · intro p e s m args below meth c s₁ B hml0 hP _
    obtain ⟨rfl, hx, hbd, hgv⟩ := hP
    obtain ⟨scr, harrAt, hlist, hof, hsmall⟩ := hx
    obtain ⟨hcb, hkn, -, -⟩ := State.arrayAt?_spec harrAt
    have hown : s.vm.findClass R_law = some m.cls := findClass_of_methodNamed B.named
    have hts0 : ∀ c ∈ (Jvm.Cond.code x code maxLocals ret :: tables_1), c.before #[Value.ref b] s = true := atoms_spec (ws := Jvm.Cond.code x code maxLocals ret :: tables_1) B.pre
    have hts : ∀ w ∈ lw_tbl, w.before #[Value.ref b] s = true := k2_hts_sels lw_privs (fun w hw => hts0 w (List.mem_cons_of_mem _ hw)) lw_privs_ok
    have hml : c.maxLocals = 4 := B.maxLocals_eq (hts0 _ List.mem_cons_self)
    have X₀ : Stand p l e room_1 s m #[Value.ref b] below meth c s₁ [] 0 0 := Stand.of_body B
    have hh0 : s₁.heap = s.heap := by rw [B.state]; rfl
    have hsz : scr.slots.size = xs.length := by rw [← Array.length_toList, hlist, List.length_map]
    have hval : ∀ j : Nat, j < xs.length → scr.slots[j]? = some (.int (xs.getD j 0)) := fun j hj => by
      rw [← Array.getElem?_toList, hlist]
      simp [hj]
    have hbl : b < s.heap.size := (Array.getElem?_eq_some_iff.mp hcb).1
    have hX : va_X b xs.length (fun j => xs.getD j 0) s s.heap := ⟨scr, hcb, hof, hkn, hsz, hval⟩
    have K : W p l e room_1 s m #[Value.ref b] below meth c s₁.heap [] 0 0 (lw_Z below #[Value.ref b] s) (entryFrame m ([Value.ref b] : List Value).toArray 4) := by
      rw [hh0]
      exact whole_start l hflags hbd ⟨B.exec, B.bytes, B.returns, hml, hown, hts, hX, hbl, B.notSynchronized, hgv⟩
    obtain ⟨t, a1, o, b1, b2, b3⟩ := K s₁ rfl X₀
    exact ⟨t, o, a1, b1, b2, b3⟩
theorem lw_pre_spec {args : Array Value} {s : State} (h : (Jvm.Cond.and given_1 narrow_1).before args s = true) (hr : rest_1_c.before args s = true) : ∃ (b : Addr) (xs : List Int32), lw_P b xs args s := by
  have hs := flat_of_before _ h
  have hq := flat_of_before _ hr
  have hc : (Cond.count 1).before args s = true := hs _ (by decide +kernel)
  have harr : (Cond.arrayOf (.arg 0) .int).before args s = true := hs _ (by decide +kernel)
  have hle : (Cond.le (.length (.arg 0)) (.int 2048)).before args s = true := hs _ (by decide +kernel)
  have hlen : (Cond.isInt (.length (.arg 0))).before args s = true := hq _ (by decide +kernel)
  have hall : (Cond.all (.arg 0) (.isInt (.elem (.arg 0) (.index 0)))).before args s = true := hq _ (by decide +kernel)
  obtain ⟨b, xs, hb, hx⟩ := State.ints_of_pre rfl harr hlen hall
  have hsm : xs.length < 2 ^ 31 := hx.choose_spec.2.2.2
  have hev : (Term.length (.arg 0)).eval args s none [] s = some (.int xs.length.toInt32) := hx.length_eval hb
  have hv := Cond.le_ints hev (show (Term.int 2048).eval args s none [] s = some (.int 2048) from rfl)
  have hd : xs.length.toInt32 ≤ 2048 := by
    simpa [Cond.before, Cond.holds, hv] using hle
  have hN : xs.length ≤ 2048 := (Int32.ofNat_le_ofNat hsm (by decide)).mp (show Int32.ofNat xs.length ≤ Int32.ofNat 2048 from hd)
  exact ⟨b, xs, Cond.one_arg hc (show args[0]? = some (.ref b) from hb), hx, hN, h⟩
theorem lw_comes (l : Launch) (hflags : l.flags = flags0) : Comes l x (Jvm.Cond.code x code maxLocals ret :: tables_1) room_1 (fun tb e args s => Calls_1 tb e args s ∧ rest_1 tb e args s ∧ Pre_1 tb e args s)
    (fun _ _ args s o t => lw_Q args s o t) := by
  intro p e ha hc hk s m args below hf hfit hheap happ hpre
  obtain ⟨b, xs, hP⟩ := lw_pre_spec hpre.2.2 hpre.2.1
  obtain ⟨k, o, h1, h2, h3, hQ⟩ := lw_walk l hflags b xs p e ha hc hk s m args below hf ((Spec.applies_iff_loose hf).mp happ).1 hP trivial
  exact ⟨k, o, h1, h2, h3, hQ⟩
theorem lw_frame {s t : State} {o : Outcome} {args : Array Value} (h : Framed s o t [] 600000 7302250) :
    Framed s o t (fieldLocs frame_1_writes args s ++ arrayLocs frame_1_arrays args s ++ staticLocs frame_1_statics s) 600000 7302250 := h
theorem lw_limb (L : Cond) (hL : ∀ (args : Array Value) (s t : State), L.after args s (.returned (some (.int 1))) t = true) :
    ArmFor flags0 classFile x code maxLocals ret World_1 tables_1 room_1 Calls_1 rest_1 Pre_1
      (fun tb e a s o t => postC L tb e a s o t ∧ Framed s o t (fieldLocs frame_1_writes a s ++ arrayLocs frame_1_arrays a s ++ staticLocs frame_1_statics s) 600000 7302250) := by
  intro l hflags _ _ p e ha hc hk s m args below hf hfit hheap happ hpre
  obtain ⟨k, o, h1, h2, h3, rfl, hF⟩ := lw_comes l hflags p e ha hc hk s m args below hf hfit hheap happ hpre
  exact ⟨k, _, h1, h2, h3, hL args s _, lw_frame hF⟩
theorem i_vc : Claimed_1_1 ∧ Claimed_1_2 := ⟨lw_limb limb_1_1 (fun args s t => by simp [limb_1_1, Cond.after, Cond.holds, Cond.value]), lw_limb limb_1_2 (fun args s t => Cond.after_iff.mpr (by
  first | (rw [show limb_1_2 = Cond.eq .result (.int 1) from rfl, Cond.eq_ints (x := 1) (y := 1) rfl rfl]; simp; done) | (simp [limb_1_2, Cond.value, Term.eval]; done)))⟩
