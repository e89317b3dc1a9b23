/-! BITS: the first rows are the family bt of kit/laws/BITS.to-paste -/
def bt (x : Int32) (i : Nat) : Bool := x.toBitVec.getLsbD i
theorem b_ext {x y : Int32} (h : ∀ i, i < 32 → bt x i = bt y i) : x = y := Int32.toBitVec_inj.mp (BitVec.eq_of_getLsbD_eq (fun i hi => h i hi))
theorem b_or (x y : Int32) (i : Nat) : bt (x ||| y) i = (bt x i || bt y i) := by unfold bt; rw [Int32.toBitVec_or, BitVec.getLsbD_or]
theorem b_and (x y : Int32) (i : Nat) : bt (x &&& y) i = (bt x i && bt y i) := by unfold bt; rw [Int32.toBitVec_and, BitVec.getLsbD_and]
theorem b_xor (x y : Int32) (i : Nat) : bt (x ^^^ y) i = (bt x i ^^ bt y i) := by unfold bt; rw [Int32.toBitVec_xor, BitVec.getLsbD_xor]
theorem b_big {x : Int32} {i : Nat} (h : 32 ≤ i) : bt x i = false := BitVec.getLsbD_of_ge _ _ h
theorem b_m1 : ∀ i, i < 32 → bt (-1) i = true := by decide +kernel
theorem b_0 (i : Nat) : bt 0 i = false := BitVec.getLsbD_zero
theorem s_l : ∀ n, n < 32 → ((nI n &&& 31).toBitVec.smod 32).toNat = n := by decide +kernel
theorem b_shl (n : Nat) (hn : n < 32) (x : Int32) {i : Nat} (hi : i < 32) : bt (x <<< (nI n &&& 31)) i = (decide (n ≤ i) && bt x (i - n)) := by
  unfold bt
  rw [Int32.toBitVec_shiftLeft]
  show (x.toBitVec <<< ((nI n &&& 31).toBitVec.smod 32).toNat).getLsbD i = _
  rw [s_l n hn, BitVec.getLsbD_shiftLeft]
  rcases Nat.lt_or_ge i n with h | h
  · simp [h, Nat.not_le.mpr h]
  · simp [hi, h, Nat.not_lt.mpr h]
theorem b_sshr (n : Nat) (hn : n < 32) (x : Int32) {i : Nat} (hi : i < 32) : bt (x >>> (nI n &&& 31)) i = if n + i < 32 then bt x (n + i) else bt x 31 := by
  unfold bt
  rw [Int32.toBitVec_shiftRight]
  show (x.toBitVec.sshiftRight ((nI n &&& 31).toBitVec.smod 32).toNat).getLsbD i = _
  rw [s_l n hn, BitVec.getLsbD_sshiftRight, BitVec.msb_eq_getLsbD_last]
  simp [hi]
/-- the bits of a number -/
def zt (x : Int) (i : Nat) : Bool := bt (Int32.ofInt x) i
theorem zt_or (x y : Int) (i : Nat) : zt (zor x y) i = (zt x i || zt y i) := by unfold zt zor; rw [Int32.ofInt_toInt, b_or]
theorem zt_and (x y : Int) (i : Nat) : zt (zand x y) i = (zt x i && zt y i) := by unfold zt zand; rw [Int32.ofInt_toInt, b_and]
theorem zt_xor (x y : Int) (i : Nat) : zt (zxor x y) i = (zt x i ^^ zt y i) := by unfold zt zxor; rw [Int32.ofInt_toInt, b_xor]
theorem zt_m1 {i : Nat} (h : i < 32) : zt (-1) i = true := b_m1 i h
theorem zt_0 (i : Nat) : zt 0 i = false := b_0 i
theorem zt_big {x : Int} {i : Nat} (h : 32 ≤ i) : zt x i = false := b_big h
theorem b_1 : ∀ i, i < 32 → bt 1 i = decide (i = 0) := by decide +kernel
theorem zt_1 {i : Nat} (h : i < 32) : zt 1 i = decide (i = 0) := b_1 i h
theorem z_nI {p : Int} (h : 0 ≤ p) : Int32.ofInt p = nI p.toNat := by
  have e : p = ((p.toNat : Nat) : Int) := by omega
  unfold nI
  rw [← Int32.ofInt_eq_ofNat, ← e]
theorem zt_shl {x p : Int} (hp : 0 ≤ p ∧ p < 32) {i : Nat} (hi : i < 32) : zt (zshl x p) i = (decide (p.toNat ≤ i) && zt x (i - p.toNat)) := by
  unfold zt zshl; rw [Int32.ofInt_toInt, z_nI hp.1, b_shl _ (by omega) _ hi]
theorem zt_shr {x p : Int} (hp : 0 ≤ p ∧ p < 32) {i : Nat} (hi : i < 32) : zt (zshr x p) i = if p.toNat + i < 32 then zt x (p.toNat + i) else zt x 31 := by
  unfold zt zshr; rw [Int32.ofInt_toInt, z_nI hp.1, b_sshr _ (by omega) _ hi]
theorem zt_shl1 {p : Int} (hp : 0 ≤ p ∧ p < 32) {i : Nat} (hi : i < 32) : zt (zshl 1 p) i = decide (i = p.toNat) := by
  rw [zt_shl hp hi]
  by_cases e : p.toNat ≤ i
  · rw [zt_1 (by omega), decide_eq_true e, Bool.true_and]
    exact decide_eq_decide.mpr (by omega)
  · rw [decide_eq_false e, Bool.false_and]
    exact (decide_eq_false (by omega)).symm
theorem zt_ext {x y : Int} (hx : -2147483648 ≤ x ∧ x ≤ 2147483647) (hy : -2147483648 ≤ y ∧ y ≤ 2147483647) (h : ∀ i, i < 32 → zt x i = zt y i) : x = y := (z_eq hx hy).mp (b_ext h)
theorem zb_one (x : Int) : zand x 1 = if zt x 0 then 1 else 0 := by
  refine zt_ext (zr_and _ _) (by split <;> omega) (fun i hi => ?_)
  rw [zt_and, zt_1 hi]
  by_cases e : i = 0
  · subst e
    cases hz : zt x 0 <;> simp <;> first | exact (zt_0 0).symm | exact (zt_1 (by omega)).symm
  · rw [decide_eq_false e, Bool.and_false]
    cases hz : zt x 0 <;> simp
    · exact zt_0 i
    · rw [zt_1 hi]; simp [e]
/-- is this one among those -/
def zkb (w p : Int) : Bool := zt w p.toNat
theorem z_has {w p : Int} (hp : 0 ≤ p ∧ p < 32) : zand (zshr w p) 1 = if zkb w p then 1 else 0 := by
  rw [zb_one, zt_shr hp (by omega), if_pos (show p.toNat + 0 < 32 by omega)]; rfl
theorem z_has0 {w p : Int} (hp : 0 ≤ p ∧ p < 32) : zand (zshr w p) 1 = 0 ↔ zkb w p = false := by
  rw [z_has hp]; cases zkb w p <;> simp
theorem zkb_or {w p q : Int} (hp : 0 ≤ p ∧ p < 32) (hq : 0 ≤ q ∧ q < 32) : zkb (zor w (zshl 1 p)) q = (zkb w q || decide (q = p)) := by
  unfold zkb; rw [zt_or, zt_shl1 hp (by omega)]
  congr 1
  exact decide_eq_decide.mpr (by omega)
theorem zkb_del {w p q : Int} (hp : 0 ≤ p ∧ p < 32) (hq : 0 ≤ q ∧ q < 32) : zkb (zand w (zxor (zshl 1 p) (-1))) q = (zkb w q && !decide (q = p)) := by
  unfold zkb; rw [zt_and, zt_xor, zt_m1 (by omega), zt_shl1 hp (by omega), show decide (q.toNat = p.toNat) = decide (q = p) from decide_eq_decide.mpr (by omega)]
  simp
/-- put in and taken out again -/
theorem z_back {w p : Int} (hw : -2147483648 ≤ w ∧ w ≤ 2147483647) (hp : 0 ≤ p ∧ p < 32) (hn : zkb w p = false) : zand (zor w (zshl 1 p)) (zxor (zshl 1 p) (-1)) = w := by
  refine zt_ext (zr_and _ _) hw (fun i hi => ?_)
  rw [zt_and, zt_or, zt_xor, zt_m1 hi, zt_shl1 hp hi]
  by_cases e : i = p.toNat
  · subst e
    unfold zkb at hn
    simp [hn]
  · simp [e]
theorem zkb_1 {p : Int} (hp : 0 ≤ p ∧ p < 32) : zkb 1 p = decide (p = 0) := by
  unfold zkb; rw [zt_1 (by omega)]; exact decide_eq_decide.mpr (by omega)
