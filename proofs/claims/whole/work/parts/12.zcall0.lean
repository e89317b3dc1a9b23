/-! CALLS THAT MAKE NO CELL; LOOPS -/
section ZC0
variable {d : Nat} {M : zM} {mr : zK} {pc : Nat} {L : List (Option zV)} {st : List zV} {h : zH} {Q : Option zV → zH → Prop}
theorem z_cV0 {M2 : zM} {idx ci a : Nat} {fs : List zV} (n : Nat) (dd : decode M.2.1 pc = .ok (.invokevirtual idx, 3)) (hn : pc + 3 = n) (hk : zceeV M2 ci 0) (hw : Cond.methodLink M.1.cls idx M2.1 ∈ zW) (hst : zcat st ≤ 8) (hm : mr.2.2.1 ≤ mr.1 ∧ mr.2.2.2 ≤ mr.2.1) (ha : h.1 a = some (zO ci fs))
    (kk : zC d M2 0 0 (vR a :: []) h (fun v h' => Z (d + 1) M mr n L (zpush v st) h' Q)) : Z (d + 1) M mr pc L (vR a :: st) h Q := z_callV0 (mc := 0) (ms := 0) n dd hn hk hw hst hm ha kk
theorem z_cV1 {M2 : zM} {idx ci a : Nat} {fs : List zV} {x0 : zV} (n : Nat) (dd : decode M.2.1 pc = .ok (.invokevirtual idx, 3)) (hn : pc + 3 = n) (hk : zceeV M2 ci 1) (hw : Cond.methodLink M.1.cls idx M2.1 ∈ zW) (hst : zcat st ≤ 8) (hm : mr.2.2.1 ≤ mr.1 ∧ mr.2.2.2 ≤ mr.2.1) (ha : h.1 a = some (zO ci fs))
    (kk : zC d M2 0 0 (vR a :: [x0]) h (fun v h' => Z (d + 1) M mr n L (zpush v st) h' Q)) : Z (d + 1) M mr pc L (x0 :: vR a :: st) h Q := z_callV1 (mc := 0) (ms := 0) n dd hn hk hw hst hm ha kk
theorem z_cV2 {M2 : zM} {idx ci a : Nat} {fs : List zV} {x0 x1 : zV} (n : Nat) (dd : decode M.2.1 pc = .ok (.invokevirtual idx, 3)) (hn : pc + 3 = n) (hk : zceeV M2 ci 2) (hw : Cond.methodLink M.1.cls idx M2.1 ∈ zW) (hst : zcat st ≤ 8) (hm : mr.2.2.1 ≤ mr.1 ∧ mr.2.2.2 ≤ mr.2.1) (ha : h.1 a = some (zO ci fs))
    (kk : zC d M2 0 0 (vR a :: [x0, x1]) h (fun v h' => Z (d + 1) M mr n L (zpush v st) h' Q)) : Z (d + 1) M mr pc L (x1 :: x0 :: vR a :: st) h Q := z_callV2 (mc := 0) (ms := 0) n dd hn hk hw hst hm ha kk
theorem z_cV3 {M2 : zM} {idx ci a : Nat} {fs : List zV} {x0 x1 x2 : zV} (n : Nat) (dd : decode M.2.1 pc = .ok (.invokevirtual idx, 3)) (hn : pc + 3 = n) (hk : zceeV M2 ci 3) (hw : Cond.methodLink M.1.cls idx M2.1 ∈ zW) (hst : zcat st ≤ 8) (hm : mr.2.2.1 ≤ mr.1 ∧ mr.2.2.2 ≤ mr.2.1) (ha : h.1 a = some (zO ci fs))
    (kk : zC d M2 0 0 (vR a :: [x0, x1, x2]) h (fun v h' => Z (d + 1) M mr n L (zpush v st) h' Q)) : Z (d + 1) M mr pc L (x2 :: x1 :: x0 :: vR a :: st) h Q := z_callV3 (mc := 0) (ms := 0) n dd hn hk hw hst hm ha kk
theorem z_cV4 {M2 : zM} {idx ci a : Nat} {fs : List zV} {x0 x1 x2 x3 : zV} (n : Nat) (dd : decode M.2.1 pc = .ok (.invokevirtual idx, 3)) (hn : pc + 3 = n) (hk : zceeV M2 ci 4) (hw : Cond.methodLink M.1.cls idx M2.1 ∈ zW) (hst : zcat st ≤ 8) (hm : mr.2.2.1 ≤ mr.1 ∧ mr.2.2.2 ≤ mr.2.1) (ha : h.1 a = some (zO ci fs))
    (kk : zC d M2 0 0 (vR a :: [x0, x1, x2, x3]) h (fun v h' => Z (d + 1) M mr n L (zpush v st) h' Q)) : Z (d + 1) M mr pc L (x3 :: x2 :: x1 :: x0 :: vR a :: st) h Q := z_callV4 (mc := 0) (ms := 0) n dd hn hk hw hst hm ha kk
theorem z_cS1 {M2 : zM} {idx : Nat} {x0 : zV} (n : Nat) (dd : decode M.2.1 pc = .ok (.invokestatic idx, 3)) (hn : pc + 3 = n) (hk : zceeS M2 1) (hw : Cond.methodLink M.1.cls idx M2.1 ∈ zW) (hst : zcat st ≤ 8) (hm : mr.2.2.1 ≤ mr.1 ∧ mr.2.2.2 ≤ mr.2.1)
    (kk : zC d M2 0 0 ([x0]) h (fun v h' => Z (d + 1) M mr n L (zpush v st) h' Q)) : Z (d + 1) M mr pc L (x0 :: st) h Q := z_callS1 (mc := 0) (ms := 0) n dd hn hk hw hst hm kk
theorem z_cS2 {M2 : zM} {idx : Nat} {x0 x1 : zV} (n : Nat) (dd : decode M.2.1 pc = .ok (.invokestatic idx, 3)) (hn : pc + 3 = n) (hk : zceeS M2 2) (hw : Cond.methodLink M.1.cls idx M2.1 ∈ zW) (hst : zcat st ≤ 8) (hm : mr.2.2.1 ≤ mr.1 ∧ mr.2.2.2 ≤ mr.2.1)
    (kk : zC d M2 0 0 ([x0, x1]) h (fun v h' => Z (d + 1) M mr n L (zpush v st) h' Q)) : Z (d + 1) M mr pc L (x1 :: x0 :: st) h Q := z_callS2 (mc := 0) (ms := 0) n dd hn hk hw hst hm kk
theorem z_cS3 {M2 : zM} {idx : Nat} {x0 x1 x2 : zV} (n : Nat) (dd : decode M.2.1 pc = .ok (.invokestatic idx, 3)) (hn : pc + 3 = n) (hk : zceeS M2 3) (hw : Cond.methodLink M.1.cls idx M2.1 ∈ zW) (hst : zcat st ≤ 8) (hm : mr.2.2.1 ≤ mr.1 ∧ mr.2.2.2 ≤ mr.2.1)
    (kk : zC d M2 0 0 ([x0, x1, x2]) h (fun v h' => Z (d + 1) M mr n L (zpush v st) h' Q)) : Z (d + 1) M mr pc L (x2 :: x1 :: x0 :: st) h Q := z_callS3 (mc := 0) (ms := 0) n dd hn hk hw hst hm kk
theorem z_cS4 {M2 : zM} {idx : Nat} {x0 x1 x2 x3 : zV} (n : Nat) (dd : decode M.2.1 pc = .ok (.invokestatic idx, 3)) (hn : pc + 3 = n) (hk : zceeS M2 4) (hw : Cond.methodLink M.1.cls idx M2.1 ∈ zW) (hst : zcat st ≤ 8) (hm : mr.2.2.1 ≤ mr.1 ∧ mr.2.2.2 ≤ mr.2.1)
    (kk : zC d M2 0 0 ([x0, x1, x2, x3]) h (fun v h' => Z (d + 1) M mr n L (zpush v st) h' Q)) : Z (d + 1) M mr pc L (x3 :: x2 :: x1 :: x0 :: st) h Q := z_callS4 (mc := 0) (ms := 0) n dd hn hk hw hst hm kk
theorem z_cSN1 {M2 : zM} {idx : Nat} {host : String} {x0 : zV} (n : Nat) (dd : decode M.2.1 pc = .ok (.invokestatic idx, 3)) (hn : pc + 3 = n) (hk : zceeS M2 1) (hw : Cond.methodLinkNest M.1.cls idx M2.1 host ∈ lw_tbl) (hst : zcat st ≤ 8) (hm : mr.2.2.1 ≤ mr.1 ∧ mr.2.2.2 ≤ mr.2.1)
    (kk : zC d M2 0 0 ([x0]) h (fun v h' => Z (d + 1) M mr n L (zpush v st) h' Q)) : Z (d + 1) M mr pc L (x0 :: st) h Q := z_callSN1 (mc := 0) (ms := 0) n dd hn hk hw hst hm kk
theorem z_cSN2 {M2 : zM} {idx : Nat} {host : String} {x0 x1 : zV} (n : Nat) (dd : decode M.2.1 pc = .ok (.invokestatic idx, 3)) (hn : pc + 3 = n) (hk : zceeS M2 2) (hw : Cond.methodLinkNest M.1.cls idx M2.1 host ∈ lw_tbl) (hst : zcat st ≤ 8) (hm : mr.2.2.1 ≤ mr.1 ∧ mr.2.2.2 ≤ mr.2.1)
    (kk : zC d M2 0 0 ([x0, x1]) h (fun v h' => Z (d + 1) M mr n L (zpush v st) h' Q)) : Z (d + 1) M mr pc L (x1 :: x0 :: st) h Q := z_callSN2 (mc := 0) (ms := 0) n dd hn hk hw hst hm kk
theorem z_cSN3 {M2 : zM} {idx : Nat} {host : String} {x0 x1 x2 : zV} (n : Nat) (dd : decode M.2.1 pc = .ok (.invokestatic idx, 3)) (hn : pc + 3 = n) (hk : zceeS M2 3) (hw : Cond.methodLinkNest M.1.cls idx M2.1 host ∈ lw_tbl) (hst : zcat st ≤ 8) (hm : mr.2.2.1 ≤ mr.1 ∧ mr.2.2.2 ≤ mr.2.1)
    (kk : zC d M2 0 0 ([x0, x1, x2]) h (fun v h' => Z (d + 1) M mr n L (zpush v st) h' Q)) : Z (d + 1) M mr pc L (x2 :: x1 :: x0 :: st) h Q := z_callSN3 (mc := 0) (ms := 0) n dd hn hk hw hst hm kk
end ZC0
theorem z_loop {S : Nat → Prop} (N : Nat) (last : S N) (step : ∀ i, i < N → S (i + 1) → S i) : ∀ i, i ≤ N → S i := by
  intro i hi
  obtain ⟨k, hk⟩ : ∃ k, N = i + k := ⟨N - i, by omega⟩
  induction k generalizing i with
  | zero => rw [show i = N by omega]; exact last
  | succ k ih => exact step i (by omega) (ih (i + 1) (by omega) (by omega))
theorem zup_zup (h : zH) (a : Nat) (c c' : zE) : zup (zup h a c) a c' = zup h a c' := by
  unfold zup; congr 1; funext q; by_cases e : q = a <;> simp [e]
theorem zup_comm (h : zH) {a b : Nat} (c c' : zE) (e : a ≠ b) : zup (zup h a c) b c' = zup (zup h b c') a c := by
  unfold zup; congr 1; funext q
  by_cases e1 : q = a <;> by_cases e2 : q = b
  · omega
  · simp [e1, e]
  · simp [e2, Ne.symm e]
  · simp [e1, e2]
theorem zup_self (h : zH) {a : Nat} {c : zE} (e : h.1 a = some c) : zup h a c = h := by
  unfold zup
  have : (fun q => if q = a then some c else h.1 q) = h.1 := by
    funext q; by_cases e1 : q = a
    · rw [if_pos e1, e1, e]
    · rw [if_neg e1]
  rw [this]
theorem zdef_0 (r : Nat → Nat) (j : Nat) (hj : j < 3) : defaultValue (tyX0 j) = vp_V (List.map (zv r) [vN, vI 0, vI 0]) j := by
  match j, hj with
  | 0, _ => rfl
  | 1, _ => rfl
  | 2, _ => rfl
theorem zdef_1 (r : Nat → Nat) (j : Nat) (hj : j < 1) : defaultValue (tyX1 j) = vp_V (List.map (zv r) [vN]) j := by
  match j, hj with
  | 0, _ => rfl
theorem zdef_2 (r : Nat → Nat) (j : Nat) (hj : j < 3) : defaultValue (tyX2 j) = vp_V (List.map (zv r) [vN, vN, vI 0]) j := by
  match j, hj with
  | 0, _ => rfl
  | 1, _ => rfl
  | 2, _ => rfl
theorem zdef_3 (r : Nat → Nat) (j : Nat) (hj : j < 1) : defaultValue (tyX3 j) = vp_V (List.map (zv r) [vN]) j := by
  match j, hj with
  | 0, _ => rfl
theorem zdef_4 (r : Nat → Nat) (j : Nat) (hj : j < 2) : defaultValue (tyX4 j) = vp_V (List.map (zv r) [vN, vI 0]) j := by
  match j, hj with
  | 0, _ => rfl
  | 1, _ => rfl
theorem zdef_5 (r : Nat → Nat) (j : Nat) (hj : j < 2) : defaultValue (tyX5 j) = vp_V (List.map (zv r) [vN, vI 0]) j := by
  match j, hj with
  | 0, _ => rfl
  | 1, _ => rfl
theorem zdef_6 (r : Nat → Nat) (j : Nat) (hj : j < 7) : defaultValue (tyX6 j) = vp_V (List.map (zv r) [vI 0, vI 0, vI 0, vN, vN, vN, vN]) j := by
  match j, hj with
  | 0, _ => rfl
  | 1, _ => rfl
  | 2, _ => rfl
  | 3, _ => rfl
  | 4, _ => rfl
  | 5, _ => rfl
  | 6, _ => rfl
theorem zdef_7 (r : Nat → Nat) (j : Nat) (hj : j < 2) : defaultValue (tyX7 j) = vp_V (List.map (zv r) [vN, vI 0]) j := by
  match j, hj with
  | 0, _ => rfl
  | 1, _ => rfl
theorem zdef_8 (r : Nat → Nat) (j : Nat) (hj : j < 2) : defaultValue (tyX8 j) = vp_V (List.map (zv r) [vN, vN]) j := by
  match j, hj with
  | 0, _ => rfl
  | 1, _ => rfl
theorem zdef_9 (r : Nat → Nat) (j : Nat) (hj : j < 11) : defaultValue (tyX9 j) = vp_V (List.map (zv r) [vN, vN, vN, vN, vN, vN, vN, vN, vN, vN, vJ 0]) j := by
  match j, hj with
  | 0, _ => rfl
  | 1, _ => rfl
  | 2, _ => rfl
  | 3, _ => rfl
  | 4, _ => rfl
  | 5, _ => rfl
  | 6, _ => rfl
  | 7, _ => rfl
  | 8, _ => rfl
  | 9, _ => rfl
  | 10, _ => rfl
theorem zdef_10 (r : Nat → Nat) (j : Nat) (hj : j < 25) : defaultValue (tyX10 j) = vp_V (List.map (zv r) [vN, vI 0, vI 0, vN, vN, vN, vI 0, vI 0, vN, vN, vN, vN, vI 0, vJ 0, vN, vN, vN, vN, vN, vN, vI 0, vN, vI 0, vI 0, vI 0]) j := by
  have hz : j = 0 ∨ j = 1 ∨ j = 2 ∨ j = 3 ∨ j = 4 ∨ j = 5 ∨ j = 6 ∨ j = 7 ∨ j = 8 ∨ j = 9 ∨ j = 10 ∨ j = 11 ∨ j = 12 ∨ j = 13 ∨ j = 14 ∨ j = 15 ∨ j = 16 ∨ j = 17 ∨ j = 18 ∨ j = 19 ∨ j = 20 ∨ j = 21 ∨ j = 22 ∨ j = 23 ∨ j = 24 := by omega
  rcases hz with rfl | rfl | rfl | rfl | rfl | rfl | rfl | rfl | rfl | rfl | rfl | rfl | rfl | rfl | rfl | rfl | rfl | rfl | rfl | rfl | rfl | rfl | rfl | rfl | rfl <;> rfl
theorem zpl_X0 : plainName RX0 = true := by decide +kernel
theorem zpl_X1 : plainName RX1 = true := by decide +kernel
theorem zpl_X2 : plainName RX2 = true := by decide +kernel
theorem zpl_X3 : plainName RX3 = true := by decide +kernel
theorem zpl_X4 : plainName RX4 = true := by decide +kernel
theorem zpl_X5 : plainName RX5 = true := by decide +kernel
theorem zpl_X6 : plainName RX6 = true := by decide +kernel
theorem zpl_X7 : plainName RX7 = true := by decide +kernel
theorem zpl_X8 : plainName RX8 = true := by decide +kernel
theorem zpl_X9 : plainName RX9 = true := by decide +kernel
theorem zpl_X10 : plainName RX10 = true := by decide +kernel
theorem zpl_J6 : plainName RJ6 = true := by decide +kernel
