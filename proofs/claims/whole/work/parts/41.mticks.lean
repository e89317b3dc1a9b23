/-! THE MODEL: ticks, teller by teller -/
def zfr (D G E P : Int → Int) (N k i : Nat) (t : Int) : Int := (zrow D G E P k (zall D G E P N (fun _ => 0) k) i).2.1 t
section MTICKS
variable {B : Int} {N M : Nat} {D G E P : Int → Int}
theorem zrow_k (h : zOK B N D G E P) (k : Nat) (S : zS) {i : Nat} : ∀ e : Nat, i + 1 + e ≤ N → (zrow D G E P k S (i + 1 + e)).1 (k * 8 + P i) = (zrow D G E P k S (i + 1)).1 (k * 8 + P i) := by
  intro e
  induction e with
  | zero => intro _; rfl
  | succ e ih =>
    intro he
    rw [← ih (by omega)]
    show (zstep D G E k (P ((i + 1 + e : Nat) : Int)) (zrow D G E P k S (i + 1 + e))).1 _ = _
    unfold zstep
    dsimp only
    refine zst_ne _ _ (fun q => ?_)
    have := h.2.2.2.1 i (i + 1 + e) (by omega) (by omega) (by omega)
    omega
theorem zall_k (h : zOK B N D G E P) {K : Int → Int} {k : Nat} {p : Int} (hp : 0 ≤ p ∧ p ≤ 7) : ∀ e : Nat, (zall D G E P N K (k + 1 + e)).1 (k * 8 + p) = (zall D G E P N K (k + 1)).1 (k * 8 + p) := by
  intro e
  induction e with
  | zero => rfl
  | succ e ih =>
    rw [← ih]
    show (zrow D G E P ((k + 1 + e : Nat) : Int) (zall D G E P N K (k + 1 + e)) N).1 _ = _
    refine zrow_o h (k + 1 + e) _ (fun i hi q => ?_) N (Nat.le_refl _)
    have := h.2.2.1 i hi
    have := h.1
    omega
theorem zTK_row (h : zOK B N D G E P) {k : Nat} (hk : k < M) {p : Int} (hp : 0 ≤ p ∧ p ≤ 7) : zTK D G E P N M p k = (zrow D G E P k (zall D G E P N (fun _ => 0) k) N).1 (k * 8 + p) := by
  unfold zTK
  rw [show M = k + 1 + (M - (k + 1)) by omega, zall_k h hp]
  rfl
/-- what stands in the row at the place i, of one who is told before it -/
theorem zTK_at (h : zOK B N D G E P) {k : Nat} (hk : k < M) (hM : M ≤ 3) {i : Nat} (hi : i < N) : (zrow D G E P k (zall D G E P N (fun _ => 0) k) i).1 (k * 8 + E (P i)) = zTK D G E P N M (E (P i)) k := by
  have hN := h.1
  have h8 := h.v8 i hi
  rw [zTK_row h hk (by omega)]
  rcases h.2.2.2.2 i hi with e | ⟨j, hj, e⟩
  · rw [e, zrow_o h k _ (fun j hj q => by have := h.2.2.1 j hj; omega) i (by omega), zrow_o h k _ (fun j hj q => by have := h.2.2.1 j hj; omega) N (Nat.le_refl _)]
  · rw [e]
    have a := zrow_k h k (zall D G E P N (fun _ => 0) k) (i := j) (i - (j + 1)) (by omega)
    have b := zrow_k h k (zall D G E P N (fun _ => 0) k) (i := j) (N - (j + 1)) (by omega)
    rw [show j + 1 + (i - (j + 1)) = i by omega] at a
    rw [show j + 1 + (N - (j + 1)) = N by omega] at b
    rw [a, b]
theorem zTK_eq (h : zOK B N D G E P) {k : Nat} (hk : k < M) (hM : M ≤ 3) {i : Nat} (hi : i < N) : zTK D G E P N M (P i) k = max (zTK D G E P N M (E (P i)) k) (zfr D G E P N k i (E (P i))) + D (E (P i)) := by
  have hN := h.1
  have h8 := h.v8 i hi
  rw [← zTK_at h hk hM hi, zTK_row h hk (by omega)]
  have b := zrow_k h k (zall D G E P N (fun _ => 0) k) (i := i) (N - (i + 1)) (by omega)
  rw [show i + 1 + (N - (i + 1)) = N by omega] at b
  rw [b]
  show (zstep D G E k (P i) (zrow D G E P k _ i)).1 _ = _
  unfold zstep
  dsimp only
  rw [zst_same]
  rfl
theorem zfr_s (h : zOK B N D G E P) {k : Nat} (hk : k < M) (hM : M ≤ 3) {i : Nat} (hi : i < N) (t : Int) : zfr D G E P N k (i + 1) t = if E (P i) = t then max (zTK D G E P N M t k) (zfr D G E P N k i t) + G t else zfr D G E P N k i t := by
  unfold zfr
  show (zstep D G E k (P i) (zrow D G E P k _ i)).2.1 _ = _
  unfold zstep
  dsimp only
  by_cases e : E (P i) = t
  · rw [if_pos e, ← e, zst_same, ← zTK_at h hk hM hi]
    rfl
  · rw [if_neg e, zst_ne _ _ (Ne.symm e)]
theorem zfr_0 (t : Int) : zfr D G E P N 0 0 t = 0 := rfl
theorem zfr_n (k : Nat) (t : Int) : zfr D G E P N (k + 1) 0 t = zfr D G E P N k N t := rfl
theorem zTK_0 (h : zOK B N D G E P) (hB : B ≤ 40) {k : Nat} (hk : k < M) (hM : M ≤ 3) : zTK D G E P N M 0 k = 0 := by
  unfold zTK
  rw [Int.add_zero]
  exact (zall_b h hB ⟨rfl, rfl, rfl⟩ M hM).1 k (by omega)
def zLT (D G E P : Int → Int) (N M : Nat) (TI : Int → Int) (t : Int) (k i : Nat) (T' : Int → Int) (any last : Int) : Prop :=
  ((any = 0 ∧ zfr D G E P N k i t = 0) ∨ (any = 1 ∧ zfr D G E P N k i t = last + G t)) ∧ (0 ≤ last ∧ last ≤ 840) ∧ (∀ i' k' : Nat, i' < N → k' < M → (k' < k ∨ k' = k ∧ i' < i) → E (P i') = t → T' (3 * P i' + k') = zTK D G E P N M (P i') k') ∧ (∀ q : Int, (∀ i' k' : Nat, i' < N → k' < M → E (P i') = t → q ≠ 3 * P i' + k') → T' q = TI q)
variable {TI T' : Int → Int} {t any last : Int} {k i : Nat}
theorem zLT.nxt (hL : zLT D G E P N M TI t k N T' any last) : zLT D G E P N M TI t (k + 1) 0 T' any last := by
  obtain ⟨a1, a2, a3, a4⟩ := hL
  exact ⟨a1, a2, fun i' k' h1 h2 h3 h4 => a3 i' k' h1 h2 (by omega) h4, a4⟩
theorem zLT.skp (h : zOK B N D G E P) (hM : M ≤ 3) (hi : i < N) (hk : k < M) (hL : zLT D G E P N M TI t k i T' any last) (hne : E (P i) ≠ t) : zLT D G E P N M TI t k (i + 1) T' any last := by
  obtain ⟨a1, a2, a3, a4⟩ := hL
  refine ⟨?_, a2, fun i' k' h1 h2 h3 h4 => a3 i' k' h1 h2 ?_ h4, a4⟩
  · rw [zfr_s h hk hM hi t, if_neg hne]; exact a1
  · have : i' ≠ i := fun e => hne (by rw [← e]; exact h4)
    omega
theorem zLT.own (h : zOK B N D G E P) (hM : M ≤ 3) (hk : k < M) (hL : zLT D G E P N M TI t k i T' any last) (h0 : ∀ k : Nat, k < M → TI (3 * t + k) = zTK D G E P N M t k) : T' (3 * t + k) = zTK D G E P N M t k := by
  rw [← h0 k hk]
  refine hL.2.2.2 _ (fun i' k' h1 h2 h3 => ?_)
  have := h.tel h1
  omega
theorem zLT.put (h : zOK B N D G E P) (hB : B ≤ 40) (hM : M ≤ 3) (hi : i < N) (hk : k < M) (hL : zLT D G E P N M TI t k i T' any last) (he : E (P i) = t) {b : Int} (hb : b = max (zTK D G E P N M t k) (zfr D G E P N k i t)) : zLT D G E P N M TI t k (i + 1) (zst T' (3 * P i + k) (b + D t)) 1 b := by
  obtain ⟨a1, a2, a3, a4⟩ := hL
  have e1 := zTK_eq h hk hM hi
  rw [he, ← hb] at e1
  have hp := h.2.2.1 i hi
  have b1 := zTK_b h hB hM (p := P i) (k := k) (by omega) (by omega) hk
  have ht := h.tel hi
  rw [he] at ht
  have b2 := zTK_b h hB hM (p := t) (k := k) ht.1 ht.2.1 hk
  have hd := h.2.1 t ht.1 ht.2.1
  refine ⟨Or.inr ⟨rfl, ?_⟩, ⟨by omega, by omega⟩, fun i' k' h1 h2 h3 h4 => ?_, fun q hq => ?_⟩
  · rw [zfr_s h hk hM hi t, if_pos he, ← hb]
  · by_cases e : i' = i ∧ k' = k
    · obtain ⟨rfl, rfl⟩ := e
      rw [zst_same, e1]
    · have hp' := h.2.2.1 i' h1
      have hj := h.2.2.2.1 i' i h1 hi
      rw [zst_ne]
      · exact a3 i' k' h1 h2 (by omega) h4
      · intro q
        have : P i' = P i := by omega
        have := hj this
        omega
  · rw [zst_ne _ _ (hq i k hi hk he)]
    exact a4 q hq
end MTICKS
section MTICKS2
variable {d : Nat} {h : zH} {Q : Option zV → zH → Prop} {s : zMS} {B : Int} {N M : Nat} {D G E P R TI : Int → Int}
/-- a ROW of the model, and the telling that it holds -/
def zRo (N M : Nat) (D G E P R : Int → Int) : Prop := R 0 = M ∧ (∀ p : Int, 0 ≤ p → p ≤ N → R (1 + p) = D p ∧ R (9 + p) = G p) ∧ (∀ p : Int, 1 ≤ p → p ≤ N → R (17 + p) = E p) ∧ ∀ k : Nat, k < N → R (25 + k) = P k
theorem c_X10_layTold {a : Nat} {t : Int} (hob : h.1 112 = some (zMO s)) (hn : s.n = ((N + 1 : Nat) : Int)) (hr : h.1 a = some (zI 33 R)) (ha : 2 ≤ a ∧ a ≠ 121) (hti : h.1 121 = some (zI 24 TI)) (hR : zRo N M D G E P R) (hO : zOK B N D G E P) (hB : B ≤ 40) (hM : M ≤ 3) (ht : 0 ≤ t ∧ t ≤ N) (h0 : ∀ k : Nat, k < M → TI (3 * t + k) = zTK D G E P N M t k)
    (hQ : ∀ T' : Int → Int, (∀ i k : Nat, i < N → k < M → E (P i) = t → T' (3 * P i + k) = zTK D G E P N M (P i) k) → (∀ q : Int, (∀ i k : Nat, i < N → k < M → E (P i) = t → q ≠ 3 * P i + k) → T' q = TI q) → Q none (zup h 121 (zI 24 T'))) : zC d mX10_layTold 0 0 [vR 112, vR a, vI t] h Q := by
  have hN := hO.1
  obtain ⟨r0, r1, r2, r3⟩ := hR
  have hD := r1 t ht.1 ht.2
  have hd := hO.2.1 t ht.1 ht.2
  have key : ∀ k : Nat, k ≤ M → ∀ (T' : Int → Int) (any last : Int) (o6 o7 o8 : Option zV), zLT D G E P N M TI t k 0 T' any last → Z d mX10_layTold zo 8 [some (vR 112), some (vR a), some (vI t), some (vI any), some (vI last), some (vI k), o6, o7, o8] [] (zup h 121 (zI 24 T')) Q := by
    refine z_loop M ?_ ?_
    · intro T' any last o6 o7 o8 hL
      have wa : (zup h 121 (zI 24 T')).1 a = some (zI 33 R) := by rw [zup_ne _ _ ha.2]; exact hr
      refine z_iload 10 dX10_layTold_8 rfl rfl ?_
      refine z_aload_n 11 dX10_layTold_10 rfl rfl ?_
      refine z_iconst 12 dX10_layTold_11 rfl ?_
      refine z_iald 13 dX10_layTold_12 rfl (by first | with_reducible assumption | with_reducible exact zup_same _ _ _) (by omega) (by first | omega | exact zr_b _ | exact zr_and _ _ | exact zr_or _ _ | exact zr_shl _ _) ?_
      rw [r0]
      refine z_icmp_ge 135 16 dX10_layTold_13 (by decide) rfl (by first | omega | exact zr_b _ | exact zr_and _ _ | exact zr_or _ _ | exact zr_shl _ _) (by first | omega | exact zr_b _ | exact zr_and _ _ | exact zr_or _ _ | exact zr_shl _ _) (fun c13 => ?_) (fun c13 => ?_)
      · refine z_vret dX10_layTold_135 (by first | exact True.intro | exact Or.inl rfl | exact Or.inr rfl | exact zb_01 _ | assumption | (show _ ∨ _; omega)) ⟨Nat.le_refl _, Nat.le_refl _⟩ ?_
        exact hQ T' (fun i k h1 h2 h3 => hL.2.2.1 i k h1 h2 (Or.inl h2) h3) hL.2.2.2
      · exfalso; omega
    · intro k hk ih T' any last o6 o7 o8 hL
      have inn : ∀ i : Nat, i ≤ N → ∀ (T' : Int → Int) (any last : Int) (o7 o8 : Option zV), zLT D G E P N M TI t k i T' any last → Z d mX10_layTold zo 19 [some (vR 112), some (vR a), some (vI t), some (vI any), some (vI last), some (vI k), some (vI i), o7, o8] [] (zup h 121 (zI 24 T')) Q := by
        refine z_loop N ?_ ?_
        · intro T' any last o7 o8 hL
          have w112 : (zup h 121 (zI 24 T')).1 112 = some (zMO s) := by rw [zup_ne _ _ (by decide)]; exact hob
          refine z_iload 21 dX10_layTold_19 rfl rfl ?_
          refine z_aload_n 22 dX10_layTold_21 rfl rfl ?_
          refine z_getf (ci := 10) 25 dX10_layTold_22 rfl rfl zin_10 2 (by decide) zw_766 (by first | with_reducible assumption | with_reducible exact zup_same _ _ _) rfl ?_
          rw [hn]
          refine z_iconst 26 dX10_layTold_25 rfl ?_
          refine z_isub 27 dX10_layTold_26 rfl ?_
          refine z_icmp_ge 129 30 dX10_layTold_27 (by decide) rfl (by first | omega | exact zr_b _ | exact zr_and _ _ | exact zr_or _ _ | exact zr_shl _ _) (by first | omega | exact zr_b _ | exact zr_and _ _ | exact zr_or _ _ | exact zr_shl _ _) (fun c27 => ?_) (fun c27 => ?_)
          · refine z_iinc 132 dX10_layTold_129 rfl (by decide) rfl ?_
            refine z_goto 8 dX10_layTold_132 (by decide) ?_
            exact ih T' any last _ _ _ hL.nxt
          · exfalso; omega
        · intro i hi ihi T' any last o7 o8 hL
          have w112 : (zup h 121 (zI 24 T')).1 112 = some (zMO s) := by rw [zup_ne _ _ (by decide)]; exact hob
          have wa : (zup h 121 (zI 24 T')).1 a = some (zI 33 R) := by rw [zup_ne _ _ ha.2]; exact hr
          have hp := hO.2.2.1 i hi
          have hv := hO.v8 i hi
          have e25 := r3 i hi
          have e17 := r2 (P i) hp.1 hp.2
          have own := hL.own hO hM hk h0
          have b2 := zTK_b hO hB hM (p := t) (k := k) ht.1 ht.2 hk
          have l1 := hL.1
          have l2 := hL.2.1
          have tl : E (P i) = t → ∀ b : Int, b = max (zTK D G E P N M t k) (zfr D G E P N k i t) → Z d mX10_layTold zo 95 [some (vR 112), some (vR a), some (vI t), some (vI any), some (vI last), some (vI k), some (vI i), some (vI (P i)), some (vI (zTK D G E P N M t k))] [vI b] (zup h 121 (zI 24 T')) Q := by
            intro he b hb
            have L2 := hL.put hO hB hM hi hk he hb
            have l3 := L2.2.1
            refine z_istore 97 dX10_layTold_95 rfl (by decide) ?_
            refine z_aload_n 98 dX10_layTold_97 rfl rfl ?_
            refine z_getf (ci := 10) 101 dX10_layTold_98 rfl rfl zin_10 14 (by decide) zw_778 (by first | with_reducible assumption | with_reducible exact zup_same _ _ _) rfl ?_
            refine z_iconst 102 dX10_layTold_101 rfl ?_
            refine z_iload 104 dX10_layTold_102 rfl rfl ?_
            refine z_imul 105 dX10_layTold_104 rfl ?_
            refine z_iload 107 dX10_layTold_105 rfl rfl ?_
            refine z_iadd 108 dX10_layTold_107 rfl ?_
            refine z_iload 110 dX10_layTold_108 rfl rfl ?_
            refine z_aload_n 111 dX10_layTold_110 rfl rfl ?_
            refine z_iconst 112 dX10_layTold_111 rfl ?_
            refine z_iload_n 113 dX10_layTold_112 rfl rfl ?_
            refine z_iadd 114 dX10_layTold_113 rfl ?_
            refine z_iald 115 dX10_layTold_114 rfl (by first | with_reducible assumption | with_reducible exact zup_same _ _ _) (by omega) (by first | omega | exact zr_b _ | exact zr_and _ _ | exact zr_or _ _ | exact zr_shl _ _) ?_
            rw [hD.1]
            refine z_iadd 116 dX10_layTold_115 rfl ?_
            refine z_iast 117 dX10_layTold_116 rfl (by omega) (by first | with_reducible assumption | with_reducible exact zup_same _ _ _) (by omega) (by first | omega | exact zr_b _ | exact zr_and _ _ | exact zr_or _ _ | exact zr_shl _ _) ?_
            refine z_iload 119 dX10_layTold_117 rfl rfl ?_
            refine z_istore 121 dX10_layTold_119 rfl (by decide) ?_
            refine z_iconst 122 dX10_layTold_121 rfl ?_
            refine z_istore_n 123 dX10_layTold_122 rfl (by decide) ?_
            refine z_iinc 126 dX10_layTold_123 rfl (by decide) rfl ?_
            refine z_goto 19 dX10_layTold_126 (by decide) ?_
            have k := ihi _ 1 b (some (vI (P i))) (some (vI b)) L2
            rw [← zup_zup h 121 (zI 24 T')] at k
            exact k
          refine z_iload 21 dX10_layTold_19 rfl rfl ?_
          refine z_aload_n 22 dX10_layTold_21 rfl rfl ?_
          refine z_getf (ci := 10) 25 dX10_layTold_22 rfl rfl zin_10 2 (by decide) zw_766 (by first | with_reducible assumption | with_reducible exact zup_same _ _ _) rfl ?_
          rw [hn]
          refine z_iconst 26 dX10_layTold_25 rfl ?_
          refine z_isub 27 dX10_layTold_26 rfl ?_
          refine z_icmp_ge 129 30 dX10_layTold_27 (by decide) rfl (by first | omega | exact zr_b _ | exact zr_and _ _ | exact zr_or _ _ | exact zr_shl _ _) (by first | omega | exact zr_b _ | exact zr_and _ _ | exact zr_or _ _ | exact zr_shl _ _) (fun c27 => ?_) (fun c27 => ?_)
          · exfalso; omega
          · refine z_aload_n 31 dX10_layTold_30 rfl rfl ?_
            refine z_bipush 33 dX10_layTold_31 rfl (by decide) ?_
            refine z_iload 35 dX10_layTold_33 rfl rfl ?_
            refine z_iadd 36 dX10_layTold_35 rfl ?_
            refine z_iald 37 dX10_layTold_36 rfl (by first | with_reducible assumption | with_reducible exact zup_same _ _ _) (by omega) (by first | omega | exact zr_b _ | exact zr_and _ _ | exact zr_or _ _ | exact zr_shl _ _) ?_
            rw [e25]
            refine z_istore 39 dX10_layTold_37 rfl (by decide) ?_
            refine z_aload_n 40 dX10_layTold_39 rfl rfl ?_
            refine z_bipush 42 dX10_layTold_40 rfl (by decide) ?_
            refine z_iload 44 dX10_layTold_42 rfl rfl ?_
            refine z_iadd 45 dX10_layTold_44 rfl ?_
            refine z_iald 46 dX10_layTold_45 rfl (by first | with_reducible assumption | with_reducible exact zup_same _ _ _) (by omega) (by first | omega | exact zr_b _ | exact zr_and _ _ | exact zr_or _ _ | exact zr_shl _ _) ?_
            rw [e17]
            refine z_iload_n 47 dX10_layTold_46 rfl rfl ?_
            refine z_icmp_ne 123 50 dX10_layTold_47 (by decide) rfl (by first | omega | exact zr_b _ | exact zr_and _ _ | exact zr_or _ _ | exact zr_shl _ _) (by first | omega | exact zr_b _ | exact zr_and _ _ | exact zr_or _ _ | exact zr_shl _ _) (fun c47 => ?_) (fun c47 => ?_)
            · refine z_iinc 126 dX10_layTold_123 rfl (by decide) rfl ?_
              refine z_goto 19 dX10_layTold_126 (by decide) ?_
              exact ihi T' any last _ _ (hL.skp hO hM hi hk c47)
            · refine z_aload_n 51 dX10_layTold_50 rfl rfl ?_
              refine z_getf (ci := 10) 54 dX10_layTold_51 rfl rfl zin_10 14 (by decide) zw_778 (by first | with_reducible assumption | with_reducible exact zup_same _ _ _) rfl ?_
              refine z_iconst 55 dX10_layTold_54 rfl ?_
              refine z_iload_n 56 dX10_layTold_55 rfl rfl ?_
              refine z_imul 57 dX10_layTold_56 rfl ?_
              refine z_iload 59 dX10_layTold_57 rfl rfl ?_
              refine z_iadd 60 dX10_layTold_59 rfl ?_
              refine z_iald 61 dX10_layTold_60 rfl (by first | with_reducible assumption | with_reducible exact zup_same _ _ _) (by omega) (by first | omega | exact zr_b _ | exact zr_and _ _ | exact zr_or _ _ | exact zr_shl _ _) ?_
              rw [own]
              refine z_istore 63 dX10_layTold_61 rfl (by decide) ?_
              refine z_iload_n 64 dX10_layTold_63 rfl rfl ?_
              refine z_if_eq 93 67 dX10_layTold_64 (by decide) rfl (by first | omega | exact zr_b _ | exact zr_and _ _ | exact zr_or _ _ | exact zr_shl _ _) (fun c64 => ?_) (fun c64 => ?_)
              · try replace c64 := zb_0 c64
                refine z_iload 95 dX10_layTold_93 rfl rfl ?_
                exact tl (by omega) _ (by omega)
              · try replace c64 := zb_1 c64
                refine z_iload 69 dX10_layTold_67 rfl rfl ?_
                refine z_aload_n 70 dX10_layTold_69 rfl rfl ?_
                refine z_bipush 72 dX10_layTold_70 rfl (by decide) ?_
                refine z_iload_n 73 dX10_layTold_72 rfl rfl ?_
                refine z_iadd 74 dX10_layTold_73 rfl ?_
                refine z_iald 75 dX10_layTold_74 rfl (by first | with_reducible assumption | with_reducible exact zup_same _ _ _) (by omega) (by first | omega | exact zr_b _ | exact zr_and _ _ | exact zr_or _ _ | exact zr_shl _ _) ?_
                rw [hD.2]
                refine z_iadd 76 dX10_layTold_75 rfl ?_
                refine z_iload 78 dX10_layTold_76 rfl rfl ?_
                refine z_icmp_le 93 81 dX10_layTold_78 (by decide) rfl (by first | omega | exact zr_b _ | exact zr_and _ _ | exact zr_or _ _ | exact zr_shl _ _) (by first | omega | exact zr_b _ | exact zr_and _ _ | exact zr_or _ _ | exact zr_shl _ _) (fun c78 => ?_) (fun c78 => ?_)
                · refine z_iload 95 dX10_layTold_93 rfl rfl ?_
                  exact tl (by omega) _ (by omega)
                · refine z_iload 83 dX10_layTold_81 rfl rfl ?_
                  refine z_aload_n 84 dX10_layTold_83 rfl rfl ?_
                  refine z_bipush 86 dX10_layTold_84 rfl (by decide) ?_
                  refine z_iload_n 87 dX10_layTold_86 rfl rfl ?_
                  refine z_iadd 88 dX10_layTold_87 rfl ?_
                  refine z_iald 89 dX10_layTold_88 rfl (by first | with_reducible assumption | with_reducible exact zup_same _ _ _) (by omega) (by first | omega | exact zr_b _ | exact zr_and _ _ | exact zr_or _ _ | exact zr_shl _ _) ?_
                  rw [hD.2]
                  refine z_iadd 90 dX10_layTold_89 rfl ?_
                  refine z_goto 95 dX10_layTold_90 (by decide) ?_
                  exact tl (by omega) _ (by omega)
      have wa : (zup h 121 (zI 24 T')).1 a = some (zI 33 R) := by rw [zup_ne _ _ ha.2]; exact hr
      refine z_iload 10 dX10_layTold_8 rfl rfl ?_
      refine z_aload_n 11 dX10_layTold_10 rfl rfl ?_
      refine z_iconst 12 dX10_layTold_11 rfl ?_
      refine z_iald 13 dX10_layTold_12 rfl (by first | with_reducible assumption | with_reducible exact zup_same _ _ _) (by omega) (by first | omega | exact zr_b _ | exact zr_and _ _ | exact zr_or _ _ | exact zr_shl _ _) ?_
      rw [r0]
      refine z_icmp_ge 135 16 dX10_layTold_13 (by decide) rfl (by first | omega | exact zr_b _ | exact zr_and _ _ | exact zr_or _ _ | exact zr_shl _ _) (by first | omega | exact zr_b _ | exact zr_and _ _ | exact zr_or _ _ | exact zr_shl _ _) (fun c13 => ?_) (fun c13 => ?_)
      · exfalso; omega
      · refine z_iconst 17 dX10_layTold_16 rfl ?_
        refine z_istore 19 dX10_layTold_17 rfl (by decide) ?_
        exact inn 0 (Nat.zero_le _) T' any last o7 o8 hL
  refine zC.of zpl_X10 (Nat.le_of_ble_eq_true rfl) ?_
  refine z_iconst 1 dX10_layTold_0 rfl ?_
  refine z_istore_n 2 dX10_layTold_1 rfl (by decide) ?_
  refine z_iconst 3 dX10_layTold_2 rfl ?_
  refine z_istore 5 dX10_layTold_3 rfl (by decide) ?_
  refine z_iconst 6 dX10_layTold_5 rfl ?_
  refine z_istore 8 dX10_layTold_6 rfl (by decide) ?_
  have k := key 0 (Nat.zero_le _) TI 0 0 none none none ⟨Or.inl ⟨rfl, rfl⟩, by omega, fun i' k' _ _ h3 _ => by exfalso; omega, fun _ _ => rfl⟩
  rw [zup_self h hti] at k
  exact k
end MTICKS2
