/-! THE MODEL: best -/
section MBEST
variable {d : Nat} {h : zH} {Q : Option zV → zH → Prop} {C : Int → Int} {l : Int} {N M : Nat} {D G E P R TR DI : Int → Int} {ac nx : Int} {KP IK SW ST : Int → Int} {sn sd : Int} {TI WH BG OD WO MA : Int → Int} {rp : Int} {RD : Int → Int} {rs rm rw : Int}
set_option maxHeartbeats 1000000 in
theorem c_X10_lateBy {num : Nat} (hW : zMW h (C, l, ((N + 1 : Nat) : Int), R, TR, DI, ac, nx, KP, IK, SW, ST, sn, sd, TI, WH, BG, OD, WO, MA, rp, RD, rs, rm, rw)) (hR : zRo N M D G E P R) (hO : zOK 9 N D G E P) (hnum : num ≤ 100000)
    (hQ : ∀ (h' : zH) (WH BG OD : Int → Int) (r : Int), zMW h' (C, l, ((N + 1 : Nat) : Int), R, TR, DI, ac, nx, KP, IK, SW, ST, sn, sd, TI, WH, BG, OD, WO, MA, rp, RD, rs, rm, rw) → zMod 112 127 h h' → zAN D G N N num (fun _ => D 0) 1 (fun _ => 0) 0 r → (0 ≤ r ∧ r ≤ 1000) → Q (some (vI r)) h') : zC (d + 3) mX10_lateBy 0 0 [vR 112, vI num] h Q := by
  have hN := hO.1
  have key : ∀ k : Nat, k ≤ N → ∀ (h' : zH) (WH BG OA OS V : Int → Int) (left : Nat) (last w : Int) (o5 o6 o7 o8 o9 : Option zV), zMW h' (C, l, ((N + 1 : Nat) : Int), R, TR, DI, ac, nx, KP, IK, SW, ST, sn, sd, TI, WH, BG, OA, WO, MA, rp, RD, rs, rm, rw) → zMod 112 127 h h' → zQR N D G V w WH BG → zVd N k w OS → (∀ i : Nat, i ≤ k → OA i = OS i) → (∀ p : Int, 0 ≤ p → p ≤ N → zkb w p = true → 0 ≤ V p ∧ V p ≤ 100 + 20 * k) → (0 ≤ last ∧ last ≤ 100 + 20 * k) → left ≤ 100000 → (∀ r : Int, zAN D G N (N - k) left V w OS last r → zAN D G N N num (fun _ => D 0) 1 (fun _ => 0) 0 r) → Z (d + 3) mX10_lateBy zo 18 [some (vR 112), some (vI num), some (vI left), some (vI last), some (vI k), o5, o6, o7, o8, o9] [] h' Q := by
    refine z_loop N ?_ ?_
    · intro h' WH BG OA OS V left last w o5 o6 o7 o8 o9 hW hF hQR hv hOA hV hl hle hA
      have w112 := hW.c112
      dsimp only [zMO, zMS.C, zMS.l, zMS.n, zMS.R, zMS.TR, zMS.DI, zMS.ac, zMS.nx, zMS.KP, zMS.IK, zMS.SW, zMS.ST, zMS.sn, zMS.sd, zMS.TI, zMS.WH, zMS.BG, zMS.OD, zMS.WO, zMS.MA, zMS.rp, zMS.RD, zMS.rs, zMS.rm, zMS.rw, zMS.uC, zMS.ul, zMS.un, zMS.uR, zMS.uTR, zMS.uDI, zMS.uac, zMS.unx, zMS.uKP, zMS.uIK, zMS.uSW, zMS.uST, zMS.usn, zMS.usd, zMS.uTI, zMS.uWH, zMS.uBG, zMS.uOD, zMS.uWO, zMS.uMA, zMS.urp, zMS.uRD, zMS.urs, zMS.urm, zMS.urw] at w112
      refine z_iload 20 dX10_lateBy_18 rfl rfl ?_
      refine z_aload_n 21 dX10_lateBy_20 rfl rfl ?_
      refine z_getf (ci := 10) 24 dX10_lateBy_21 rfl rfl zin_10 2 (by decide) zw_766 (by first | with_reducible assumption | with_reducible exact zup_same _ _ _) rfl ?_
      refine z_iconst 25 dX10_lateBy_24 rfl ?_
      refine z_isub 26 dX10_lateBy_25 rfl ?_
      refine z_icmp_ge 154 29 dX10_lateBy_26 (by decide) rfl (by first | omega | exact zr_b _ | exact zr_and _ _ | exact zr_or _ _ | exact zr_shl _ _) (by first | omega | exact zr_b _ | exact zr_and _ _ | exact zr_or _ _ | exact zr_shl _ _) (fun c26 => ?_) (fun c26 => ?_)
      · refine z_iload_n 155 dX10_lateBy_154 rfl rfl ?_
        refine z_ret dX10_lateBy_155 (by first | exact True.intro | exact Or.inl rfl | exact Or.inr rfl | exact zb_01 _ | assumption | (show _ ∨ _; omega)) ⟨Nat.le_refl _, Nat.le_refl _⟩ ?_
        exact hQ _ _ _ _ _ hW hF (hA last (by rw [Nat.sub_self]; rfl)) (by omega)
      · exfalso; omega
    · intro k hk ih h' WH BG OA OS V left last w o5 o6 o7 o8 o9 hW hF hQR hv hOA hV hl hle hA
      obtain ⟨j, hj⟩ : ∃ j, N = k + (j + 1) := ⟨N - k - 1, by omega⟩
      have hb : left / (j + 1) % (k + 1) < k + 1 := Nat.mod_lt _ (by omega)
      have hw0 : left % (j + 1) < j + 1 := Nat.mod_lt _ (by omega)
      have hleft2 : left / (j + 1) ≤ left := Nat.div_le_self _ _
      have hleft3 : left / (j + 1) / (k + 1) ≤ left / (j + 1) := Nat.div_le_self _ _
      have eb := hOA (left / (j + 1) % (k + 1)) (by omega)
      have ht := hv.2.1 (left / (j + 1) % (k + 1)) (by omega)
      have hcN := hv.2.2.2
      have q1 : (left : Int) % ((j + 1 : Nat) : Int) = ((left % (j + 1) : Nat) : Int) := by simp
      have q2 : (left : Int) / ((j + 1 : Nat) : Int) = ((left / (j + 1) : Nat) : Int) := by simp
      have q3 : ((left / (j + 1) : Nat) : Int) % ((k : Int) + 1) = ((left / (j + 1) % (k + 1) : Nat) : Int) := by simp
      have q4 : ((left / (j + 1) : Nat) : Int) / ((k : Int) + 1) = ((left / (j + 1) / (k + 1) : Nat) : Int) := by simp
      rw [show N - k = j + 1 by omega] at hA
      have hA' : ∀ (p : Nat) (r : Int), 1 ≤ p → p ≤ N → zkb w p = false → zcu w p = left % (j + 1) + 1 → zAN D G N j (left / (j + 1) / (k + 1)) (ztV V D G (OS ((left / (j + 1) % (k + 1) : Nat) : Int)) p) (zor w (zshl 1 p)) (zst OS ((k + 1 : Nat) : Int) p) (max last (V (OS ((left / (j + 1) % (k + 1) : Nat) : Int)))) r → zAN D G N N num (fun _ => D 0) 1 (fun _ => 0) 0 r := fun p r p1 p2 p3 p4 p5 => hA r ⟨p, p1, p2, p3, p4, by rw [show N - j = k + 1 by omega]; exact p5⟩
      generalize hwho : left % (j + 1) = who at hw0 q1 hA'
      generalize hl1 : left / (j + 1) = left1 at hb hleft2 hleft3 eb ht q2 q3 q4 hA'
      generalize hby : left1 % (k + 1) = by' at hb eb ht q3 hA'
      generalize hl2 : left1 / (k + 1) = left2 at hleft3 q4 hA'
      generalize htt : OS (by' : Int) = t at eb ht hA'
      have w112 := hW.c112
      dsimp only [zMO, zMS.C, zMS.l, zMS.n, zMS.R, zMS.TR, zMS.DI, zMS.ac, zMS.nx, zMS.KP, zMS.IK, zMS.SW, zMS.ST, zMS.sn, zMS.sd, zMS.TI, zMS.WH, zMS.BG, zMS.OD, zMS.WO, zMS.MA, zMS.rp, zMS.RD, zMS.rs, zMS.rm, zMS.rw, zMS.uC, zMS.ul, zMS.un, zMS.uR, zMS.uTR, zMS.uDI, zMS.uac, zMS.unx, zMS.uKP, zMS.uIK, zMS.uSW, zMS.uST, zMS.usn, zMS.usd, zMS.uTI, zMS.uWH, zMS.uBG, zMS.uOD, zMS.uWO, zMS.uMA, zMS.urp, zMS.uRD, zMS.urs, zMS.urm, zMS.urw] at w112
      have w114 := hW.c114
      dsimp only [zMO, zMS.C, zMS.l, zMS.n, zMS.R, zMS.TR, zMS.DI, zMS.ac, zMS.nx, zMS.KP, zMS.IK, zMS.SW, zMS.ST, zMS.sn, zMS.sd, zMS.TI, zMS.WH, zMS.BG, zMS.OD, zMS.WO, zMS.MA, zMS.rp, zMS.RD, zMS.rs, zMS.rm, zMS.rw, zMS.uC, zMS.ul, zMS.un, zMS.uR, zMS.uTR, zMS.uDI, zMS.uac, zMS.unx, zMS.uKP, zMS.uIK, zMS.uSW, zMS.uST, zMS.usn, zMS.usd, zMS.uTI, zMS.uWH, zMS.uBG, zMS.uOD, zMS.uWO, zMS.uMA, zMS.urp, zMS.uRD, zMS.urs, zMS.urm, zMS.urw] at w114
      have w122 := hW.c122
      dsimp only [zMO, zMS.C, zMS.l, zMS.n, zMS.R, zMS.TR, zMS.DI, zMS.ac, zMS.nx, zMS.KP, zMS.IK, zMS.SW, zMS.ST, zMS.sn, zMS.sd, zMS.TI, zMS.WH, zMS.BG, zMS.OD, zMS.WO, zMS.MA, zMS.rp, zMS.RD, zMS.rs, zMS.rm, zMS.rw, zMS.uC, zMS.ul, zMS.un, zMS.uR, zMS.uTR, zMS.uDI, zMS.uac, zMS.unx, zMS.uKP, zMS.uIK, zMS.uSW, zMS.uST, zMS.usn, zMS.usd, zMS.uTI, zMS.uWH, zMS.uBG, zMS.uOD, zMS.uWO, zMS.uMA, zMS.urp, zMS.uRD, zMS.urs, zMS.urm, zMS.urw] at w122
      have w124 := hW.c124
      dsimp only [zMO, zMS.C, zMS.l, zMS.n, zMS.R, zMS.TR, zMS.DI, zMS.ac, zMS.nx, zMS.KP, zMS.IK, zMS.SW, zMS.ST, zMS.sn, zMS.sd, zMS.TI, zMS.WH, zMS.BG, zMS.OD, zMS.WO, zMS.MA, zMS.rp, zMS.RD, zMS.rs, zMS.rm, zMS.rw, zMS.uC, zMS.ul, zMS.un, zMS.uR, zMS.uTR, zMS.uDI, zMS.uac, zMS.unx, zMS.uKP, zMS.uIK, zMS.uSW, zMS.uST, zMS.usn, zMS.usd, zMS.uTI, zMS.uWH, zMS.uBG, zMS.uOD, zMS.uWO, zMS.uMA, zMS.urp, zMS.uRD, zMS.urs, zMS.urm, zMS.urw] at w124
      have fin : ∀ (p : Nat) (o9 : Option zV), 1 ≤ p → p ≤ N → zkb w p = false → zcu w p = who + 1 → Z (d + 3) mX10_lateBy zo 105 [some (vR 112), some (vI num), some (vI left2), some (vI last), some (vI k), some (vI ((j + 1 : Nat) : Int)), some (vI who), some (vI by'), some (vI p), o9] [] h' Q := by
        intro p o9 p1 p2 p3 p4
        have hT := hQR.tell hN ⟨ht.1, ht.2.1⟩ (show 0 ≤ (p : Int) ∧ (p : Int) ≤ N by omega) ht.2.2 p3 (hV t ht.1 ht.2.1 ht.2.2).1
        have rt := hR.2.1 t ht.1 ht.2.1
        have hVt := hV t ht.1 ht.2.1 ht.2.2
        have eV := ((hQR t ht.1 ht.2.1).1 ht.2.2).2.2
        have hv2 := hv.nx hN ⟨p1, p2⟩ p3
        have dp := hO.2.1 p (by omega) (by omega)
        have dt := hO.2.1 t ht.1 ht.2.1
        have htp : t ≠ p := fun e => by rw [e, p3] at ht; exact absurd ht.2.2 (by decide)
        have nx : ∀ (h2 : zH) (WH2 BG2 : Int → Int) (last2 : Int) (o5 o6 o7 o8 o9 : Option zV), zMW h2 (C, l, ((N + 1 : Nat) : Int), R, TR, DI, ac, nx, KP, IK, SW, ST, sn, sd, TI, WH2, BG2, zst OA ((k : Int) + 1) p, WO, MA, rp, RD, rs, rm, rw) → zMod 112 127 h h2 → WH2 = zst WH p (WH t + BG t * G t + D t) → BG2 = zst BG t (BG t + 1) → last2 = max last (V t) → Z (d + 3) mX10_lateBy zo 18 [some (vR 112), some (vI num), some (vI left2), some (vI last2), some (vI ((k : Int) + 1)), o5, o6, o7, o8, o9] [] h2 Q := by
          intro h2 WH2 BG2 last2 o5 o6 o7 o8 o9 hW2 hF2 e1 e2 e3
          subst e1 e2 e3
          refine ih h2 _ _ _ (zst OS ((k + 1 : Nat) : Int) p) (ztV V D G t p) left2 _ (zor w (zshl 1 p)) o5 o6 o7 o8 o9 hW2 hF2 hT hv2 (fun i hi => ?_) (fun q qa qb qk => ?_) (by omega) (by omega) (fun r hr => hA' p r p1 p2 p3 p4 (by rw [show N - (k + 1) = j by omega] at hr; exact hr))
          · by_cases e : i = k + 1
            · subst e; rw [zst_same]; exact zst_same _ _ _
            · rw [zst_ne _ _ (by omega), zst_ne _ _ (by omega)]; exact hOA i (by omega)
          · by_cases e1 : q = p
            · rw [e1, ztV_p]; omega
            · by_cases e2 : q = t
              · rw [e2, ztV_a _ _ _ htp]; omega
              · rw [ztV_q _ _ _ e1 e2]
                rcases (zkb_orT (by omega) (by omega)).mp qk with k' | k'
                · have := hV q qa qb k'; omega
                · exact absurd k' e1
        refine z_aload_n 106 dX10_lateBy_105 rfl rfl ?_
        refine z_aload_n 107 dX10_lateBy_106 rfl rfl ?_
        refine z_getf (ci := 10) 110 dX10_lateBy_107 rfl rfl zin_10 3 (by decide) zw_767 (by first | with_reducible assumption | with_reducible exact zup_same _ _ _) rfl ?_
        refine z_aload_n 111 dX10_lateBy_110 rfl rfl ?_
        refine z_getf (ci := 10) 114 dX10_lateBy_111 rfl rfl zin_10 17 (by decide) zw_781 (by first | with_reducible assumption | with_reducible exact zup_same _ _ _) rfl ?_
        refine z_iload 116 dX10_lateBy_114 rfl rfl ?_
        refine z_iald 117 dX10_lateBy_116 rfl (by first | with_reducible assumption | with_reducible exact zup_same _ _ _) (by omega) (by first | omega | exact zr_b _ | exact zr_and _ _ | exact zr_or _ _ | exact zr_shl _ _) ?_
        rw [eb]
        refine z_iload 119 dX10_lateBy_117 rfl rfl ?_
        refine z_cV3 122 dX10_lateBy_119 rfl kX10_tell zw_923 (Nat.le_of_ble_eq_true rfl) ⟨Nat.le_refl _, Nat.le_refl _⟩ (by first | with_reducible assumption | with_reducible exact zup_same _ _ _) ?_
        refine c_X10_tell (WH := WH) (BG := BG) (R := R) hW.c112 hW.c122 hW.c123 hW.c114 (by decide) (by omega) (by omega) ?_
        rw [rt.1, rt.2]
        have hWa := (hW.s122 (zst WH p (WH t + BG t * G t + D t))).s123 (zst BG t (BG t + 1))
        have w112 := hWa.c112
        dsimp only [zMO, zMS.C, zMS.l, zMS.n, zMS.R, zMS.TR, zMS.DI, zMS.ac, zMS.nx, zMS.KP, zMS.IK, zMS.SW, zMS.ST, zMS.sn, zMS.sd, zMS.TI, zMS.WH, zMS.BG, zMS.OD, zMS.WO, zMS.MA, zMS.rp, zMS.RD, zMS.rs, zMS.rm, zMS.rw, zMS.uC, zMS.ul, zMS.un, zMS.uR, zMS.uTR, zMS.uDI, zMS.uac, zMS.unx, zMS.uKP, zMS.uIK, zMS.uSW, zMS.uST, zMS.usn, zMS.usd, zMS.uTI, zMS.uWH, zMS.uBG, zMS.uOD, zMS.uWO, zMS.uMA, zMS.urp, zMS.uRD, zMS.urs, zMS.urm, zMS.urw] at w112
        have w124 := hWa.c124
        dsimp only [zMO, zMS.C, zMS.l, zMS.n, zMS.R, zMS.TR, zMS.DI, zMS.ac, zMS.nx, zMS.KP, zMS.IK, zMS.SW, zMS.ST, zMS.sn, zMS.sd, zMS.TI, zMS.WH, zMS.BG, zMS.OD, zMS.WO, zMS.MA, zMS.rp, zMS.RD, zMS.rs, zMS.rm, zMS.rw, zMS.uC, zMS.ul, zMS.un, zMS.uR, zMS.uTR, zMS.uDI, zMS.uac, zMS.unx, zMS.uKP, zMS.uIK, zMS.uSW, zMS.uST, zMS.usn, zMS.usd, zMS.uTI, zMS.uWH, zMS.uBG, zMS.uOD, zMS.uWO, zMS.uMA, zMS.urp, zMS.uRD, zMS.urs, zMS.urm, zMS.urw] at w124
        refine z_istore 124 dX10_lateBy_122 rfl (by decide) ?_
        refine z_aload_n 125 dX10_lateBy_124 rfl rfl ?_
        refine z_getf (ci := 10) 128 dX10_lateBy_125 rfl rfl zin_10 17 (by decide) zw_781 (by first | with_reducible assumption | with_reducible exact zup_same _ _ _) rfl ?_
        refine z_iload 130 dX10_lateBy_128 rfl rfl ?_
        refine z_iconst 131 dX10_lateBy_130 rfl ?_
        refine z_iadd 132 dX10_lateBy_131 rfl ?_
        refine z_iload 134 dX10_lateBy_132 rfl rfl ?_
        refine z_iast 135 dX10_lateBy_134 rfl (by omega) (by first | with_reducible assumption | with_reducible exact zup_same _ _ _) (by omega) (by first | omega | exact zr_b _ | exact zr_and _ _ | exact zr_or _ _ | exact zr_shl _ _) ?_
        refine z_iload 137 dX10_lateBy_135 rfl rfl ?_
        refine z_iload_n 138 dX10_lateBy_137 rfl rfl ?_
        refine z_icmp_le 146 141 dX10_lateBy_138 (by decide) rfl (by first | omega | exact zr_b _ | exact zr_and _ _ | exact zr_or _ _ | exact zr_shl _ _) (by first | omega | exact zr_b _ | exact zr_and _ _ | exact zr_or _ _ | exact zr_shl _ _) (fun c138 => ?_) (fun c138 => ?_)
        · refine z_iload_n 147 dX10_lateBy_146 rfl rfl ?_
          refine z_istore_n 148 dX10_lateBy_147 rfl (by decide) ?_
          refine z_iinc 151 dX10_lateBy_148 rfl (by decide) rfl ?_
          refine z_goto 18 dX10_lateBy_151 (by decide) ?_
          exact nx _ _ _ _ _ _ _ _ _ (hWa.s124 _) (((hF.up _ (by omega)).up _ (by omega)).up _ (by omega)) rfl rfl (by omega)
        · refine z_iload 143 dX10_lateBy_141 rfl rfl ?_
          refine z_goto 147 dX10_lateBy_143 (by decide) ?_
          refine z_istore_n 148 dX10_lateBy_147 rfl (by decide) ?_
          refine z_iinc 151 dX10_lateBy_148 rfl (by decide) rfl ?_
          refine z_goto 18 dX10_lateBy_151 (by decide) ?_
          exact nx _ _ _ _ _ _ _ _ _ (hWa.s124 _) (((hF.up _ (by omega)).up _ (by omega)).up _ (by omega)) rfl rfl (by omega)
      have hK : ∀ p : Nat, p ≤ N → (zkb w p = true → 0 ≤ WH p ∧ WH p ≤ 100 + 20 * k) ∧ (zkb w p = false → WH p = -9) := fun p hp => by
        have hq := hQR p (by omega) (by omega)
        refine ⟨fun e => ?_, fun e => (hq.2 e).1⟩
        obtain ⟨a1, a2, a3⟩ := hq.1 e
        have b := hV p (by omega) (by omega) e
        have dd := hO.2.1 p (by omega) (by omega)
        have := Int.mul_nonneg a2 (show 0 ≤ G p by omega)
        omega
      have scan : ∀ (e p m : Nat) (more : Int), N - p = e → 1 ≤ p → p ≤ N → zcu w (p - 1) = m → m < zcu w N → (∀ q : Nat, 1 ≤ q → q ≤ N → zkb w q = false → zcu w q = m + 1 → Z (d + 3) mX10_lateBy zo 99 [some (vR 112), some (vI num), some (vI left2), some (vI last), some (vI k), some (vI ((j + 1 : Nat) : Int)), some (vI who), some (vI by'), some (vI q), some (vI more)] [] h' Q) → Z (d + 3) mX10_lateBy zo 81 [some (vR 112), some (vI num), some (vI left2), some (vI last), some (vI k), some (vI ((j + 1 : Nat) : Int)), some (vI who), some (vI by'), some (vI p), some (vI more)] [] h' Q := by
        intro e
        induction e with
        | zero =>
          intro p m more he p1 p2 hm hmN cont
          have hpN : p = N := by omega
          subst hpN
          have kp : zkb w p = false := by
            cases hz : zkb w p with
            | false => rfl
            | true =>
              exfalso
              obtain ⟨i, rfl⟩ : ∃ i, p = i + 1 := ⟨p - 1, by omega⟩
              have : zcu w (i + 1) = zcu w i + 0 := by show zcu w i + _ = _; rw [if_pos hz]
              rw [show i + 1 - 1 = i by omega] at hm
              omega
          have wq := (hK p (by omega)).2 kp
          have cq := zcu_at p1 kp
          refine z_aload_n 82 dX10_lateBy_81 rfl rfl ?_
          refine z_getf (ci := 10) 85 dX10_lateBy_82 rfl rfl zin_10 15 (by decide) zw_779 (by first | with_reducible assumption | with_reducible exact zup_same _ _ _) rfl ?_
          refine z_iload 87 dX10_lateBy_85 rfl rfl ?_
          refine z_iald 88 dX10_lateBy_87 rfl (by first | with_reducible assumption | with_reducible exact zup_same _ _ _) (by omega) (by first | omega | exact zr_b _ | exact zr_and _ _ | exact zr_or _ _ | exact zr_shl _ _) ?_
          rw [wq]
          refine z_bipush 90 dX10_lateBy_88 rfl (by decide) ?_
          refine z_icmp_eq 99 93 dX10_lateBy_90 (by decide) rfl (by first | omega | exact zr_b _ | exact zr_and _ _ | exact zr_or _ _ | exact zr_shl _ _) (by first | omega | exact zr_b _ | exact zr_and _ _ | exact zr_or _ _ | exact zr_shl _ _) (fun c90 => ?_) (fun c90 => ?_)
          · exact cont p p1 p2 kp (by omega)
          · exfalso; omega
        | succ e ihe =>
          intro p m more he p1 p2 hm hmN cont
          cases hz : zkb w p with
          | false =>
            have wq := (hK p (by omega)).2 hz
            have cq := zcu_at p1 hz
            refine z_aload_n 82 dX10_lateBy_81 rfl rfl ?_
            refine z_getf (ci := 10) 85 dX10_lateBy_82 rfl rfl zin_10 15 (by decide) zw_779 (by first | with_reducible assumption | with_reducible exact zup_same _ _ _) rfl ?_
            refine z_iload 87 dX10_lateBy_85 rfl rfl ?_
            refine z_iald 88 dX10_lateBy_87 rfl (by first | with_reducible assumption | with_reducible exact zup_same _ _ _) (by omega) (by first | omega | exact zr_b _ | exact zr_and _ _ | exact zr_or _ _ | exact zr_shl _ _) ?_
            rw [wq]
            refine z_bipush 90 dX10_lateBy_88 rfl (by decide) ?_
            refine z_icmp_eq 99 93 dX10_lateBy_90 (by decide) rfl (by first | omega | exact zr_b _ | exact zr_and _ _ | exact zr_or _ _ | exact zr_shl _ _) (by first | omega | exact zr_b _ | exact zr_and _ _ | exact zr_or _ _ | exact zr_shl _ _) (fun c90 => ?_) (fun c90 => ?_)
            · exact cont p p1 p2 hz (by omega)
            · exfalso; omega
          | true =>
            have wq := (hK p (by omega)).1 hz
            have hcp : zcu w p = zcu w (p - 1) := by
              obtain ⟨i, rfl⟩ : ∃ i, p = i + 1 := ⟨p - 1, by omega⟩
              show zcu w i + _ = _
              rw [if_pos hz]; rfl
            refine z_aload_n 82 dX10_lateBy_81 rfl rfl ?_
            refine z_getf (ci := 10) 85 dX10_lateBy_82 rfl rfl zin_10 15 (by decide) zw_779 (by first | with_reducible assumption | with_reducible exact zup_same _ _ _) rfl ?_
            refine z_iload 87 dX10_lateBy_85 rfl rfl ?_
            refine z_iald 88 dX10_lateBy_87 rfl (by first | with_reducible assumption | with_reducible exact zup_same _ _ _) (by omega) (by first | omega | exact zr_b _ | exact zr_and _ _ | exact zr_or _ _ | exact zr_shl _ _) ?_
            refine z_bipush 90 dX10_lateBy_88 rfl (by decide) ?_
            refine z_icmp_eq 99 93 dX10_lateBy_90 (by decide) rfl (by first | omega | exact zr_b _ | exact zr_and _ _ | exact zr_or _ _ | exact zr_shl _ _) (by first | omega | exact zr_b _ | exact zr_and _ _ | exact zr_or _ _ | exact zr_shl _ _) (fun c90 => ?_) (fun c90 => ?_)
            · exfalso; omega
            · refine z_iinc 96 dX10_lateBy_93 rfl (by decide) rfl ?_
              refine z_goto 81 dX10_lateBy_96 (by decide) ?_
              exact ihe (p + 1) m more (by omega) (by omega) (by omega) (by rw [show p + 1 - 1 = p by omega]; omega) hmN cont
      have pick : ∀ (i p m : Nat), m + i = who + 1 → p ≤ N → zcu w p = m → (m = 0 ∨ (1 ≤ p ∧ zkb w p = false)) → Z (d + 3) mX10_lateBy zo 73 [some (vR 112), some (vI num), some (vI left2), some (vI last), some (vI k), some (vI ((j + 1 : Nat) : Int)), some (vI who), some (vI by'), some (vI p), some (vI ((i : Int) - 1))] [] h' Q := by
        intro i
        induction i with
        | zero =>
          intro p m hm p2 hc hp
          refine z_iload 75 dX10_lateBy_73 rfl rfl ?_
          refine z_if_lt 105 78 dX10_lateBy_75 (by decide) rfl (by first | omega | exact zr_b _ | exact zr_and _ _ | exact zr_or _ _ | exact zr_shl _ _) (fun c75 => ?_) (fun c75 => ?_)
          · exact fin p _ (by omega) p2 (by rcases hp with e | e; omega; exact e.2) (by omega)
          · exfalso; omega
        | succ i ihi =>
          intro p m hm p2 hc hp
          have hlt : p < N := by
            refine Classical.byContradiction fun hno => ?_
            have : p = N := by omega
            subst this
            omega
          refine z_iload 75 dX10_lateBy_73 rfl rfl ?_
          refine z_if_lt 105 78 dX10_lateBy_75 (by decide) rfl (by first | omega | exact zr_b _ | exact zr_and _ _ | exact zr_or _ _ | exact zr_shl _ _) (fun c75 => ?_) (fun c75 => ?_)
          · exfalso; omega
          · refine z_iinc 81 dX10_lateBy_78 rfl (by decide) rfl ?_
            refine scan (N - (p + 1)) (p + 1) m _ rfl (by omega) (by omega) (by rw [show p + 1 - 1 = p by omega]; exact hc) (by omega) (fun q q1 q2 q3 q4 => ?_)
            have k2 := ihi q (m + 1) (by omega) q2 q4 (Or.inr ⟨q1, q3⟩)
            refine z_iinc 102 dX10_lateBy_99 rfl (by decide) rfl ?_
            refine z_goto 73 dX10_lateBy_102 (by decide) ?_
            rw [show (((i + 1 : Nat) : Int) - 1) = (i : Int) by omega]
            exact k2
      refine z_iload 20 dX10_lateBy_18 rfl rfl ?_
      refine z_aload_n 21 dX10_lateBy_20 rfl rfl ?_
      refine z_getf (ci := 10) 24 dX10_lateBy_21 rfl rfl zin_10 2 (by decide) zw_766 (by first | with_reducible assumption | with_reducible exact zup_same _ _ _) rfl ?_
      refine z_iconst 25 dX10_lateBy_24 rfl ?_
      refine z_isub 26 dX10_lateBy_25 rfl ?_
      refine z_icmp_ge 154 29 dX10_lateBy_26 (by decide) rfl (by first | omega | exact zr_b _ | exact zr_and _ _ | exact zr_or _ _ | exact zr_shl _ _) (by first | omega | exact zr_b _ | exact zr_and _ _ | exact zr_or _ _ | exact zr_shl _ _) (fun c26 => ?_) (fun c26 => ?_)
      · exfalso; omega
      · refine z_aload_n 30 dX10_lateBy_29 rfl rfl ?_
        refine z_getf (ci := 10) 33 dX10_lateBy_30 rfl rfl zin_10 2 (by decide) zw_766 (by first | with_reducible assumption | with_reducible exact zup_same _ _ _) rfl ?_
        refine z_iconst 34 dX10_lateBy_33 rfl ?_
        refine z_isub 35 dX10_lateBy_34 rfl ?_
        refine z_iload 37 dX10_lateBy_35 rfl rfl ?_
        refine z_isub 38 dX10_lateBy_37 rfl ?_
        rw [show ((N + 1 : Nat) : Int) - 1 - (k : Int) = ((j + 1 : Nat) : Int) by omega]
        refine z_istore 40 dX10_lateBy_38 rfl (by decide) ?_
        refine z_iload_n 41 dX10_lateBy_40 rfl rfl ?_
        refine z_iload 43 dX10_lateBy_41 rfl rfl ?_
        refine z_irem 44 dX10_lateBy_43 rfl (by first | omega | exact zr_b _ | exact zr_and _ _ | exact zr_or _ _ | exact zr_shl _ _) (by first | omega | exact zr_b _ | exact zr_and _ _ | exact zr_or _ _ | exact zr_shl _ _) ?_
        rw [q1]
        refine z_istore 46 dX10_lateBy_44 rfl (by decide) ?_
        refine z_iload_n 47 dX10_lateBy_46 rfl rfl ?_
        refine z_iload 49 dX10_lateBy_47 rfl rfl ?_
        refine z_idiv 50 dX10_lateBy_49 rfl (by first | omega | exact zr_b _ | exact zr_and _ _ | exact zr_or _ _ | exact zr_shl _ _) (by first | omega | exact zr_b _ | exact zr_and _ _ | exact zr_or _ _ | exact zr_shl _ _) ?_
        rw [q2]
        refine z_istore_n 51 dX10_lateBy_50 rfl (by decide) ?_
        refine z_iload_n 52 dX10_lateBy_51 rfl rfl ?_
        refine z_iload 54 dX10_lateBy_52 rfl rfl ?_
        refine z_iconst 55 dX10_lateBy_54 rfl ?_
        refine z_iadd 56 dX10_lateBy_55 rfl ?_
        refine z_irem 57 dX10_lateBy_56 rfl (by first | omega | exact zr_b _ | exact zr_and _ _ | exact zr_or _ _ | exact zr_shl _ _) (by first | omega | exact zr_b _ | exact zr_and _ _ | exact zr_or _ _ | exact zr_shl _ _) ?_
        rw [q3]
        refine z_istore 59 dX10_lateBy_57 rfl (by decide) ?_
        refine z_iload_n 60 dX10_lateBy_59 rfl rfl ?_
        refine z_iload 62 dX10_lateBy_60 rfl rfl ?_
        refine z_iconst 63 dX10_lateBy_62 rfl ?_
        refine z_iadd 64 dX10_lateBy_63 rfl ?_
        refine z_idiv 65 dX10_lateBy_64 rfl (by first | omega | exact zr_b _ | exact zr_and _ _ | exact zr_or _ _ | exact zr_shl _ _) (by first | omega | exact zr_b _ | exact zr_and _ _ | exact zr_or _ _ | exact zr_shl _ _) ?_
        rw [q4]
        refine z_istore_n 66 dX10_lateBy_65 rfl (by decide) ?_
        refine z_iconst 67 dX10_lateBy_66 rfl ?_
        refine z_istore 69 dX10_lateBy_67 rfl (by decide) ?_
        refine z_iload 71 dX10_lateBy_69 rfl rfl ?_
        refine z_istore 73 dX10_lateBy_71 rfl (by decide) ?_
        have k2 := pick (who + 1) 0 0 (by omega) (by omega) rfl (Or.inl rfl)
        rw [show (((who + 1 : Nat) : Int) - 1) = (who : Int) by omega] at k2
        exact k2
  have w112 := hW.c112
  dsimp only [zMO, zMS.C, zMS.l, zMS.n, zMS.R, zMS.TR, zMS.DI, zMS.ac, zMS.nx, zMS.KP, zMS.IK, zMS.SW, zMS.ST, zMS.sn, zMS.sd, zMS.TI, zMS.WH, zMS.BG, zMS.OD, zMS.WO, zMS.MA, zMS.rp, zMS.RD, zMS.rs, zMS.rm, zMS.rw, zMS.uC, zMS.ul, zMS.un, zMS.uR, zMS.uTR, zMS.uDI, zMS.uac, zMS.unx, zMS.uKP, zMS.uIK, zMS.uSW, zMS.uST, zMS.usn, zMS.usd, zMS.uTI, zMS.uWH, zMS.uBG, zMS.uOD, zMS.uWO, zMS.uMA, zMS.urp, zMS.uRD, zMS.urs, zMS.urm, zMS.urw] at w112
  refine zC.of zpl_X10 (Nat.le_of_ble_eq_true rfl) ?_
  refine z_aload_n 1 dX10_lateBy_0 rfl rfl ?_
  refine z_cV0 4 dX10_lateBy_1 rfl kX10_beginOne zw_907 (Nat.le_of_ble_eq_true rfl) ⟨Nat.le_refl _, Nat.le_refl _⟩ (by first | with_reducible assumption | with_reducible exact zup_same _ _ _) ?_
  refine c_X10_beginOne hW.c112 hW.c122 hW.c123 (fun WH' BG' b1 b2 b3 => ?_)
  have hWa := (hW.s122 WH').s123 BG'
  have w112 := hWa.c112
  dsimp only [zMO, zMS.C, zMS.l, zMS.n, zMS.R, zMS.TR, zMS.DI, zMS.ac, zMS.nx, zMS.KP, zMS.IK, zMS.SW, zMS.ST, zMS.sn, zMS.sd, zMS.TI, zMS.WH, zMS.BG, zMS.OD, zMS.WO, zMS.MA, zMS.rp, zMS.RD, zMS.rs, zMS.rm, zMS.rw, zMS.uC, zMS.ul, zMS.un, zMS.uR, zMS.uTR, zMS.uDI, zMS.uac, zMS.unx, zMS.uKP, zMS.uIK, zMS.uSW, zMS.uST, zMS.usn, zMS.usd, zMS.uTI, zMS.uWH, zMS.uBG, zMS.uOD, zMS.uWO, zMS.uMA, zMS.urp, zMS.uRD, zMS.urs, zMS.urm, zMS.urw] at w112
  have w124 := hWa.c124
  dsimp only [zMO, zMS.C, zMS.l, zMS.n, zMS.R, zMS.TR, zMS.DI, zMS.ac, zMS.nx, zMS.KP, zMS.IK, zMS.SW, zMS.ST, zMS.sn, zMS.sd, zMS.TI, zMS.WH, zMS.BG, zMS.OD, zMS.WO, zMS.MA, zMS.rp, zMS.RD, zMS.rs, zMS.rm, zMS.rw, zMS.uC, zMS.ul, zMS.un, zMS.uR, zMS.uTR, zMS.uDI, zMS.uac, zMS.unx, zMS.uKP, zMS.uIK, zMS.uSW, zMS.uST, zMS.usn, zMS.usd, zMS.uTI, zMS.uWH, zMS.uBG, zMS.uOD, zMS.uWO, zMS.uMA, zMS.urp, zMS.uRD, zMS.urs, zMS.urm, zMS.urw] at w124
  refine z_iload_n 5 dX10_lateBy_4 rfl rfl ?_
  refine z_istore_n 6 dX10_lateBy_5 rfl (by decide) ?_
  refine z_iconst 7 dX10_lateBy_6 rfl ?_
  refine z_istore_n 8 dX10_lateBy_7 rfl (by decide) ?_
  refine z_aload_n 9 dX10_lateBy_8 rfl rfl ?_
  refine z_getf (ci := 10) 12 dX10_lateBy_9 rfl rfl zin_10 17 (by decide) zw_781 (by first | with_reducible assumption | with_reducible exact zup_same _ _ _) rfl ?_
  refine z_iconst 13 dX10_lateBy_12 rfl ?_
  refine z_iconst 14 dX10_lateBy_13 rfl ?_
  refine z_iast 15 dX10_lateBy_14 rfl (by omega) (by first | with_reducible assumption | with_reducible exact zup_same _ _ _) (by omega) (by first | omega | exact zr_b _ | exact zr_and _ _ | exact zr_or _ _ | exact zr_shl _ _) ?_
  refine z_iconst 16 dX10_lateBy_15 rfl ?_
  refine z_istore 18 dX10_lateBy_16 rfl (by decide) ?_
  refine key 0 (Nat.zero_le _) _ WH' BG' _ (fun _ => 0) (fun _ => D 0) num 0 1 _ _ _ _ _ (hWa.s124 _) ((((zMod.rf _ _ h).up _ (by omega)).up _ (by omega)).up _ (by omega)) ?_ (zVd_0 hN) (fun i hi => ?_) (fun p a b k => ?_) (by omega) (by omega) (fun r hr => hr)
  · intro p h1 h2
    rw [zkb_1 (by omega)]
    by_cases e : p = 0
    · subst e
      rw [b1, b3 0 (by omega) (by omega)]
      exact ⟨fun _ => ⟨by omega, by omega, by show D 0 = 0 + 0 * G 0 + D 0; omega⟩, fun k => absurd k (by decide)⟩
    · rw [b2 p (by omega) (by omega), b3 p (by omega) (by omega)]
      exact ⟨fun k => absurd (of_decide_eq_true k) e, fun _ => ⟨rfl, rfl⟩⟩
  · rw [show i = 0 by omega]; exact zst_same _ _ _
  · have := hO.2.1 0 (by omega) (by omega)
    show 0 ≤ D 0 ∧ D 0 ≤ _
    omega
theorem m_about4 (hW : zMC h C l ((N + 1 : Nat) : Int) R DI ac nx KP IK SW ST sn sd) (hR : zRo N M D G E P R) (hO : zOK 9 N D G E P) (hN5 : N ≤ 5) (hQ : ∀ h' : zH, zMC h' C l ((N + 1 : Nat) : Int) R DI ac nx KP IK SW ST sn sd → zMod 112 127 h h' → Q (some (vI (zBEST D G N))) h') : zC (d + 14) mX10_about 0 0 [vR 112, vI 4] h Q := by
  have hN := hO.1
  obtain ⟨TR, TI, WH, BG, OD, WO, MA, RD, rp, rs, rm, rw', hW⟩ := hW
  obtain ⟨a1, a2, a3⟩ := zpr_al N (by omega)
  have best : ∀ {Q' : Option zV → zH → Prop}, (∀ h' : zH, zMC h' C l ((N + 1 : Nat) : Int) R DI ac nx KP IK SW ST sn sd → zMod 112 127 h h' → Q' (some (vI (zBEST D G N))) h') → zC (d + 13) mX10_best 0 0 [vR 112] h Q' := by
    intro Q' hQ'
    have two : ∀ i : Nat, i ≤ zal N N → ∀ (h' : zH) (WH BG OD : Int → Int) (least : Int) (o4 : Option zV), zMW h' (C, l, ((N + 1 : Nat) : Int), R, TR, DI, ac, nx, KP, IK, SW, ST, sn, sd, TI, WH, BG, OD, WO, MA, rp, RD, rs, rm, rw') → zMod 112 127 h h' → ((i = 0 ∧ least = -9) ∨ (0 ≤ least ∧ least ≤ 1000 ∧ (∃ n : Nat, zAN D G N N n (fun _ => D 0) 1 (fun _ => 0) 0 least) ∧ ∀ (n : Nat) (r : Int), n < i → zAN D G N N n (fun _ => D 0) 1 (fun _ => 0) 0 r → least ≤ r)) → Z (d + 13) mX10_best zo 40 [some (vR 112), some (vI ((zal N N : Nat) : Int)), some (vI least), some (vI i), o4] [] h' Q' := by
      refine z_loop (zal N N) ?_ ?_
      · intro h' WH BG OD least o4 hW hF hI
        rcases hI with hI | ⟨b1, b2, b3, b4⟩
        · omega
        · have e := zBEST_eq hO b3 b4 b2
          refine z_iload_n 41 dX10_best_40 rfl rfl ?_
          refine z_iload_n 42 dX10_best_41 rfl rfl ?_
          refine z_icmp_ge 77 45 dX10_best_42 (by decide) rfl (by first | omega | exact zr_b _ | exact zr_and _ _ | exact zr_or _ _ | exact zr_shl _ _) (by first | omega | exact zr_b _ | exact zr_and _ _ | exact zr_or _ _ | exact zr_shl _ _) (fun c42 => ?_) (fun c42 => ?_)
          · refine z_iload_n 78 dX10_best_77 rfl rfl ?_
            refine z_ret dX10_best_78 (by first | exact True.intro | exact Or.inl rfl | exact Or.inr rfl | exact zb_01 _ | assumption | (show _ ∨ _; omega)) ⟨Nat.le_refl _, Nat.le_refl _⟩ ?_
            rw [e]; exact hQ' _ hW.mc hF
          · exfalso; omega
      · intro i hi ih h' WH BG OD least o4 hW hF hI
        have w112 := hW.c112
        dsimp only [zMO, zMS.C, zMS.l, zMS.n, zMS.R, zMS.TR, zMS.DI, zMS.ac, zMS.nx, zMS.KP, zMS.IK, zMS.SW, zMS.ST, zMS.sn, zMS.sd, zMS.TI, zMS.WH, zMS.BG, zMS.OD, zMS.WO, zMS.MA, zMS.rp, zMS.RD, zMS.rs, zMS.rm, zMS.rw, zMS.uC, zMS.ul, zMS.un, zMS.uR, zMS.uTR, zMS.uDI, zMS.uac, zMS.unx, zMS.uKP, zMS.uIK, zMS.uSW, zMS.uST, zMS.usn, zMS.usd, zMS.uTI, zMS.uWH, zMS.uBG, zMS.uOD, zMS.uWO, zMS.uMA, zMS.urp, zMS.uRD, zMS.urs, zMS.urm, zMS.urw] at w112
        have nx : ∀ (h2 : zH) (WH BG OD : Int → Int) (v least2 : Int) (o4 : Option zV), zMW h2 (C, l, ((N + 1 : Nat) : Int), R, TR, DI, ac, nx, KP, IK, SW, ST, sn, sd, TI, WH, BG, OD, WO, MA, rp, RD, rs, rm, rw') → zMod 112 127 h h2 → zAN D G N N i (fun _ => D 0) 1 (fun _ => 0) 0 v → (0 ≤ v ∧ v ≤ 1000) → (least2 = v ∧ (least = -9 ∨ v < least) ∨ least2 = least ∧ least ≠ -9 ∧ least ≤ v) → Z (d + 13) mX10_best zo 40 [some (vR 112), some (vI ((zal N N : Nat) : Int)), some (vI least2), some (vI ((i : Int) + 1)), o4] [] h2 Q' := by
          intro h2 WH BG OD v least2 o4 hW2 hF2 hv hvb hl2
          refine ih h2 WH BG OD least2 o4 hW2 hF2 (Or.inr ?_)
          rcases hl2 with ⟨e, c⟩ | ⟨e, c1, c2⟩
          · refine ⟨by omega, by omega, ⟨i, by rw [e]; exact hv⟩, fun n r hn hr => ?_⟩
            by_cases en : n = i
            · subst en; rw [e, zAN_u N hv hr]; exact Int.le_refl _
            · rcases hI with hI | ⟨b1, b2, b3, b4⟩
              · omega
              · have := b4 n r (by omega) hr
                omega
          · rcases hI with hI | ⟨b1, b2, b3, b4⟩
            · omega
            · refine ⟨by omega, by omega, by rw [e]; exact b3, fun n r hn hr => ?_⟩
              by_cases en : n = i
              · subst en; rw [e, ← zAN_u N hv hr]; exact c2
              · have := b4 n r (by omega) hr
                omega
        have hlb : -9 ≤ least ∧ least ≤ 1000 := by rcases hI with hI | hI <;> omega
        refine z_iload_n 41 dX10_best_40 rfl rfl ?_
        refine z_iload_n 42 dX10_best_41 rfl rfl ?_
        refine z_icmp_ge 77 45 dX10_best_42 (by decide) rfl (by first | omega | exact zr_b _ | exact zr_and _ _ | exact zr_or _ _ | exact zr_shl _ _) (by first | omega | exact zr_b _ | exact zr_and _ _ | exact zr_or _ _ | exact zr_shl _ _) (fun c42 => ?_) (fun c42 => ?_)
        · exfalso; omega
        · refine z_aload_n 46 dX10_best_45 rfl rfl ?_
          refine z_iload_n 47 dX10_best_46 rfl rfl ?_
          refine z_cV1 50 dX10_best_47 rfl kX10_lateBy zw_931 (Nat.le_of_ble_eq_true rfl) ⟨Nat.le_refl _, Nat.le_refl _⟩ (by first | with_reducible assumption | with_reducible exact zup_same _ _ _) ?_
          refine c_X10_lateBy hW hR hO (by omega) (fun h2 WH BG OD v hW2 hF2 hv hvb => ?_)
          refine z_istore 52 dX10_best_50 rfl (by decide) ?_
          refine z_iload_n 53 dX10_best_52 rfl rfl ?_
          refine z_bipush 55 dX10_best_53 rfl (by decide) ?_
          refine z_icmp_eq 64 58 dX10_best_55 (by decide) rfl (by first | omega | exact zr_b _ | exact zr_and _ _ | exact zr_or _ _ | exact zr_shl _ _) (by first | omega | exact zr_b _ | exact zr_and _ _ | exact zr_or _ _ | exact zr_shl _ _) (fun c55 => ?_) (fun c55 => ?_)
          · refine z_iload 66 dX10_best_64 rfl rfl ?_
            refine z_goto 70 dX10_best_66 (by decide) ?_
            refine z_istore_n 71 dX10_best_70 rfl (by decide) ?_
            refine z_iinc 74 dX10_best_71 rfl (by decide) rfl ?_
            refine z_goto 40 dX10_best_74 (by decide) ?_
            exact nx _ _ _ _ _ _ _ hW2 (hF.tr hF2) hv hvb (by omega)
          · refine z_iload 60 dX10_best_58 rfl rfl ?_
            refine z_iload_n 61 dX10_best_60 rfl rfl ?_
            refine z_icmp_ge 69 64 dX10_best_61 (by decide) rfl (by first | omega | exact zr_b _ | exact zr_and _ _ | exact zr_or _ _ | exact zr_shl _ _) (by first | omega | exact zr_b _ | exact zr_and _ _ | exact zr_or _ _ | exact zr_shl _ _) (fun c61 => ?_) (fun c61 => ?_)
            · refine z_iload_n 70 dX10_best_69 rfl rfl ?_
              refine z_istore_n 71 dX10_best_70 rfl (by decide) ?_
              refine z_iinc 74 dX10_best_71 rfl (by decide) rfl ?_
              refine z_goto 40 dX10_best_74 (by decide) ?_
              exact nx _ _ _ _ _ _ _ hW2 (hF.tr hF2) hv hvb (by omega)
            · refine z_iload 66 dX10_best_64 rfl rfl ?_
              refine z_goto 70 dX10_best_66 (by decide) ?_
              refine z_istore_n 71 dX10_best_70 rfl (by decide) ?_
              refine z_iinc 74 dX10_best_71 rfl (by decide) rfl ?_
              refine z_goto 40 dX10_best_74 (by decide) ?_
              exact nx _ _ _ _ _ _ _ hW2 (hF.tr hF2) hv hvb (by omega)
    have one : ∀ i : Nat, i ≤ N → ∀ o3 o4 : Option zV, Z (d + 13) mX10_best zo 4 [some (vR 112), some (vI (zpr N i)), some (vI i), o3, o4] [] h Q' := by
      refine z_loop N ?_ ?_
      · intro o3 o4
        have w112 := hW.c112
        dsimp only [zMO, zMS.C, zMS.l, zMS.n, zMS.R, zMS.TR, zMS.DI, zMS.ac, zMS.nx, zMS.KP, zMS.IK, zMS.SW, zMS.ST, zMS.sn, zMS.sd, zMS.TI, zMS.WH, zMS.BG, zMS.OD, zMS.WO, zMS.MA, zMS.rp, zMS.RD, zMS.rs, zMS.rm, zMS.rw, zMS.uC, zMS.ul, zMS.un, zMS.uR, zMS.uTR, zMS.uDI, zMS.uac, zMS.unx, zMS.uKP, zMS.uIK, zMS.uSW, zMS.uST, zMS.usn, zMS.usd, zMS.uTI, zMS.uWH, zMS.uBG, zMS.uOD, zMS.uWO, zMS.uMA, zMS.urp, zMS.uRD, zMS.urs, zMS.urm, zMS.urw] at w112
        refine z_iload_n 5 dX10_best_4 rfl rfl ?_
        refine z_aload_n 6 dX10_best_5 rfl rfl ?_
        refine z_getf (ci := 10) 9 dX10_best_6 rfl rfl zin_10 2 (by decide) zw_766 (by first | with_reducible assumption | with_reducible exact zup_same _ _ _) rfl ?_
        refine z_iconst 10 dX10_best_9 rfl ?_
        refine z_isub 11 dX10_best_10 rfl ?_
        refine z_icmp_ge 35 14 dX10_best_11 (by decide) rfl (by first | omega | exact zr_b _ | exact zr_and _ _ | exact zr_or _ _ | exact zr_shl _ _) (by first | omega | exact zr_b _ | exact zr_and _ _ | exact zr_or _ _ | exact zr_shl _ _) (fun c11 => ?_) (fun c11 => ?_)
        · refine z_bipush 37 dX10_best_35 rfl (by decide) ?_
          refine z_istore_n 38 dX10_best_37 rfl (by decide) ?_
          refine z_iconst 39 dX10_best_38 rfl ?_
          refine z_istore_n 40 dX10_best_39 rfl (by decide) ?_
          rw [a1]
          exact two 0 (Nat.zero_le _) _ _ _ _ _ _ hW (zMod.rf _ _ h) (Or.inl ⟨rfl, rfl⟩)
        · exfalso; omega
      · intro i hi ih o3 o4
        have w112 := hW.c112
        dsimp only [zMO, zMS.C, zMS.l, zMS.n, zMS.R, zMS.TR, zMS.DI, zMS.ac, zMS.nx, zMS.KP, zMS.IK, zMS.SW, zMS.ST, zMS.sn, zMS.sd, zMS.TI, zMS.WH, zMS.BG, zMS.OD, zMS.WO, zMS.MA, zMS.rp, zMS.RD, zMS.rs, zMS.rm, zMS.rw, zMS.uC, zMS.ul, zMS.un, zMS.uR, zMS.uTR, zMS.uDI, zMS.uac, zMS.unx, zMS.uKP, zMS.uIK, zMS.uSW, zMS.uST, zMS.usn, zMS.usd, zMS.uTI, zMS.uWH, zMS.uBG, zMS.uOD, zMS.uWO, zMS.uMA, zMS.urp, zMS.uRD, zMS.urs, zMS.urm, zMS.urw] at w112
        refine z_iload_n 5 dX10_best_4 rfl rfl ?_
        refine z_aload_n 6 dX10_best_5 rfl rfl ?_
        refine z_getf (ci := 10) 9 dX10_best_6 rfl rfl zin_10 2 (by decide) zw_766 (by first | with_reducible assumption | with_reducible exact zup_same _ _ _) rfl ?_
        refine z_iconst 10 dX10_best_9 rfl ?_
        refine z_isub 11 dX10_best_10 rfl ?_
        refine z_icmp_ge 35 14 dX10_best_11 (by decide) rfl (by first | omega | exact zr_b _ | exact zr_and _ _ | exact zr_or _ _ | exact zr_shl _ _) (by first | omega | exact zr_b _ | exact zr_and _ _ | exact zr_or _ _ | exact zr_shl _ _) (fun c11 => ?_) (fun c11 => ?_)
        · exfalso; omega
        · refine z_iload_n 15 dX10_best_14 rfl rfl ?_
          refine z_aload_n 16 dX10_best_15 rfl rfl ?_
          refine z_getf (ci := 10) 19 dX10_best_16 rfl rfl zin_10 2 (by decide) zw_766 (by first | with_reducible assumption | with_reducible exact zup_same _ _ _) rfl ?_
          refine z_iconst 20 dX10_best_19 rfl ?_
          refine z_isub 21 dX10_best_20 rfl ?_
          refine z_iload_n 22 dX10_best_21 rfl rfl ?_
          refine z_isub 23 dX10_best_22 rfl ?_
          refine z_iload_n 24 dX10_best_23 rfl rfl ?_
          refine z_iconst 25 dX10_best_24 rfl ?_
          refine z_iadd 26 dX10_best_25 rfl ?_
          refine z_imul 27 dX10_best_26 rfl ?_
          refine z_imul 28 dX10_best_27 rfl ?_
          refine z_istore_n 29 dX10_best_28 rfl (by decide) ?_
          refine z_iinc 32 dX10_best_29 rfl (by decide) rfl ?_
          refine z_goto 4 dX10_best_32 (by decide) ?_
          exact ih _ _
    refine zC.of zpl_X10 (Nat.le_of_ble_eq_true rfl) ?_
    refine z_iconst 1 dX10_best_0 rfl ?_
    refine z_istore_n 2 dX10_best_1 rfl (by decide) ?_
    refine z_iconst 3 dX10_best_2 rfl ?_
    refine z_istore_n 4 dX10_best_3 rfl (by decide) ?_
    exact one 0 (Nat.zero_le _) _ _
  have w112 := hW.c112
  dsimp only [zMO, zMS.C, zMS.l, zMS.n, zMS.R, zMS.TR, zMS.DI, zMS.ac, zMS.nx, zMS.KP, zMS.IK, zMS.SW, zMS.ST, zMS.sn, zMS.sd, zMS.TI, zMS.WH, zMS.BG, zMS.OD, zMS.WO, zMS.MA, zMS.rp, zMS.RD, zMS.rs, zMS.rm, zMS.rw, zMS.uC, zMS.ul, zMS.un, zMS.uR, zMS.uTR, zMS.uDI, zMS.uac, zMS.unx, zMS.uKP, zMS.uIK, zMS.uSW, zMS.uST, zMS.usn, zMS.usd, zMS.uTI, zMS.uWH, zMS.uBG, zMS.uOD, zMS.uWO, zMS.uMA, zMS.urp, zMS.uRD, zMS.urs, zMS.urm, zMS.urw] at w112
  refine zC.of zpl_X10 (Nat.le_of_ble_eq_true rfl) ?_
  refine z_iload_n 1 dX10_about_0 rfl rfl ?_
  · refine z_tableIn 101 dX10_about_1 (by omega) (by omega) (by omega) rfl (by decide) ?_
    refine z_aload_n 102 dX10_about_101 rfl rfl ?_
    refine z_getf (ci := 10) 105 dX10_about_102 rfl rfl zin_10 2 (by decide) zw_766 (by first | with_reducible assumption | with_reducible exact zup_same _ _ _) rfl ?_
    refine z_bipush 107 dX10_about_105 rfl (by decide) ?_
    refine z_icmp_le 115 110 dX10_about_107 (by decide) rfl (by first | omega | exact zr_b _ | exact zr_and _ _ | exact zr_or _ _ | exact zr_shl _ _) (by first | omega | exact zr_b _ | exact zr_and _ _ | exact zr_or _ _ | exact zr_shl _ _) (fun c107 => ?_) (fun c107 => ?_)
    · refine z_aload_n 116 dX10_about_115 rfl rfl ?_
      refine z_cV0 119 dX10_about_116 rfl kX10_best zw_927 (Nat.le_of_ble_eq_true rfl) ⟨Nat.le_refl _, Nat.le_refl _⟩ (by first | with_reducible assumption | with_reducible exact zup_same _ _ _) ?_
      refine best (fun h' hW' hF => ?_)
      refine z_ret dX10_about_119 (by first | exact True.intro | exact Or.inl rfl | exact Or.inr rfl | exact zb_01 _ | assumption | (show _ ∨ _; omega)) ⟨Nat.le_refl _, Nat.le_refl _⟩ ?_
      exact hQ _ hW' hF
    · exfalso; omega
end MBEST
