/-! PAIRS OF CALLS: asked, seen, shares, the text -/
theorem zpart_r {a b : Nat} {up : Int} (ha : a ≤ 2147483647) (hb : b ≤ 2147483647) : -2147483648 ≤ zpart a b up ∧ zpart a b up ≤ 2147483647 := by
  have h1 := Nat.div_le_self a (Nat.gcd a b)
  have h2 := Nat.div_le_self b (Nat.gcd a b)
  unfold zpart
  generalize a / Nat.gcd a b = u at h1 ⊢
  generalize b / Nat.gcd a b = v at h2 ⊢
  split <;> omega
theorem zte1_0 {C E P : Int → Int} {st : Int} : ∀ {k : Nat}, (∀ j : Nat, j < k → 1 ≤ C (st + 3 * j + 1) - 48) → (zte C st E P k).1 0 = E 0
  | 0, _ => rfl
  | k + 1, h => by
    unfold zte
    dsimp only
    have := h k (by omega)
    rw [zst_ne _ _ (by omega)]
    exact zte1_0 (fun j hj => h j (by omega))
theorem p_number {L : Nat} {f : Int → Int} {h : zH} {d : Nat} {p t : Int} (hI : zINV L f h) (hp : -2147483648 ≤ p ∧ p ≤ 2147483647) (ht : -2147483648 ≤ t ∧ t ≤ 2147483647) : zPJ (d + 14) mX9_number mX10_number [vR 2, vI p, vI t] [vR 112, vI p, vI t] L f h := by
  intro Q hQ
  obtain ⟨hs, N, M, D, G, E, P, U, C, l, fi, ct, S, fl, Kp, W, Kt, c, sd, O, R, DI, nx, KP, IK, hW, hm, hT, hl, hA, hSl, hc⟩ := id hI
  obtain ⟨-, hR, hO, hM, hE0⟩ := id hT
  dsimp only at hR hO hM hE0
  have hN := hO.1
  obtain ⟨fs, ho⟩ := hm.ob
  by_cases e1 : 0 ≤ p ∧ p < (N : Int) + 1
  · by_cases e2 : 0 ≤ t ∧ t ≤ 60
    · refine c_X9_number hW hO e1 e2 (fun h1 hW1 hF1 => ?_)
      have hm1 := hm.out hF1
      obtain ⟨fs1, ho1⟩ := hm1.ob
      refine hQ _ h1 fs1 (by rw [hF1.1 0 (by omega)]; exact hs) ho1 (fun Q2 k => ?_)
      rw [show t = ((t.toNat : Nat) : Int) by omega]
      exact m_number hm1 hR hO e1 (by omega) (fun h2 hm2 hF2 => k h2 (zINV.mk (by rw [hF2.1 0 (by omega), hF1.1 0 (by omega)]; exact hs) (hW1.out hF2 (by omega)) hm2 hT hl hA hSl hc))
    · exact c_X9_number_no2 hW hN e1 ⟨ht, e2⟩ (hQ _ h fs hs ho (fun Q2 k => m_number_no2 hm hN e1 ⟨ht, e2⟩ (k h hI)))
  · exact c_X9_number_no1 hW hN ⟨hp, e1⟩ (hQ _ h fs hs ho (fun Q2 k => m_number_no1 hm hN ⟨hp, e1⟩ (k h hI)))
theorem p_soon {L : Nat} {f : Int → Int} {h : zH} {d : Nat} {p v : Int} (hI : zINV L f h) (hp : -2147483648 ≤ p ∧ p ≤ 2147483647) (hv : -2147483648 ≤ v ∧ v ≤ 2147483647) : zPI (d + 14) mX9_soon mX10_soon [vR 2, vI p, vI v] [vR 112, vI p, vI v] L f h := by
  intro Q hQ
  obtain ⟨hs, N, M, D, G, E, P, U, C, l, fi, ct, S, fl, Kp, W, Kt, c, sd, O, R, DI, nx, KP, IK, hW, hm, hT, hl, hA, hSl, hc⟩ := id hI
  obtain ⟨-, hR, hO, hM, hE0⟩ := id hT
  dsimp only at hR hO hM hE0
  have hN := hO.1
  obtain ⟨fs, ho⟩ := hm.ob
  by_cases e1 : 0 ≤ p ∧ p < (N : Int) + 1
  · by_cases e2 : 1 ≤ v ∧ v ≤ 99999
    · obtain ⟨r, r1, r2, r3⟩ := zfirst (fun j => decide (znum (D p) (G p) j < v)) 61
      have q1 : ∀ j : Nat, j < r → znum (D p) (G p) j < v := fun j hj => of_decide_eq_true (r2 j hj)
      have q2 : r ≤ 60 → v ≤ znum (D p) (G p) r := fun hr => Int.not_lt.mp (of_decide_eq_false (r3 (by omega)))
      refine c_X9_soon hW hO e1 e2 r1 q1 q2 (fun h1 hW1 hF1 => ?_)
      have hm1 := hm.out hF1
      obtain ⟨fs1, ho1⟩ := hm1.ob
      refine hQ _ h1 fs1 (by split <;> omega) (by rw [hF1.1 0 (by omega)]; exact hs) ho1 (fun Q2 k => ?_)
      exact m_soon hm1 hR hO e1 e2 r1 q1 q2 (fun h2 hm2 hF2 => k h2 (zINV.mk (by rw [hF2.1 0 (by omega), hF1.1 0 (by omega)]; exact hs) (hW1.out hF2 (by omega)) hm2 hT hl hA hSl hc))
    · exact c_X9_soon_no2 hW hN e1 ⟨hv, e2⟩ (hQ _ h fs (by omega) hs ho (fun Q2 k => m_soon_no2 hm hN e1 ⟨hv, e2⟩ (k h hI)))
  · exact c_X9_soon_no1 hW hN ⟨hp, e1⟩ (hQ _ h fs (by omega) hs ho (fun Q2 k => m_soon_no1 hm hN ⟨hp, e1⟩ (k h hI)))
theorem p_knowers {L : Nat} {f : Int → Int} {h : zH} {d : Nat} {q t : Int} (hI : zINV L f h) (hq : -2147483648 ≤ q ∧ q ≤ 2147483647) (ht : -2147483648 ≤ t ∧ t ≤ 2147483647) : zPI (d + 14) mX9_knowers mX10_knowers [vR 2, vI q, vI t] [vR 112, vI q, vI t] L f h := by
  intro Q hQ
  obtain ⟨hs, N, M, D, G, E, P, U, C, l, fi, ct, S, fl, Kp, W, Kt, c, sd, O, R, DI, nx, KP, IK, hW, hm, hT, hl, hA, hSl, hc⟩ := id hI
  obtain ⟨-, hR, hO, hM, hE0⟩ := id hT
  dsimp only at hR hO hM hE0
  have hN := hO.1
  obtain ⟨fs, ho⟩ := hm.ob
  by_cases e1 : 0 ≤ q ∧ q < (M : Int)
  · by_cases e2 : 0 ≤ t ∧ t ≤ 999
    · refine c_X9_knowers hW hO hM.2 e1 e2 (fun h1 hW1 hF1 => ?_)
      have hm1 := hm.out hF1
      obtain ⟨fs1, ho1⟩ := hm1.ob
      refine hQ _ h1 fs1 (zknw_r _ _ _) (by rw [hF1.1 0 (by omega)]; exact hs) ho1 (fun Q2 k => ?_)
      rw [show q = ((q.toNat : Nat) : Int) by omega]
      exact m_knowers hm1 hR hO hM.2 (by omega) e2 (fun h2 hm2 hF2 => k h2 (zINV.mk (by rw [hF2.1 0 (by omega), hF1.1 0 (by omega)]; exact hs) (hW1.out hF2 (by omega)) hm2 hT hl hA hSl hc))
    · exact c_X9_knowers_no2 hW hM.2 e1 ⟨ht, e2⟩ (hQ _ h fs (by omega) hs ho (fun Q2 k => m_knowers_no2 hm hR.1 hM.2 e1 ⟨ht, e2⟩ (k h hI)))
  · exact c_X9_knowers_no1 hW hM.2 ⟨hq, e1⟩ (hQ _ h fs (by omega) hs ho (fun Q2 k => m_knowers_no1 hm hR.1 hM.2 ⟨hq, e1⟩ (k h hI)))
theorem p_judge {L : Nat} {f : Int → Int} {h : zH} {d : Nat} {n row : Int} (hI : zINV L f h) (hn : -2147483648 ≤ n ∧ n ≤ 2147483647) (hrow : -9223372036854775808 ≤ row ∧ row ≤ 9223372036854775807) : zPI (d + 14) mX9_judge mX10_judge [vR 2, vI n, vJ row] [vR 112, vI n, vJ row] L f h := by
  intro Q hQ
  obtain ⟨hs, N, M, D, G, E, P, U, C, l, fi, ct, S, fl, Kp, W, Kt, c, sd, O, R, DI, nx, KP, IK, hW, hm, hT, hl, hA, hSl, hc⟩ := id hI
  obtain ⟨-, hR, hO, hM, hE0⟩ := id hT
  dsimp only at hR hO hM hE0
  have hN := hO.1
  obtain ⟨fs, ho⟩ := hm.ob
  by_cases e : n < 1 ∨ 4 < n ∨ row < 0 ∨ zrs row n.toNat ≠ 0
  · refine c_X9_judge_bad hW hn hrow e (fun h1 O' hW1 hF1 => ?_)
    have hm1 := hm.out hF1
    obtain ⟨fs1, ho1⟩ := hm1.ob
    refine hQ _ h1 fs1 (by omega) (by rw [hF1.1 0 (by omega)]; exact hs) ho1 (fun Q2 k => ?_)
    exact m_judge_bad hn hrow e (k h1 (zINV.mk (by rw [hF1.1 0 (by omega)]; exact hs) hW1 hm1 hT hl hA hSl hc))
  · have hz : zrs row n.toNat = 0 := Classical.byContradiction fun q => e (by omega)
    obtain ⟨n, rfl⟩ : ∃ m : Nat, n = (m : Int) := ⟨n.toNat, by omega⟩
    rw [show ((n : Int)).toNat = n by omega] at hz e
    obtain ⟨r, r1, r2, r3⟩ := zfirst (fun i => (zcan N M G ((zrs row (n - 1 - i) % 1000) / 100) ((zrs row (n - 1 - i) % 1000) / 10 % 10) ((zrs row (n - 1 - i) % 1000) % 10) (zXs N M G (fun i => zrs row (n - 1 - i) % 1000) (D, E, P) i)).1) n
    refine c_X9_judge hW hO hM (by omega) (by omega) hz r1 r2 r3 (fun h1 U' O' hW1 hF1 => ?_)
    have hm1 := hm.out hF1
    obtain ⟨fs1, ho1⟩ := hm1.ob
    refine hQ _ h1 fs1 (by split <;> omega) (by rw [hF1.1 0 (by omega)]; exact hs) ho1 (fun Q2 k => ?_)
    exact m_judge hm1 hR hO hM (by omega) (by omega) hz r1 r2 r3 (fun h2 hm2 hF2 => k h2 (zINV.mk (by rw [hF2.1 0 (by omega), hF1.1 0 (by omega)]; exact hs) (hW1.out hF2 (by omega)) hm2 hT hl hA hSl hc))
theorem p_see {L : Nat} {f : Int → Int} {h : zH} {d : Nat} {p t : Int} (hI : zINV L f h) (hp : -2147483648 ≤ p ∧ p ≤ 2147483647) (ht : -2147483648 ≤ t ∧ t ≤ 2147483647) : zPI (d + 14) mX9_see mX10_see [vR 2, vI p, vI t] [vR 112, vI p, vI t] L f h := by
  intro Q hQ
  obtain ⟨hs, N, M, D, G, E, P, U, C, l, fi, ct, S, fl, Kp, W, Kt, c, sd, O, R, DI, nx, KP, IK, hW, hm, hT, hl, hA, hSl, hc⟩ := id hI
  obtain ⟨-, hR, hO, hM, hE0⟩ := id hT
  dsimp only at hR hO hM hE0
  have hN := hO.1
  obtain ⟨fs, ho⟩ := hm.ob
  by_cases e1 : 0 ≤ p ∧ p < (N : Int) + 1
  · by_cases e2 : 0 ≤ t ∧ t ≤ 99
    · by_cases e3 : c = 6
      · subst e3
        exact c_X9_see_no3 hW hN e1 e2 rfl (hQ _ h fs (by omega) hs ho (fun Q2 k => m_see_no3 hm hN e1 e2 (k h hI)))
      · refine c_X9_see hW hN e1 e2 (by omega) (fun h1 hW1 hF1 => ?_)
        have hm1 := hm.out hF1
        obtain ⟨fs1, ho1⟩ := hm1.ob
        refine hQ _ h1 fs1 (by omega) (by rw [hF1.1 0 (by omega)]; exact hs) ho1 (fun Q2 k => ?_)
        refine m_see hm1 hN e1 e2 (by omega) (fun h2 hm2 hF2 => k h2 ?_)
        exact zINV.mk (c := c + 1) (by rw [hF2.1 0 (by omega), hF1.1 0 (by omega)]; exact hs) (hW1.out hF2 (by omega)) hm2 hT hl hA hSl ⟨by omega, fun i hi => by
          by_cases ei : i = c
          · subst ei; rw [zst_same, zst_same]; omega
          · rw [zst_ne _ _ (by omega), zst_ne _ _ (by omega)]; exact hc.2 i (by omega)⟩
    · exact c_X9_see_no2 hW hN e1 ⟨ht, e2⟩ (hQ _ h fs (by omega) hs ho (fun Q2 k => m_see_no2 hm hN e1 ⟨ht, e2⟩ (k h hI)))
  · exact c_X9_see_no1 hW hN ⟨hp, e1⟩ (hQ _ h fs (by omega) hs ho (fun Q2 k => m_see_no1 hm hN ⟨hp, e1⟩ (k h hI)))
theorem p_unsee {L : Nat} {f : Int → Int} {h : zH} {d : Nat} (hI : zINV L f h) : zPI (d + 14) mX9_unsee mX10_unsee [vR 2] [vR 112] L f h := by
  intro Q hQ
  obtain ⟨hs, N, M, D, G, E, P, U, C, l, fi, ct, S, fl, Kp, W, Kt, c, sd, O, R, DI, nx, KP, IK, hW, hm, hT, hl, hA, hSl, hc⟩ := id hI
  obtain ⟨-, hR, hO, hM, hE0⟩ := id hT
  dsimp only at hR hO hM hE0
  have hN := hO.1
  obtain ⟨fs, ho⟩ := hm.ob
  · refine c_X9_unsee hW (fun h1 hW1 hF1 => ?_)
    have hm1 := hm.out hF1
    obtain ⟨fs1, ho1⟩ := hm1.ob
    refine hQ _ h1 fs1 (by omega) (by rw [hF1.1 0 (by omega)]; exact hs) ho1 (fun Q2 k => ?_)
    exact m_unsee hm1 (fun h2 hm2 hF2 => k h2 (zINV.mk (c := 0) (by rw [hF2.1 0 (by omega), hF1.1 0 (by omega)]; exact hs) (hW1.out hF2 (by omega)) hm2 hT hl hA hSl ⟨by omega, fun i hi => absurd hi (by omega)⟩))
theorem p_which {L : Nat} {f : Int → Int} {h : zH} {d : Nat} {p : Int} (hI : zINV L f h) (hp : -2147483648 ≤ p ∧ p ≤ 2147483647) : zPI (d + 14) mX9_which mX10_which [vR 2, vI p] [vR 112, vI p] L f h := by
  intro Q hQ
  obtain ⟨hs, N, M, D, G, E, P, U, C, l, fi, ct, S, fl, Kp, W, Kt, c, sd, O, R, DI, nx, KP, IK, hW, hm, hT, hl, hA, hSl, hc⟩ := id hI
  obtain ⟨-, hR, hO, hM, hE0⟩ := id hT
  dsimp only at hR hO hM hE0
  have hN := hO.1
  obtain ⟨fs, ho⟩ := hm.ob
  by_cases e1 : 0 ≤ p ∧ p < (N : Int) + 1
  · have hse : ∀ i : Nat, i < c → -2147483648 ≤ W i ∧ W i ≤ 2147483647 ∧ -2147483648 ≤ Kt i ∧ Kt i ≤ 2147483647 := fun i hi => by have := hc.2 i hi; omega
    refine c_X9_which hW hO hM e1 hc.1 hse (fun h1 U' hW1 hF1 => ?_)
    have hm1 := hm.out hF1
    obtain ⟨fs1, ho1⟩ := hm1.ob
    refine hQ _ h1 fs1 (zwhi_r _ _) (by rw [hF1.1 0 (by omega)]; exact hs) ho1 (fun Q2 k => ?_)
    exact m_which hm1 hR hO hM e1 hc.1 hse (fun h2 hm2 hF2 => k h2 (zINV.mk (by rw [hF2.1 0 (by omega), hF1.1 0 (by omega)]; exact hs) (hW1.out hF2 (by omega)) hm2 hT hl hA hSl hc))
  · exact c_X9_which_no hW hN ⟨hp, e1⟩ (hQ _ h fs (by omega) hs ho (fun Q2 k => m_which_no hm hN ⟨hp, e1⟩ (k h hI)))
theorem p_share {L : Nat} {f : Int → Int} {h : zH} {d : Nat} {p up : Int} (hI : zINV L f h) (hp : -2147483648 ≤ p ∧ p ≤ 2147483647) (hup : up = 0 ∨ up = 1) : zPI (d + 14) mX9_share mX10_share [vR 2, vI p, vI up] [vR 112, vI p, vI up] L f h := by
  intro Q hQ
  obtain ⟨hs, N, M, D, G, E, P, U, C, l, fi, ct, S, fl, Kp, W, Kt, c, sd, O, R, DI, nx, KP, IK, hW, hm, hT, hl, hA, hSl, hc⟩ := id hI
  obtain ⟨-, hR, hO, hM, hE0⟩ := id hT
  dsimp only at hR hO hM hE0
  have hN := hO.1
  obtain ⟨fs, ho⟩ := hm.ob
  by_cases e1 : 0 ≤ p ∧ p < (N : Int) + 1
  · by_cases e2 : zand (zwty D E P N (N + 1)) (zshl 1 p) = 0
    · refine c_X9_share_0 hW hO (by omega) hup e2 (hQ _ h fs (zpart_r (by omega) (by omega)) hs ho (fun Q2 k => ?_))
      refine m_share_0 hm hR hO hM.2 (by omega) hup e2 (fun h2 hm2 hF2 => k h2 ?_)
      exact zINV.mk (by rw [hF2.1 0 (by omega)]; exact hs) (hW.out hF2 (by omega)) hm2 hT hl hA hSl hc
    · have hb := zoth_b (D := D) (E := E) (P := P) (p := p) hN (by omega)
      have hx := zshs_b (M := M) hO hM.2 (p := p) (by omega) ((zoth D E P N p).toNat + 1) (by omega)
      have hx2 : (zshA D G E P N M p).toNat ≤ 2147483647 := by unfold zshA; omega
      have hf2 := zfac_8 ((zones (zoth D E P N p) 8 + 1).toNat) (by omega)
      rw [show (((zones (zoth D E P N p) 8 + 1).toNat : Nat) : Int) = zones (zoth D E P N p) 8 + 1 by omega] at hf2
      refine c_X9_share hW hO hM.2 (by omega) hup e2 (fun h1 U' hW1 hF1 => ?_)
      have hm1 := hm.out hF1
      obtain ⟨fs1, ho1⟩ := hm1.ob
      refine hQ _ h1 fs1 (zpart_r hx2 (by omega)) (by rw [hF1.1 0 (by omega)]; exact hs) ho1 (fun Q2 k => ?_)
      exact m_share hm1 hR hO hM.2 (by omega) hup (fun h2 hm2 hF2 => k h2 (zINV.mk (by rw [hF2.1 0 (by omega), hF1.1 0 (by omega)]; exact hs) (hW1.out hF2 (by omega)) hm2 hT hl hA hSl hc))
  · exact c_X9_share_no hW hN ⟨hp, e1⟩ (hQ _ h fs (by omega) hs ho (fun Q2 k => m_share_no hm hN ⟨hp, e1⟩ (k h hI)))
theorem p_chance {L : Nat} {f : Int → Int} {h : zH} {d : Nat} {v x up : Int} (hI : zINV L f h) (hv : -2147483648 ≤ v ∧ v ≤ 2147483647) (hx : -2147483648 ≤ x ∧ x ≤ 2147483647) (hup : up = 0 ∨ up = 1) : zPI (d + 14) mX9_chance mX10_chance [vR 2, vI v, vI x, vI up] [vR 112, vI v, vI x, vI up] L f h := by
  intro Q hQ
  obtain ⟨hs, N, M, D, G, E, P, U, C, l, fi, ct, S, fl, Kp, W, Kt, c, sd, O, R, DI, nx, KP, IK, hW, hm, hT, hl, hA, hSl, hc⟩ := id hI
  obtain ⟨-, hR, hO, hM, hE0⟩ := id hT
  dsimp only at hR hO hM hE0
  have hN := hO.1
  obtain ⟨fs, ho⟩ := hm.ob
  by_cases e : v < 0 ∨ 8 < v ∨ x < 0 ∨ 10 < x
  · exact c_X9_chance_bad ⟨hv, hx⟩ e (hQ _ h fs (by omega) hs ho (fun Q2 k => m_chance_bad ⟨hv, hx⟩ e (k h hI)))
  · have hcb := zchf_b (E := E) (P := P) (v := v) (x := x) (by omega) N 0 1
    have h10 : 10 ^ N ≤ 10 ^ 7 := Nat.pow_le_pow_right (by omega) hN
    exact c_X9_chance hW hO (by omega) (by omega) hup (hQ _ h fs (zpart_r (by omega) (by omega)) hs ho (fun Q2 k => m_chance hm hR hO (by omega) (by omega) hup (k h hI)))
theorem p_seed {L : Nat} {f : Int → Int} {h : zH} {d : Nat} {v : Int} (hI : zINV L f h) : zPJ (d + 14) mX9_seed mX10_seed [vR 2, vJ v] [vR 112, vJ v] L f h := by
  intro Q hQ
  obtain ⟨hs, N, M, D, G, E, P, U, C, l, fi, ct, S, fl, Kp, W, Kt, c, sd, O, R, DI, nx, KP, IK, hW, hm, hT, hl, hA, hSl, hc⟩ := id hI
  obtain ⟨-, hR, hO, hM, hE0⟩ := id hT
  dsimp only at hR hO hM hE0
  have hN := hO.1
  obtain ⟨fs, ho⟩ := hm.ob
  · refine c_X9_seed hW (fun h1 hW1 hF1 => ?_)
    have hm1 := hm.out hF1
    obtain ⟨fs1, ho1⟩ := hm1.ob
    refine hQ _ h1 fs1 (by rw [hF1.1 0 (by omega)]; exact hs) ho1 (fun Q2 k => ?_)
    exact m_seed hm1 (fun h2 hm2 hF2 => k h2 (zINV.mk (by rw [hF2.1 0 (by omega), hF1.1 0 (by omega)]; exact hs) (hW1.out hF2 (by omega)) hm2 hT hl hA hSl hc))
theorem p_drawn {L : Nat} {f : Int → Int} {h : zH} {d : Nat} {m : Int} (hI : zINV L f h) (hm' : -2147483648 ≤ m ∧ m ≤ 2147483647) : zPI (d + 14) mX9_drawn mX10_drawn [vR 2, vI m] [vR 112, vI m] L f h := by
  intro Q hQ
  obtain ⟨hs, N, M, D, G, E, P, U, C, l, fi, ct, S, fl, Kp, W, Kt, c, sd, O, R, DI, nx, KP, IK, hW, hm, hT, hl, hA, hSl, hc⟩ := id hI
  obtain ⟨-, hR, hO, hM, hE0⟩ := id hT
  dsimp only at hR hO hM hE0
  have hN := hO.1
  obtain ⟨fs, ho⟩ := hm.ob
  by_cases e : 1 ≤ m ∧ m ≤ 40
  · obtain ⟨m, rfl⟩ : ∃ q : Nat, m = (q : Int) := ⟨m.toNat, by omega⟩
    have hb := zdrn_b (sd := sd) hO hM.2 m
    refine c_X9_drawn hW hO hM.2 (by omega) (fun h1 U' hW1 hF1 => ?_)
    have hm1 := hm.out hF1
    obtain ⟨fs1, ho1⟩ := hm1.ob
    refine hQ _ h1 fs1 (by omega) (by rw [hF1.1 0 (by omega)]; exact hs) ho1 (fun Q2 k => ?_)
    exact m_drawn hm1 hR hO hM.2 (by omega) (fun h2 hm2 hF2 => k h2 (zINV.mk (by rw [hF2.1 0 (by omega), hF1.1 0 (by omega)]; exact hs) (hW1.out hF2 (by omega)) hm2 hT hl hA hSl hc))
  · exact c_X9_drawn_bad ⟨hm', e⟩ (hQ _ h fs (by omega) hs ho (fun Q2 k => m_drawn_bad ⟨hm', e⟩ (k h hI)))
theorem p_fault {L : Nat} {f : Int → Int} {h : zH} {d : Nat} (hI : zINV L f h) : zPI (d + 14) mX9_fault mX10_fault [vR 2] [vR 112] L f h := by
  intro Q hQ
  obtain ⟨hs, N, M, D, G, E, P, U, C, l, fi, ct, S, fl, Kp, W, Kt, c, sd, O, R, DI, nx, KP, IK, hW, hm, hT, hl, hA, hSl, hc⟩ := id hI
  obtain ⟨-, hR, hO, hM, hE0⟩ := id hT
  dsimp only at hR hO hM hE0
  have hN := hO.1
  obtain ⟨fs, ho⟩ := hm.ob
  obtain ⟨r, r1, r2, r3⟩ := zfirst (fun j => zfits C j) l
  have hr := zfl_r C hl.1 r1
  by_cases e : r < l
  · have ez : zfl C l r = r := if_pos e
    refine c_X9_fault_at hW hl.1 hl.2 e r2 (r3 e) (hQ _ h fs (by omega) hs ho (fun Q2 k => ?_))
    rw [← ez] at k
    exact m_fault hm hl.1 hl.2 r1 r2 r3 (fun h2 hm2 hF2 => k h2 (zINV.mk (by rw [hF2.1 0 (by omega)]; exact hs) (hW.out hF2 (by omega)) hm2 hT hl hA hSl hc))
  · have er : r = l := by omega
    subst er
    have ez : zfl C r r = if 2 < r ∧ (r : Int) = 3 + 2 * (C 2 - 48) + 3 * (C 2 - 48 - 1) then -9 else (r : Int) := if_neg e
    refine c_X9_fault_all hW hl.1 hl.2 r2 (hQ _ h fs (by rw [← ez]; omega) hs ho (fun Q2 k => ?_))
    rw [← ez] at k
    exact m_fault hm hl.1 hl.2 r1 r2 r3 (fun h2 hm2 hF2 => k h2 (zINV.mk (by rw [hF2.1 0 (by omega)]; exact hs) (hW.out hF2 (by omega)) hm2 hT hl hA hSl hc))
theorem p_telling {L : Nat} {f : Int → Int} {h : zH} {d : Nat} (hI : zINV L f h) : zPI (d + 14) mX9_telling mX10_telling [vR 2] [vR 112] L f h := by
  intro Q hQ
  obtain ⟨hs, N, M, D, G, E, P, U, C, l, fi, ct, S, fl, Kp, W, Kt, c, sd, O, R, DI, nx, KP, IK, hW, hm, hT, hl, hA, hSl, hc⟩ := id hI
  obtain ⟨-, hR, hO, hM, hE0⟩ := id hT
  dsimp only at hR hO hM hE0
  have hN := hO.1
  obtain ⟨fs, ho⟩ := hm.ob
  obtain ⟨r, r1, r2, r3⟩ := zfirst (fun j => zfits C j) l
  by_cases e : r < l
  · have ez : zfl C l r = r := if_pos e
    refine c_X9_telling_at hW hl.1 hl.2 e r2 (r3 e) (hQ _ h fs (by omega) hs ho (fun Q2 k => ?_))
    exact m_telling_late hm hl.1 hl.2 r1 r2 r3 (by omega) (fun h2 hm2 hF2 => k h2 (zINV.mk (by rw [hF2.1 0 (by omega)]; exact hs) (hW.out hF2 (by omega)) hm2 hT hl hA hSl hc))
  · have er : r = l := by omega
    subst er
    by_cases e2 : 2 < r ∧ (r : Int) = 3 + 2 * (C 2 - 48) + 3 * (C 2 - 48 - 1)
    · have hq8 := zfits_q (r2 2 (by omega))
      have hm3 : 1 ≤ C 1 - 48 ∧ C 1 - 48 ≤ 3 := of_decide_eq_true ((zfit1 C).symm.trans (r2 1 (by omega)))
      obtain ⟨K, hK⟩ : ∃ K : Nat, C 2 - 48 = ((K + 1 : Nat) : Int) := ⟨(C 2 - 48).toNat - 1, by omega⟩
      have hok := zparse_ok (C := C) (D := D) (G := G) (E := E) (P := P) (show K ≤ 7 by omega) hK (fun j hj => r2 j (by omega))
      have hL := zLAST_b (M := (C 1 - 48).toNat) hok (by decide) (by omega)
      refine c_X9_telling hW hl.1 hl.2 r2 e2 hK (fun h1 hW1 hF1 => ?_)
      have hm1 := hm.out hF1
      obtain ⟨fs1, ho1⟩ := hm1.ob
      refine hQ _ h1 fs1 (⟨Int.le_trans (by decide : (-2147483648 : Int) ≤ 0) hL.1, Int.le_trans hL.2 (by decide)⟩) (by rw [hF1.1 0 (by omega)]; exact hs) ho1 (fun Q2 k => ?_)
      refine m_telling hm1 hl.1 hl.2 r2 e2 hK (N, M, D, G, E, P) (fun h2 R' IK' i0 i1 hR' hm2 hF2 => k h2 ?_)
      refine zINV.mk (by rw [hF2.1 0 (by omega), hF1.1 0 (by omega)]; exact hs) (hW1.out hF2 (by omega)) hm2 ⟨rfl, hR', hok, (by show 1 ≤ (C 1 - 48).toNat ∧ (C 1 - 48).toNat ≤ 3; omega), ?_⟩ hl hA.non (fun i a b => Or.inr ⟨zt_0 _, ?_⟩) hc
      · show (zte C (3 + 2 * ((K + 1 : Nat) : Int)) E P K).1 0 = -9
        rw [zte1_0 (fun j hj => ?_)]
        · exact hE0
        · have h1 := hok.2.2.1 j hj
          rw [zte2_at j hj] at h1
          exact h1.1
      · rcases (show i = 0 ∨ i = 1 by omega) with rfl | rfl
        · exact i0
        · exact i1
    · have ez : zfl C r r = r := by unfold zfl; rw [if_neg e, if_neg e2]
      refine c_X9_telling_short hW hl.1 hl.2 r2 e2 (hQ _ h fs (by omega) hs ho (fun Q2 k => ?_))
      exact m_telling_late hm hl.1 hl.2 r1 r2 r3 (by omega) (fun h2 hm2 hF2 => k h2 (zINV.mk (by rw [hF2.1 0 (by omega)]; exact hs) (hW.out hF2 (by omega)) hm2 hT hl hA hSl hc))
