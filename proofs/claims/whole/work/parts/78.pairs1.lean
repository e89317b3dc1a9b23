/-! PAIRS OF CALLS, one by one -/
theorem p_write {L : Nat} {f : Int → Int} {h : zH} {d : Nat} {x : Int} (hI : zINV L f h) (hx : -2147483648 ≤ x ∧ x ≤ 2147483647) : zPI (d + 14) mX9_write mX10_write [vR 2, vI x] [vR 112, vI x] L f h := by
  intro Q hQ
  obtain ⟨hs, N, M, D, G, E, P, U, C, l, fi, ct, S, fl, Kp, W, Kt, c, sd, O, R, DI, nx, KP, IK, hW, hm, hT, hl, hA, hSl, hc⟩ := id hI
  obtain ⟨-, hR, hO, hM, hE0⟩ := id hT
  dsimp only at hR hO hM hE0
  have hN := hO.1
  obtain ⟨fs, ho⟩ := hm.ob
  by_cases e1 : x < 0 ∨ 255 < x
  · exact c_X9_write_bad ⟨hx, e1⟩ (hQ (-2) h fs (by omega) hs ho (fun Q2 k => m_write_bad ⟨hx, e1⟩ (k h hI)))
  · by_cases e2 : l = 60
    · subst e2
      exact c_X9_write_full hW (by omega) (hQ (-4) h fs (by omega) hs ho (fun Q2 k => m_write_full hm (by omega) (k h hI)))
    · refine c_X9_write hW (by omega) (by omega) (fun h1 hW1 hF1 => ?_)
      have hm1 := hm.out hF1
      obtain ⟨fs1, ho1⟩ := hm1.ob
      refine hQ _ h1 fs1 (by omega) (by rw [hF1.1 0 (by omega)]; exact hs) ho1 (fun Q2 k => ?_)
      refine m_write hm1 (by omega) (by omega) (fun h2 hm2 hF2 => k h2 ?_)
      exact zINV.mk (l := l + 1) (by rw [hF2.1 0 (by omega), hF1.1 0 (by omega)]; exact hs) (hW1.out hF2 (by omega)) hm2 hT ⟨by omega, fun i i0 i1 => by
        by_cases e : i = l
        · rw [e, zst_same]; omega
        · rw [zst_ne _ _ e]; exact hl.2 i i0 i1⟩ hA hSl hc
theorem p_wipe {L : Nat} {f : Int → Int} {h : zH} {d : Nat} (hI : zINV L f h) : zPI (d + 14) mX9_wipe mX10_wipe [vR 2] [vR 112] L f h := by
  intro Q hQ
  obtain ⟨hs, N, M, D, G, E, P, U, C, l, fi, ct, S, fl, Kp, W, Kt, c, sd, O, R, DI, nx, KP, IK, hW, hm, hT, hl, hA, hSl, hc⟩ := id hI
  obtain ⟨-, hR, hO, hM, hE0⟩ := id hT
  dsimp only at hR hO hM hE0
  have hN := hO.1
  obtain ⟨fs, ho⟩ := hm.ob
  · refine c_X9_wipe hW (fun h1 hW1 hF1 => ?_)
    have hm1 := hm.out hF1
    obtain ⟨fs1, ho1⟩ := hm1.ob
    refine hQ _ h1 fs1 (by omega) (by rw [hF1.1 0 (by omega)]; exact hs) ho1 (fun Q2 k => ?_)
    exact m_wipe hm1 (fun h2 hm2 hF2 => k h2 (zINV.mk (l := 0) (by rw [hF2.1 0 (by omega), hF1.1 0 (by omega)]; exact hs) (hW1.out hF2 (by omega)) hm2 hT ⟨by omega, hl.2⟩ hA hSl hc))
theorem p_plan {L : Nat} {f : Int → Int} {h : zH} {d : Nat} {i : Int} (hI : zINV L f h) (hi : -2147483648 ≤ i ∧ i ≤ 2147483647) : zPI (d + 14) mX9_plan mX10_plan [vR 2, vI i] [vR 112, vI i] L f h := by
  intro Q hQ
  obtain ⟨hs, N, M, D, G, E, P, U, C, l, fi, ct, S, fl, Kp, W, Kt, c, sd, O, R, DI, nx, KP, IK, hW, hm, hT, hl, hA, hSl, hc⟩ := id hI
  obtain ⟨-, hR, hO, hM, hE0⟩ := id hT
  dsimp only at hR hO hM hE0
  have hN := hO.1
  obtain ⟨fs, ho⟩ := hm.ob
  by_cases e1 : 0 ≤ i ∧ i < (N : Int)
  · have hp := hO.2.2.1 i.toNat (by omega)
    rw [Int.toNat_of_nonneg e1.1] at hp
    have hr := hR.2.2.2 i.toNat (by omega)
    rw [Int.toNat_of_nonneg e1.1] at hr
    refine c_X9_plan hW hN e1 (hQ (P i) h fs (by omega) hs ho (fun Q2 k => m_plan hm (by omega) (by omega) ?_))
    rw [hr]; exact k h hI
  · exact c_X9_plan_no hW hN ⟨hi, e1⟩ (hQ (-1) h fs (by omega) hs ho (fun Q2 k => m_plan_no hm (by omega) ⟨hi, by omega⟩ (k h hI)))
theorem p_knows {L : Nat} {f : Int → Int} {h : zH} {d : Nat} {p q : Int} (hI : zINV L f h) (hp : -2147483648 ≤ p ∧ p ≤ 2147483647) (hq : -2147483648 ≤ q ∧ q ≤ 2147483647) : zPI (d + 14) mX9_knows mX10_knows [vR 2, vI p, vI q] [vR 112, vI p, vI q] L f h := by
  intro Q hQ
  obtain ⟨hs, N, M, D, G, E, P, U, C, l, fi, ct, S, fl, Kp, W, Kt, c, sd, O, R, DI, nx, KP, IK, hW, hm, hT, hl, hA, hSl, hc⟩ := id hI
  obtain ⟨-, hR, hO, hM, hE0⟩ := id hT
  dsimp only at hR hO hM hE0
  have hN := hO.1
  obtain ⟨fs, ho⟩ := hm.ob
  by_cases e1 : (0 ≤ p ∧ p < (N : Int) + 1) ∧ (0 ≤ q ∧ q < (M : Int))
  · have hb := zTK_b hO (by decide) hM.2 (p := p) (k := q.toNat) (by omega) (by omega) (by omega)
    refine c_X9_knows hW hO hM.2 e1.1 e1.2 (fun h1 hW1 hF1 => ?_)
    have hm1 := hm.out hF1
    obtain ⟨fs1, ho1⟩ := hm1.ob
    refine hQ _ h1 fs1 (by omega) (by rw [hF1.1 0 (by omega)]; exact hs) ho1 (fun Q2 k => ?_)
    rw [show q = ((q.toNat : Nat) : Int) by omega]
    exact m_knows hm1 hR hO hM.2 e1.1 (by omega) (fun h2 hm2 hF2 => k h2 (zINV.mk (by rw [hF2.1 0 (by omega), hF1.1 0 (by omega)]; exact hs) (hW1.out hF2 (by omega)) hm2 hT hl hA hSl hc))
  · exact c_X9_knows_no hW hN hM.2 ⟨hp, hq⟩ e1 (hQ (-1) h fs (by omega) hs ho (fun Q2 k => m_knows_no hm hR.1 hN hM.2 ⟨hp, hq⟩ e1 (k h hI)))
theorem p_last {L : Nat} {f : Int → Int} {h : zH} {d : Nat} {q : Int} (hI : zINV L f h) (hq : -2147483648 ≤ q ∧ q ≤ 2147483647) : zPI (d + 14) mX9_last mX10_last [vR 2, vI q] [vR 112, vI q] L f h := by
  intro Q hQ
  obtain ⟨hs, N, M, D, G, E, P, U, C, l, fi, ct, S, fl, Kp, W, Kt, c, sd, O, R, DI, nx, KP, IK, hW, hm, hT, hl, hA, hSl, hc⟩ := id hI
  obtain ⟨-, hR, hO, hM, hE0⟩ := id hT
  dsimp only at hR hO hM hE0
  have hN := hO.1
  obtain ⟨fs, ho⟩ := hm.ob
  by_cases e1 : 0 ≤ q ∧ q < (M : Int)
  · have hb := zlstk_b (T := fun p => zTK D G E P N M p q.toNat) (b := 840) (by omega) (n := N + 1) (fun i hi => zTK_b hO (by decide) hM.2 (by omega) (by omega) (by omega))
    refine c_X9_last hW hO hM.2 e1 (fun h1 hW1 hF1 => ?_)
    have hm1 := hm.out hF1
    obtain ⟨fs1, ho1⟩ := hm1.ob
    refine hQ _ h1 fs1 (by omega) (by rw [hF1.1 0 (by omega)]; exact hs) ho1 (fun Q2 k => ?_)
    rw [show q = ((q.toNat : Nat) : Int) by omega]
    exact m_last hm1 hR hO hM.2 (by omega) (fun h2 hm2 hF2 => k h2 (zINV.mk (by rw [hF2.1 0 (by omega), hF1.1 0 (by omega)]; exact hs) (hW1.out hF2 (by omega)) hm2 hT hl hA hSl hc))
  · exact c_X9_last_no hW hM.2 ⟨hq, e1⟩ (hQ (-1) h fs (by omega) hs ho (fun Q2 k => m_last_no hm hR.1 hM.2 ⟨hq, e1⟩ (k h hI)))
