/-! PAIRS OF CALLS: about, person -/
theorem zfirst (b : Nat → Bool) : ∀ n : Nat, ∃ r : Nat, r ≤ n ∧ (∀ i : Nat, i < r → b i = true) ∧ (r < n → b r = false)
  | 0 => ⟨0, Nat.le_refl _, fun i hi => absurd hi (by omega), fun h => absurd h (by omega)⟩
  | n + 1 => by
    obtain ⟨r, h1, h2, h3⟩ := zfirst b n
    by_cases e : r < n
    · exact ⟨r, by omega, h2, fun _ => h3 e⟩
    · have er : r = n := by omega
      subst er
      cases hb : b r with
      | false => exact ⟨r, by omega, h2, fun _ => hb⟩
      | true => exact ⟨r + 1, by omega, fun i hi => by
          by_cases ei : i = r
          · subst ei; exact hb
          · exact h2 i (by omega), fun h => absurd h (by omega)⟩
theorem zslack_ex {N M : Nat} {D G E P : Int → Int} (hO : zOK 9 N D G E P) (hM : M ≤ 3) {p : Int} (hp : 0 ≤ p ∧ p ≤ N) : ∃ r : Nat, r ≤ 30 ∧ ∀ j : Nat, 1 ≤ j → j ≤ 30 → (zLAST (zst D p (D p + j)) G E P N M ≤ zLAST D G E P N M ↔ j ≤ r) := by
  obtain ⟨r, h1, h2, h3⟩ := zfirst (fun i => decide (zLAST (zst D p (D p + ((i + 1 : Nat) : Int))) G E P N M ≤ zLAST D G E P N M)) 30
  have hd := hO.2.1 p hp.1 hp.2
  refine ⟨r, h1, fun j j1 j2 => ?_⟩
  by_cases e : j ≤ r
  · have := of_decide_eq_true (h2 (j - 1) (by omega))
    rw [show j - 1 + 1 = j by omega] at this
    exact ⟨fun _ => e, fun _ => this⟩
  · have hb := of_decide_eq_false (h3 (by omega))
    refine ⟨fun q => absurd ?_ hb, fun q => absurd q e⟩
    have hOj : zOK 40 N (zst D p (D p + ((r + 1 : Nat) : Int))) G E P := hO.setD (by omega) (by omega)
    have := zLAST_m (M := M) (D' := zst D p (D p + (j : Int))) hOj (fun q q0 q1 => by
      by_cases eq : q = p
      · rw [eq, zst_same, zst_same]; omega
      · rw [zst_ne _ _ eq, zst_ne _ _ eq]; exact Int.le_refl _) hM
    omega
theorem zBEST_r {N : Nat} {D G E P : Int → Int} (hO : zOK 9 N D G E P) : 0 ≤ zBEST D G N ∧ zBEST D G N ≤ 1000 := by
  have hd : ∀ p : Int, 0 ≤ p → p ≤ N → 0 ≤ D p ∧ 0 ≤ G p := fun p a b => by have := hO.2.1 p a b; omega
  unfold zBEST
  split
  · omega
  · have h0 := hd 0 (by omega) (by omega)
    exact zLL_rng hO.1 hd N (zVd_0 hO.1).1 (by omega) (fun p a b k => h0.1)
theorem zMN {M N : Nat} (hM : M ≤ 3) (hN : N ≤ 7) : 0 ≤ (M : Int) * N ∧ (M : Int) * N ≤ 21 := by
  have : M * N ≤ 3 * 7 := Nat.mul_le_mul hM hN
  rw [← Int.natCast_mul]
  omega
theorem p_about {L : Nat} {f : Int → Int} {h : zH} {d : Nat} {w : Int} (hI : zINV L f h) (hw : -2147483648 ≤ w ∧ w ≤ 2147483647) : zPI (d + 14) mX9_about mX10_about [vR 2, vI w] [vR 112, vI w] L f h := by
  intro Q hQ
  obtain ⟨hs, N, M, D, G, E, P, U, C, l, fi, ct, S, fl, Kp, W, Kt, c, sd, O, R, DI, nx, KP, IK, hW, hm, hT, hl, hA, hSl, hc⟩ := id hI
  obtain ⟨-, hR, hO, hM, hE0⟩ := id hT
  dsimp only at hR hO hM hE0
  have hN := hO.1
  obtain ⟨fs, ho⟩ := hm.ob
  by_cases e : w < 0 ∨ 8 < w
  · exact c_X9_about_bad ⟨hw, e⟩ (hQ (-2) h fs (by omega) hs ho (fun Q2 k => m_about_bad ⟨hw, e⟩ (k h hI)))
  have hL := zLAST_b hO (by decide) hM.2
  have hL2 := zLAST_b (zQK_ok hO (by decide)) (by decide) hM.2
  have hB := zBEST_r hO
  have hMN := zMN hM.2 hN
  have hct := hA.1
  rcases (show w = 0 ∨ w = 1 ∨ w = 2 ∨ w = 3 ∨ w = 4 ∨ w = 5 ∨ w = 6 ∨ w = 7 ∨ w = 8 by omega) with rfl | rfl | rfl | rfl | rfl | rfl | rfl | rfl | rfl
  · exact c_X9_about0 hW (hQ _ h fs (by omega) hs ho (fun Q2 k => m_about0 hm (k h hI)))
  · exact c_X9_about1 hW (hQ _ h fs (by omega) hs ho (fun Q2 k => m_about1 hm hR.1 (k h hI)))
  · refine c_X9_about2 hW hO hM.2 (fun h1 hW1 hF1 => ?_)
    have hm1 := hm.out hF1
    obtain ⟨fs1, ho1⟩ := hm1.ob
    refine hQ _ h1 fs1 (by omega) (by rw [hF1.1 0 (by omega)]; exact hs) ho1 (fun Q2 k => ?_)
    exact m_about2 hm1 hR hO hM.2 (fun h2 hm2 hF2 => k h2 (zINV.mk (by rw [hF2.1 0 (by omega), hF1.1 0 (by omega)]; exact hs) (hW1.out hF2 (by omega)) hm2 hT hl hA hSl hc))
  · refine c_X9_about3 hW hO hM.2 (fun h1 U' hW1 hF1 => ?_)
    have hm1 := hm.out hF1
    obtain ⟨fs1, ho1⟩ := hm1.ob
    refine hQ _ h1 fs1 (by omega) (by rw [hF1.1 0 (by omega)]; exact hs) ho1 (fun Q2 k => ?_)
    exact m_about3 hm1 hR hO hM.2 (fun h2 hm2 hF2 => k h2 (zINV.mk (by rw [hF2.1 0 (by omega), hF1.1 0 (by omega)]; exact hs) (hW1.out hF2 (by omega)) hm2 hT hl hA hSl hc))
  · by_cases e6 : 6 ≤ N
    · exact c_X9_about4_late hW ⟨e6, hN⟩ (hQ _ h fs (by omega) hs ho (fun Q2 k => m_about4_late hm ⟨e6, hN⟩ (k h hI)))
    · refine c_X9_about4 hW hO (by omega) (fun h1 hW1 hF1 => ?_)
      have hm1 := hm.out hF1
      obtain ⟨fs1, ho1⟩ := hm1.ob
      refine hQ _ h1 fs1 (by omega) (by rw [hF1.1 0 (by omega)]; exact hs) ho1 (fun Q2 k => ?_)
      exact m_about4 hm1 hR hO (by omega) (fun h2 hm2 hF2 => k h2 (zINV.mk (by rw [hF2.1 0 (by omega), hF1.1 0 (by omega)]; exact hs) (hW1.out hF2 (by omega)) hm2 hT hl hA hSl hc))
  · exact c_X9_about5 hW (hQ _ h fs (by omega) hs ho (fun Q2 k => m_about5 hm hR.1 hN hM.2 (k h hI)))
  · exact c_X9_about6 hW (hQ _ h fs (by omega) hs ho (fun Q2 k => m_about6 hm (k h hI)))
  · exact c_X9_about7 hW (hQ _ h fs (by omega) hs ho (fun Q2 k => m_about7 hm (k h hI)))
  · exact c_X9_about8 hW (hQ _ h fs (by omega) hs ho (fun Q2 k => m_about8 hm (k h hI)))
theorem p_person {L : Nat} {f : Int → Int} {h : zH} {d : Nat} {p w : Int} (hI : zINV L f h) (hp : -2147483648 ≤ p ∧ p ≤ 2147483647) (hw : -2147483648 ≤ w ∧ w ≤ 2147483647) : zPI (d + 14) mX9_person mX10_person [vR 2, vI p, vI w] [vR 112, vI p, vI w] L f h := by
  intro Q hQ
  obtain ⟨hs, N, M, D, G, E, P, U, C, l, fi, ct, S, fl, Kp, W, Kt, c, sd, O, R, DI, nx, KP, IK, hW, hm, hT, hl, hA, hSl, hc⟩ := id hI
  obtain ⟨-, hR, hO, hM, hE0⟩ := id hT
  dsimp only at hR hO hM hE0
  have hN := hO.1
  obtain ⟨fs, ho⟩ := hm.ob
  by_cases ep : ¬ (0 ≤ p ∧ p < (N : Int) + 1)
  · exact c_X9_person_no hW hN ⟨hp, ep⟩ (hQ (-1) h fs (by omega) hs ho (fun Q2 k => m_person_no hm hN ⟨hp, ep⟩ (k h hI)))
  have ep' : 0 ≤ p ∧ p < (N : Int) + 1 := by omega
  by_cases e : w < 0 ∨ 6 < w
  · exact c_X9_person_bad hW hN ep' ⟨hw, e⟩ (hQ (-2) h fs (by omega) hs ho (fun Q2 k => m_person_bad hm hN ep' ⟨hw, e⟩ (k h hI)))
  have hd := hO.2.1 p ep'.1 (by omega)
  have hL := zLAST_b hO (by decide) hM.2
  have hcn := zcnt_b (E := E) (P := P) (x := p) N
  rcases (show w = 0 ∨ w = 1 ∨ w = 2 ∨ w = 3 ∨ w = 4 ∨ w = 5 ∨ w = 6 by omega) with rfl | rfl | rfl | rfl | rfl | rfl | rfl
  · exact c_X9_person0 hW hO (by omega) (hQ _ h fs (by omega) hs ho (fun Q2 k => m_person0 hm hR hN (by omega) (k h hI)))
  · exact c_X9_person1 hW hO (by omega) (hQ _ h fs (by omega) hs ho (fun Q2 k => m_person1 hm hR hN (by omega) (k h hI)))
  · by_cases e0 : p = 0
    · subst e0
      refine c_X9_person2 hW hO (by omega) ?_
      rw [hE0]
      exact hQ (-9) h fs (by omega) hs ho (fun Q2 k => m_person20 hm hN (k h hI))
    · obtain ⟨i, hi, ei⟩ := hO.surj p (by omega) (by omega)
      have h8 := hO.v8 i hi
      rw [ei] at h8
      exact c_X9_person2 hW hO (by omega) (hQ _ h fs (by omega) hs ho (fun Q2 k => m_person2 hm hR hN (by omega) (k h hI)))
  · by_cases e0 : p = 0
    · subst e0
      exact c_X9_person30 hW hO (hQ _ h fs (by omega) hs ho (fun Q2 k => m_person30 hm hN (k h hI)))
    · obtain ⟨i, hi, ei⟩ := hO.surj p (by omega) (by omega)
      exact c_X9_person3 hW hO (by omega) hi ei (hQ _ h fs (by omega) hs ho (fun Q2 k => m_person3 hm hR hO (by omega) hi ei (k h hI)))
  · exact c_X9_person4 hW hO (by omega) (hQ _ h fs (by omega) hs ho (fun Q2 k => m_person4 hm hR hO (by omega) (k h hI)))
  · obtain ⟨r, r1, r2⟩ := zslack_ex hO hM.2 (p := p) (by omega)
    refine c_X9_person5 hW hO hM.2 (by omega) r1 (fun j j1 j2 => (r2 j j1 (by omega)).mpr j2) (fun hr => Int.not_le.mp (fun q => by have := (r2 (r + 1) (by omega) (by omega)).mp q; omega)) (fun h1 U' hW1 hF1 => ?_)
    have hm1 := hm.out hF1
    obtain ⟨fs1, ho1⟩ := hm1.ob
    refine hQ _ h1 fs1 (by omega) (by rw [hF1.1 0 (by omega)]; exact hs) ho1 (fun Q2 k => ?_)
    exact m_person5 hm1 hR hO hM.2 (by omega) r2 r1 (fun h2 hm2 hF2 => k h2 (zINV.mk (by rw [hF2.1 0 (by omega), hF1.1 0 (by omega)]; exact hs) (hW1.out hF2 (by omega)) hm2 hT hl hA hSl hc))
  · by_cases e0 : p = 0
    · subst e0
      exact c_X9_person60 hW hN (hQ _ h fs (by omega) hs ho (fun Q2 k => m_person60 hm hN (k h hI)))
    · have hb := zTK_b hO (by decide) hM.2 (p := p) (k := M - 1) (by omega) (by omega) (by omega)
      refine c_X9_person6 hW hO hM (by omega) (fun h1 hW1 hF1 => ?_)
      have hm1 := hm.out hF1
      obtain ⟨fs1, ho1⟩ := hm1.ob
      refine hQ _ h1 fs1 (by omega) (by rw [hF1.1 0 (by omega)]; exact hs) ho1 (fun Q2 k => ?_)
      exact m_person6 hm1 hR hO hM (by omega) (fun h2 hm2 hF2 => k h2 (zINV.mk (by rw [hF2.1 0 (by omega), hF1.1 0 (by omega)]; exact hs) (hW1.out hF2 (by omega)) hm2 hT hl hA hSl hc))
