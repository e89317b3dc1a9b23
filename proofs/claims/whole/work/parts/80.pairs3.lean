/-! PAIRS OF CALLS: acts, slots -/
theorem zQK_0 {N : Nat} {D G E P : Int → Int} {B : Int} (hO : zOK B N D G E P) (hB : B ≤ 40) : (zQK D G E P N).1 0 = E 0 := by
  have key : ∀ i : Nat, i ≤ N → (zqk D G E P (fun _ => 0) N i).2.2.1 0 = E 0 := by
    intro i
    induction i with
    | zero => intro _; rfl
    | succ i ih =>
      intro hi
      obtain ⟨-, hu⟩ := zqI_all (E := E) (P := P) (V := fun _ => 0) hO.1 hB hO.2.1 (i + 1) hi
      have hu := (hu i rfl).2
      rw [zqk_s]
      dsimp only
      rw [zst_ne _ _ (by omega)]
      exact ih (by omega)
  exact key N (Nat.le_refl _)
theorem p_move {L : Nat} {f : Int → Int} {h : zH} {d : Nat} {p t : Int} (hI : zINV L f h) (hp : -2147483648 ≤ p ∧ p ≤ 2147483647) (ht : -2147483648 ≤ t ∧ t ≤ 2147483647) : zPI (d + 14) mX9_move mX10_move [vR 2, vI p, vI t] [vR 112, vI p, vI t] L f h := by
  intro Q hQ
  obtain ⟨hs, N, M, D, G, E, P, U, C, l, fi, ct, S, fl, Kp, W, Kt, c, sd, O, R, DI, nx, KP, IK, hW, hm, hT, hl, hA, hSl, hc⟩ := id hI
  obtain ⟨-, hR, hO, hM, hE0⟩ := id hT
  dsimp only at hR hO hM hE0
  have hN := hO.1
  obtain ⟨fs, ho⟩ := hm.ob
  by_cases e : zrfM N E P p t = 0
  · obtain ⟨g1, g2, g3⟩ := zrfM_0 e
    have hok := zmove_ok hO g1 g2 g3
    have hL := zLAST_b hok (by decide) hM.2
    refine c_X9_move hW hO hM.2 hA.1 hp ht e (fun h1 hW1 hF1 => ?_)
    have hm1 := hm.out hF1
    obtain ⟨fs1, ho1⟩ := hm1.ob
    refine hQ _ h1 fs1 (by omega) (by rw [hF1.1 0 (by omega)]; exact hs) ho1 (fun Q2 k => ?_)
    refine m_move hm1 hR hO hM.2 e hA.1.2.2 hA.2.1 (fun h2 DI' R' k1 k2 hR' hm2 hF2 => k h2 ?_)
    obtain ⟨a1, a2⟩ := hA.rem hT k1 k2
    rw [a2] at hm2
    exact zINV.mk (by rw [hF2.1 0 (by omega), hF1.1 0 (by omega)]; exact hs) (hW1.out hF2 (by omega)) hm2 ⟨rfl, hR', hok, hM, by show zst E p t 0 = -9; rw [zst_ne _ _ (by omega)]; exact hE0⟩ hl a1 hSl hc
  · have hb := (zrf_b (N := N) (E := E) (P := P) (a := p) (b := t)).1
    exact c_X9_move_no hW hO hp ht e (hQ _ h fs (by omega) hs ho (fun Q2 k => m_move_no hm hR hO hp ht e (k h hI)))
theorem p_change {L : Nat} {f : Int → Int} {h : zH} {d : Nat} {i : Int} (hI : zINV L f h) (hi : -2147483648 ≤ i ∧ i ≤ 2147483647) : zPI (d + 14) mX9_change mX10_change [vR 2, vI i] [vR 112, vI i] L f h := by
  intro Q hQ
  obtain ⟨hs, N, M, D, G, E, P, U, C, l, fi, ct, S, fl, Kp, W, Kt, c, sd, O, R, DI, nx, KP, IK, hW, hm, hT, hl, hA, hSl, hc⟩ := id hI
  obtain ⟨-, hR, hO, hM, hE0⟩ := id hT
  dsimp only at hR hO hM hE0
  have hN := hO.1
  obtain ⟨fs, ho⟩ := hm.ob
  by_cases e : zrfC N E P i = 0
  · obtain ⟨g1, g2⟩ := zrfC_0 e
    have hok := zchange_ok' hO e
    have hL := zLAST_b hok (by decide) hM.2
    refine c_X9_change hW hO hM.2 hA.1 hi e (fun h1 hW1 hF1 => ?_)
    have hm1 := hm.out hF1
    obtain ⟨fs1, ho1⟩ := hm1.ob
    refine hQ _ h1 fs1 (by omega) (by rw [hF1.1 0 (by omega)]; exact hs) ho1 (fun Q2 k => ?_)
    refine m_change hm1 hR hO hM.2 g1 g2 hA.1.2.2 hA.2.1 (fun h2 DI' R' k1 k2 hR' hm2 hF2 => k h2 ?_)
    obtain ⟨a1, a2⟩ := hA.rem hT k1 k2
    rw [a2] at hm2
    exact zINV.mk (by rw [hF2.1 0 (by omega), hF1.1 0 (by omega)]; exact hs) (hW1.out hF2 (by omega)) hm2 ⟨rfl, hR', hok, hM, hE0⟩ hl a1 hSl hc
  · have hb := (zrf_b (N := N) (E := E) (P := P) (a := 0) (b := i)).2.1
    refine c_X9_change_no hW hO hi e (hQ _ h fs (by omega) hs ho (fun Q2 k => ?_))
    by_cases g : ¬ (0 ≤ i ∧ i + 1 < (N : Int))
    · rw [show zrfC N E P i = -1 from if_pos g] at k
      exact m_change_no1 hm hN ⟨hi, g⟩ (k h hI)
    · have e2 : zrfC N E P i = if E (P (i + 1)) = P i then -3 else 0 := if_neg g
      rw [e2] at e k
      by_cases g2 : E (P (i + 1)) = P i
      · rw [if_pos g2] at k
        exact m_change_no2 hm hR hO (by omega) g2 (k h hI)
      · rw [if_neg g2] at e; exact absurd rfl e
theorem p_quicken {L : Nat} {f : Int → Int} {h : zH} {d : Nat} (hI : zINV L f h) : zPI (d + 14) mX9_quicken mX10_quicken [vR 2] [vR 112] L f h := by
  intro Q hQ
  obtain ⟨hs, N, M, D, G, E, P, U, C, l, fi, ct, S, fl, Kp, W, Kt, c, sd, O, R, DI, nx, KP, IK, hW, hm, hT, hl, hA, hSl, hc⟩ := id hI
  obtain ⟨-, hR, hO, hM, hE0⟩ := id hT
  dsimp only at hR hO hM hE0
  have hN := hO.1
  obtain ⟨fs, ho⟩ := hm.ob
  · have hok := zQK_ok hO (by decide)
    have hL := zLAST_b hok (by decide) hM.2
    have h0 := zQK_0 hO (by decide)
    refine c_X9_quicken hW hO hM.2 hA.1 (fun h1 hW1 hF1 => ?_)
    have hm1 := hm.out hF1
    obtain ⟨fs1, ho1⟩ := hm1.ob
    refine hQ _ h1 fs1 (by omega) (by rw [hF1.1 0 (by omega)]; exact hs) ho1 (fun Q2 k => ?_)
    refine m_quicken hm1 hR hO hM.2 hA.1.2.2 hA.2.1 (fun h2 DI' R' k1 k2 hR' hm2 hF2 => k h2 ?_)
    obtain ⟨a1, a2⟩ := hA.rem hT k1 k2
    rw [a2] at hm2
    exact zINV.mk (by rw [hF2.1 0 (by omega), hF1.1 0 (by omega)]; exact hs) (hW1.out hF2 (by omega)) hm2 ⟨rfl, hR', hok, hM, h0.trans hE0⟩ hl a1 hSl hc
theorem zRo.setG {N M : Nat} {D G E P R : Int → Int} (hR : zRo N M D G E P R) (hN : N ≤ 7) {p v : Int} (hp : 0 ≤ p ∧ p ≤ N) : zRo N M D (zst G p v) E P (zst R (9 + p) v) := by
  obtain ⟨r0, r1, r2, r3⟩ := hR
  refine ⟨?_, fun q q0 q1 => ⟨?_, ?_⟩, fun q q0 q1 => ?_, fun k hk => ?_⟩
  · rw [zst_ne _ _ (by omega)]; exact r0
  · rw [zst_ne _ _ (by omega)]; exact (r1 q q0 q1).1
  · by_cases e : q = p
    · subst e; rw [zst_same, zst_same]
    · rw [zst_ne _ _ (by omega), zst_ne _ _ e]; exact (r1 q q0 q1).2
  · rw [zst_ne _ _ (by omega)]; exact r2 q q0 q1
  · rw [zst_ne _ _ (by omega)]; exact r3 k hk
theorem zRo.setM {N M : Nat} {D G E P R : Int → Int} (hR : zRo N M D G E P R) {v : Int} (hv : 0 ≤ v) : zRo N v.toNat D G E P (zst R 0 v) := by
  obtain ⟨r0, r1, r2, r3⟩ := hR
  refine ⟨?_, fun q q0 q1 => ⟨?_, ?_⟩, fun q q0 q1 => ?_, fun k hk => ?_⟩
  · rw [zst_same]; omega
  · rw [zst_ne _ _ (by omega)]; exact (r1 q q0 q1).1
  · rw [zst_ne _ _ (by omega)]; exact (r1 q q0 q1).2
  · rw [zst_ne _ _ (by omega)]; exact r2 q q0 q1
  · rw [zst_ne _ _ (by omega)]; exact r3 k hk
theorem zOK.setG {N : Nat} {D G E P : Int → Int} {B : Int} (hO : zOK B N D G E P) {p v : Int} (hv : 1 ≤ v ∧ v ≤ 5) : zOK B N D (zst G p v) E P := by
  obtain ⟨h1, h2, h3⟩ := hO
  refine ⟨h1, fun q a b => ?_, h3⟩
  have := h2 q a b
  by_cases e : q = p
  · rw [e, zst_same]; rw [e] at this; omega
  · rw [zst_ne _ _ e]; exact this
theorem p_set {L : Nat} {f : Int → Int} {h : zH} {d : Nat} {p w v : Int} (hI : zINV L f h) (hp : -2147483648 ≤ p ∧ p ≤ 2147483647) (hw : -2147483648 ≤ w ∧ w ≤ 2147483647) (hv : -2147483648 ≤ v ∧ v ≤ 2147483647) : zPI (d + 14) mX9_set mX10_set [vR 2, vI p, vI w, vI v] [vR 112, vI p, vI w, vI v] L f h := by
  intro Q hQ
  obtain ⟨hs, N, M, D, G, E, P, U, C, l, fi, ct, S, fl, Kp, W, Kt, c, sd, O, R, DI, nx, KP, IK, hW, hm, hT, hl, hA, hSl, hc⟩ := id hI
  obtain ⟨-, hR, hO, hM, hE0⟩ := id hT
  dsimp only at hR hO hM hE0
  have hN := hO.1
  obtain ⟨fs, ho⟩ := hm.ob
  by_cases e : zrfS N p w v = 0
  · have e' := e
    unfold zrfS at e'
    by_cases g1 : ¬ (0 ≤ p ∧ p < (N : Int) + 1)
    · rw [if_pos g1] at e'; omega
    rw [if_neg g1] at e'
    by_cases g2 : w < 0 ∨ 2 < w ∨ (w = 2 ∧ p ≠ 0)
    · rw [if_pos g2] at e'; omega
    rw [if_neg g2] at e'
    by_cases g3 : v < 1 ∨ (if w = 0 then (9 : Int) else if w = 1 then 5 else 3) < v
    · rw [if_pos g3] at e'; omega
    have hd := hO.2.1 p (by omega) (by omega)
    have r1 := hR.2.1 p (by omega) (by omega)
    have r0 := hR.1
    rcases (show w = 0 ∨ w = 1 ∨ w = 2 by omega) with rfl | rfl | rfl
    · rw [if_pos rfl] at g3
      refine c_X9_set0 hW hN hA.1 (by omega) (by omega) (fun h1 hW1 hF1 => ?_)
      have hm1 := hm.out hF1
      obtain ⟨fs1, ho1⟩ := hm1.ob
      refine hQ _ h1 fs1 (by omega) (by rw [hF1.1 0 (by omega)]; exact hs) ho1 (fun Q2 k => ?_)
      refine m_set0 hm1 hN (by omega) (by omega) hA.1.2.2 hA.2.1 (fun h2 DI' k1 k2 hm2 hF2 => ?_)
      rw [r1.1]
      refine k h2 ?_
      obtain ⟨a1, a2⟩ := hA.rem hT k1 k2
      rw [a2] at hm2
      exact zINV.mk (by rw [hF2.1 0 (by omega), hF1.1 0 (by omega)]; exact hs) (hW1.out hF2 (by omega)) hm2 ⟨rfl, hR.setD (fun _ _ _ => rfl) hN (p := p) (v := v) (by omega), hO.setD (by omega) (by omega), hM, hE0⟩ hl a1 hSl hc
    · rw [if_neg (by decide), if_pos rfl] at g3
      refine c_X9_set1 hW hN hA.1 (by omega) (by omega) (fun h1 hW1 hF1 => ?_)
      have hm1 := hm.out hF1
      obtain ⟨fs1, ho1⟩ := hm1.ob
      refine hQ _ h1 fs1 (by omega) (by rw [hF1.1 0 (by omega)]; exact hs) ho1 (fun Q2 k => ?_)
      refine m_set1 hm1 hN (by omega) (by omega) hA.1.2.2 hA.2.1 (fun h2 DI' k1 k2 hm2 hF2 => ?_)
      rw [r1.2]
      refine k h2 ?_
      obtain ⟨a1, a2⟩ := hA.rem hT k1 k2
      rw [a2] at hm2
      exact zINV.mk (by rw [hF2.1 0 (by omega), hF1.1 0 (by omega)]; exact hs) (hW1.out hF2 (by omega)) hm2 ⟨rfl, hR.setG hN (p := p) (v := v) (by omega), hO.setG (by omega), hM, hE0⟩ hl a1 hSl hc
    · rw [if_neg (by decide), if_neg (by decide)] at g3
      obtain rfl : p = 0 := by omega
      refine c_X9_set2 hW hN hA.1 (by omega) (fun h1 hW1 hF1 => ?_)
      have hm1 := hm.out hF1
      obtain ⟨fs1, ho1⟩ := hm1.ob
      refine hQ _ h1 fs1 (by omega) (by rw [hF1.1 0 (by omega)]; exact hs) ho1 (fun Q2 k => ?_)
      refine m_set2 hm1 hN (by omega) hA.1.2.2 hA.2.1 (fun h2 DI' k1 k2 hm2 hF2 => ?_)
      rw [r0]
      refine k h2 ?_
      obtain ⟨a1, a2⟩ := hA.rem hT k1 k2
      rw [a2] at hm2
      exact zINV.mk (by rw [hF2.1 0 (by omega), hF1.1 0 (by omega)]; exact hs) (hW1.out hF2 (by omega)) hm2 ⟨rfl, hR.setM (v := v) (by omega), hO, (by show 1 ≤ v.toNat ∧ v.toNat ≤ 3; omega), hE0⟩ hl a1 hSl hc
  · have hb : -100 ≤ zrfS N p w v ∧ zrfS N p w v ≤ 100 := by unfold zrfS; split; omega; split; omega; split <;> omega
    exact c_X9_set_no hW hN hp hw hv e (hQ _ h fs (by omega) hs ho (fun Q2 k => m_set_no hm hN hp hw hv e (k h hI)))
theorem p_undo {L : Nat} {f : Int → Int} {h : zH} {d : Nat} (hI : zINV L f h) : zPI (d + 14) mX9_undo mX10_undo [vR 2] [vR 112] L f h := by
  intro Q hQ
  obtain ⟨hs, N, M, D, G, E, P, U, C, l, fi, ct, S, fl, Kp, W, Kt, c, sd, O, R, DI, nx, KP, IK, hW, hm, hT, hl, hA, hSl, hc⟩ := id hI
  obtain ⟨-, hR, hO, hM, hE0⟩ := id hT
  dsimp only at hR hO hM hE0
  have hN := hO.1
  obtain ⟨fs, ho⟩ := hm.ob
  have hct := hA.1
  by_cases e : ct = 0
  · subst e
    exact c_X9_undo_no hW (hQ _ h fs (by omega) hs ho (fun Q2 k => m_undo_no hm (k h hI)))
  · obtain ⟨u1, u2⟩ := hA.und (by omega)
    refine c_X9_undo hW (by omega) (fun h1 hW1 hF1 => ?_)
    have hm1 := hm.out hF1
    obtain ⟨fs1, ho1⟩ := hm1.ob
    refine hQ _ h1 fs1 (by omega) (by rw [hF1.1 0 (by omega)]; exact hs) ho1 (fun Q2 k => ?_)
    refine m_undo hm1 (by omega) hA.2.1 (fun h2 R' k1 hm2 hF2 => k h2 ?_)
    rcases hS : S ((fi + (ct - 1)) % 14).toNat with ⟨N', M', D', G', E', P'⟩
    rw [hS] at hW1 u1
    have eN : N' = N := u1.1
    subst eN
    exact zINV.mk (by rw [hF2.1 0 (by omega), hF1.1 0 (by omega)]; exact hs) (hW1.out hF2 (by omega)) hm2 (u1.cp k1) hl u2 hSl hc
theorem p_keep {L : Nat} {f : Int → Int} {h : zH} {d : Nat} {i : Int} (hI : zINV L f h) (hi : -2147483648 ≤ i ∧ i ≤ 2147483647) : zPI (d + 14) mX9_keep mX10_keep [vR 2, vI i] [vR 112, vI i] L f h := by
  intro Q hQ
  obtain ⟨hs, N, M, D, G, E, P, U, C, l, fi, ct, S, fl, Kp, W, Kt, c, sd, O, R, DI, nx, KP, IK, hW, hm, hT, hl, hA, hSl, hc⟩ := id hI
  obtain ⟨-, hR, hO, hM, hE0⟩ := id hT
  dsimp only at hR hO hM hE0
  have hN := hO.1
  obtain ⟨fs, ho⟩ := hm.ob
  by_cases e : 0 ≤ i ∧ i < 2
  · have hL := zLAST_b hO (by decide) hM.2
    refine c_X9_keep hW hO hM.2 e (fun h1 hW1 hF1 => ?_)
    have hm1 := hm.out hF1
    obtain ⟨fs1, ho1⟩ := hm1.ob
    refine hQ _ h1 fs1 (by omega) (by rw [hF1.1 0 (by omega)]; exact hs) ho1 (fun Q2 k => ?_)
    refine m_keep hm1 e hR hO hM.2 (fun h2 KP' k1 k2 hm2 hF2 => k h2 ?_)
    refine zINV.mk (by rw [hF2.1 0 (by omega), hF1.1 0 (by omega)]; exact hs) (hW1.out hF2 (by omega)) hm2 hT hl hA (fun j j0 j1 => ?_) hc
    by_cases ej : j = i
    · subst ej
      refine Or.inl ⟨(zkb_orT (by omega) (by omega)).mpr (Or.inr rfl), zst_same _ _ _, ?_⟩
      rw [if_pos rfl]
      exact hT.cp k1
    · rw [zst_ne _ _ ej, zkb_or (by omega) (by omega), decide_eq_false ej, Bool.or_false, if_neg (by omega)]
      rcases hSl j j0 j1 with ⟨s1, s2, s3⟩ | s
      · exact Or.inl ⟨s1, s2, s3.cp (fun q q1 q2 => k2 _ (by omega))⟩
      · exact Or.inr s
  · exact c_X9_keep_no ⟨hi, e⟩ (hQ _ h fs (by omega) hs ho (fun Q2 k => m_keep_no ⟨hi, e⟩ (k h hI)))
theorem p_again {L : Nat} {f : Int → Int} {h : zH} {d : Nat} {i : Int} (hI : zINV L f h) (hi : -2147483648 ≤ i ∧ i ≤ 2147483647) : zPI (d + 14) mX9_again mX10_again [vR 2, vI i] [vR 112, vI i] L f h := by
  intro Q hQ
  obtain ⟨hs, N, M, D, G, E, P, U, C, l, fi, ct, S, fl, Kp, W, Kt, c, sd, O, R, DI, nx, KP, IK, hW, hm, hT, hl, hA, hSl, hc⟩ := id hI
  obtain ⟨-, hR, hO, hM, hE0⟩ := id hT
  dsimp only at hR hO hM hE0
  have hN := hO.1
  obtain ⟨fs, ho⟩ := hm.ob
  by_cases e : 0 ≤ i ∧ i < 2
  · rcases hSl i e.1 e.2 with ⟨s1, s2, s3⟩ | ⟨s1, s2⟩
    · rcases hK : Kp i.toNat with ⟨N', M', D', G', E', P'⟩
      rw [hK] at s3
      have eN : N' = N := s3.1
      subst eN
      obtain ⟨-, t1, t2, t3, t4⟩ := id s3
      dsimp only at t1 t2 t3 t4
      have hL := zLAST_b t2 (by decide) t3.2
      refine c_X9_again hW e s1 hK t2 t3.2 (fun h1 hW1 hF1 => ?_)
      have hm1 := hm.out hF1
      obtain ⟨fs1, ho1⟩ := hm1.ob
      refine hQ _ h1 fs1 (by omega) (by rw [hF1.1 0 (by omega)]; exact hs) ho1 (fun Q2 k => ?_)
      refine m_again hm1 e s2 t1 t2 t3.2 (fun h2 R' k1 hm2 hF2 => k h2 ?_)
      exact zINV.mk (by rw [hF2.1 0 (by omega), hF1.1 0 (by omega)]; exact hs) (hW1.out hF2 (by omega)) hm2 (s3.cp k1) hl hA.non hSl hc
    · exact c_X9_again_late hW e s1 (hQ _ h fs (by omega) hs ho (fun Q2 k => m_again_late hm e s2 (k h hI)))
  · exact c_X9_again_no ⟨hi, e⟩ (hQ _ h fs (by omega) hs ho (fun Q2 k => m_again_no ⟨hi, e⟩ (k h hI)))
