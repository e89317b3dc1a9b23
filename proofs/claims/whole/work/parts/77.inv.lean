/-! CLASS AND MODEL SIDE BY SIDE -/
/-- a TELLING of the class, and the row that holds it -/
def zTOK (N : Nat) (T : zTD) (R : Int → Int) : Prop := T.1 = N ∧ zRo N T.2.1 T.2.2.1 T.2.2.2.1 T.2.2.2.2.1 T.2.2.2.2.2 R ∧ zOK 9 N T.2.2.1 T.2.2.2.1 T.2.2.2.2.1 T.2.2.2.2.2 ∧ (1 ≤ T.2.1 ∧ T.2.1 ≤ 3) ∧ T.2.2.2.2.1 0 = -9
def zACT (N : Nat) (fi ct : Int) (S : Nat → zTD) (DI : Int → Int) (nx : Int) : Prop := (0 ≤ fi ∧ fi < 14 ∧ 0 ≤ ct ∧ ct ≤ 14) ∧ (0 ≤ nx ∧ nx < 14) ∧ ∀ j : Int, 0 ≤ j → j < ct → zTOK N (S ((fi + j) % 14).toNat) (fun k => DI (33 * ((nx + 14 - ct + j) % 14) + k))
def zSLO (N : Nat) (fl : Int) (Kp : Nat → zTD) (KP IK : Int → Int) : Prop := ∀ i : Int, 0 ≤ i → i < 2 → (zkb fl i = true ∧ IK i = 1 ∧ zTOK N (Kp i.toNat) (fun k => KP (33 * i + k))) ∨ (zkb fl i = false ∧ IK i = 0)
def zINV (L : Nat) (f : Int → Int) (h : zH) : Prop := h.1 0 = some (zI L f) ∧ ∃ (N M : Nat) (D G E P : Int → Int) (U : zTD) (C : Int → Int) (l : Nat) (fi ct : Int) (S : Nat → zTD) (fl : Int) (Kp : Nat → zTD) (W Kt : Int → Int) (c : Nat) (sd : Int) (O R DI : Int → Int) (nx : Int) (KP IK : Int → Int),
  zCW h (N, M, D, G, E, P) U C l fi ct S fl Kp W Kt c sd O ∧ zMC h C l ((N + 1 : Nat) : Int) R DI ct nx KP IK W Kt c sd ∧ zTOK N (N, M, D, G, E, P) R ∧ (l ≤ 60 ∧ ∀ i : Int, 0 ≤ i → i < 60 → 0 ≤ C i ∧ C i ≤ 255) ∧ zACT N fi ct S DI nx ∧ zSLO N fl Kp KP IK ∧ (c ≤ 6 ∧ ∀ i : Nat, i < c → 0 ≤ W i ∧ W i ≤ 7 ∧ 0 ≤ Kt i ∧ Kt i ≤ 99)
/-- a call of the class, and the same one of the model: their answers are alike, and all stands behind them as before -/
def zPI (d : Nat) (m1 m2 : zM) (a1 a2 : List zV) (L : Nat) (f : Int → Int) (h : zH) : Prop := ∀ Q : Option zV → zH → Prop, (∀ (a : Int) (h1 : zH) (fs : List zV), (-2147483648 ≤ a ∧ a ≤ 2147483647) → h1.1 0 = some (zI L f) → h1.1 112 = some (zO 10 fs) → (∀ Q2 : Option zV → zH → Prop, (∀ h2 : zH, zINV L f h2 → Q2 (some (vI a)) h2) → zC d m2 0 0 a2 h1 Q2) → Q (some (vI a)) h1) → zC d m1 0 0 a1 h Q
def zPJ (d : Nat) (m1 m2 : zM) (a1 a2 : List zV) (L : Nat) (f : Int → Int) (h : zH) : Prop := ∀ Q : Option zV → zH → Prop, (∀ (a : Int) (h1 : zH) (fs : List zV), h1.1 0 = some (zI L f) → h1.1 112 = some (zO 10 fs) → (∀ Q2 : Option zV → zH → Prop, (∀ h2 : zH, zINV L f h2 → Q2 (some (vJ a)) h2) → zC d m2 0 0 a2 h1 Q2) → Q (some (vJ a)) h1) → zC d m1 0 0 a1 h Q
section INV
variable {h h' : zH} {C : Int → Int} {l n : Int} {R DI : Int → Int} {ac nx : Int} {KP IK SW ST : Int → Int} {sn sd : Int}
theorem zMC.out (hW : zMC h C l n R DI ac nx KP IK SW ST sn sd) (hF : zMod 2 111 h h') : zMC h' C l n R DI ac nx KP IK SW ST sn sd := by
  obtain ⟨TR, TI, WH, BG, OD, WO, MA, RD, rp, rs, rm, rw', hW⟩ := hW
  exact (hW.out hF (by omega)).mc
theorem zMC.ob (hW : zMC h C l n R DI ac nx KP IK SW ST sn sd) : ∃ fs : List zV, h.1 112 = some (zO 10 fs) := by
  obtain ⟨TR, TI, WH, BG, OD, WO, MA, RD, rp, rs, rm, rw', hW⟩ := hW
  exact ⟨_, hW.c112⟩
end INV
section INV2
variable {L : Nat} {f : Int → Int} {h : zH} {N M : Nat} {D G E P : Int → Int} {U : zTD} {C : Int → Int} {l : Nat} {fi ct : Int} {S : Nat → zTD} {fl : Int} {Kp : Nat → zTD} {W Kt : Int → Int} {c : Nat} {sd : Int} {O R DI : Int → Int} {nx : Int} {KP IK : Int → Int}
theorem zINV.mk (hs : h.1 0 = some (zI L f)) (hW : zCW h (N, M, D, G, E, P) U C l fi ct S fl Kp W Kt c sd O) (hM : zMC h C l ((N + 1 : Nat) : Int) R DI ct nx KP IK W Kt c sd) (hT : zTOK N (N, M, D, G, E, P) R) (hl : l ≤ 60 ∧ ∀ i : Int, 0 ≤ i → i < 60 → 0 ≤ C i ∧ C i ≤ 255) (hA : zACT N fi ct S DI nx) (hS : zSLO N fl Kp KP IK) (hc : c ≤ 6 ∧ ∀ i : Nat, i < c → 0 ≤ W i ∧ W i ≤ 7 ∧ 0 ≤ Kt i ∧ Kt i ≤ 99) : zINV L f h :=
  ⟨hs, N, M, D, G, E, P, U, C, l, fi, ct, S, fl, Kp, W, Kt, c, sd, O, R, DI, nx, KP, IK, hW, hM, hT, hl, hA, hS, hc⟩
theorem zTOK.cp {T : zTD} {R' : Int → Int} (h : zTOK N T R) (hR : ∀ k : Int, 0 ≤ k → k < 33 → R' k = R k) : zTOK N T R' := ⟨h.1, h.2.1.cp hR h.2.2.1.1, h.2.2⟩
/-- an act is remembered -/
theorem zACT.rem {T : zTD} {DI' : Int → Int} (hA : zACT N fi ct S DI nx) (hT : zTOK N T R) (k1 : ∀ k : Int, 0 ≤ k → k < 33 → DI' (33 * nx + k) = R k) (k2 : ∀ q : Int, (q < 33 * nx ∨ 33 * nx + 33 ≤ q) → DI' q = DI q) : zACT N (zfi fi ct) (zcm ct + 1) (fun i => if i = zjj fi ct then T else S i) DI' ((nx + 1) % 14) ∧ (if ct < 14 then ct + 1 else 14) = zcm ct + 1 := by
  obtain ⟨a1, hnx, a3⟩ := hA
  have hold : ∀ j : Int, 0 ≤ j → j < ct → (fi + j) % 14 ≠ (zfi fi ct + zcm ct) % 14 → (nx + 14 - ct + j) % 14 ≠ nx → zTOK N ((fun i => if i = zjj fi ct then T else S i) ((fi + j) % 14).toNat) (fun k => DI' (33 * ((nx + 14 - ct + j) % 14) + k)) := fun j h1 h2 h3 h4 => by
    dsimp only
    rw [if_neg (by unfold zjj; omega)]
    refine (a3 j h1 h2).cp (fun k q1 q2 => k2 _ ?_)
    omega
  have hnew : zTOK N ((fun i => if i = zjj fi ct then T else S i) ((zfi fi ct + zcm ct) % 14).toNat) (fun k => DI' (33 * nx + k)) := by
    dsimp only
    rw [if_pos (show ((zfi fi ct + zcm ct) % 14).toNat = zjj fi ct from rfl)]
    exact hT.cp k1
  unfold zfi zcm at *
  by_cases e : ct = 14
  · rw [if_pos e, if_pos e] at *
    refine ⟨⟨by omega, by omega, fun j h1 h2 => ?_⟩, by omega⟩
    by_cases e3 : j = 13
    · rw [show ((nx + 1) % 14 + 14 - (13 + 1) + j) % 14 = nx by omega, show ((fi + 1) % 14 + j) % 14 = ((fi + 1) % 14 + 13) % 14 by omega]
      exact hnew
    · rw [show ((fi + 1) % 14 + j) % 14 = (fi + (j + 1)) % 14 by omega, show ((nx + 1) % 14 + 14 - (13 + 1) + j) % 14 = (nx + 14 - ct + (j + 1)) % 14 by omega]
      exact hold (j + 1) (by omega) (by omega) (by omega) (by omega)
  · rw [if_neg e, if_neg e] at *
    refine ⟨⟨by omega, by omega, fun j h1 h2 => ?_⟩, by omega⟩
    by_cases e3 : j = ct
    · rw [show ((nx + 1) % 14 + 14 - (ct + 1) + j) % 14 = nx by omega, e3]
      exact hnew
    · rw [show ((nx + 1) % 14 + 14 - (ct + 1) + j) % 14 = (nx + 14 - ct + j) % 14 by omega]
      exact hold j h1 (by omega) (by omega) (by omega)
/-- no acts -/
theorem zACT.non (hA : zACT N fi ct S DI nx) {N' : Nat} : zACT N' fi 0 S DI nx := ⟨⟨hA.1.1, hA.1.2.1, by omega, by omega⟩, hA.2.1, fun j h1 h2 => by omega⟩
/-- the last one is undone -/
theorem zACT.und (hA : zACT N fi ct S DI nx) (hc : 0 < ct) : zTOK N (S ((fi + (ct - 1)) % 14).toNat) (fun k => DI (33 * ((nx + 14 - 1) % 14) + k)) ∧ zACT N fi (ct - 1) S DI ((nx + 14 - 1) % 14) := by
  obtain ⟨a1, hnx, a3⟩ := hA
  refine ⟨?_, ⟨by omega, by omega, fun j h1 h2 => ?_⟩⟩
  · have := a3 (ct - 1) (by omega) (by omega)
    rw [show (nx + 14 - ct + (ct - 1)) % 14 = (nx + 14 - 1) % 14 by omega] at this
    exact this
  · have := a3 j h1 (by omega)
    rw [show ((nx + 14 - 1) % 14 + 14 - (ct - 1) + j) % 14 = (nx + 14 - ct + j) % 14 by omega]
    exact this
end INV2
