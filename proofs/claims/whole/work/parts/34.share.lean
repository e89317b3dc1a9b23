/-! LateLetters: shares, chances -/
section MONO
variable {B B' : Int} {N : Nat} {D D' G E P : Int → Int}
theorem zrow_m (h : zOK B N D G E P) (hD : ∀ p : Int, 0 ≤ p → p ≤ N → D p ≤ D' p) (k : Nat) {S S' : zS} (h0 : S.1 (k * 8) ≤ S'.1 (k * 8)) (hF : ∀ t : Int, 0 ≤ t → t ≤ N → S.2.1 t ≤ S'.2.1 t) (hl : S.2.2 ≤ S'.2.2) :
    ∀ i : Nat, i ≤ N → (zrow D G E P k S i).1 (k * 8) ≤ (zrow D' G E P k S' i).1 (k * 8) ∧ (∀ j : Nat, j < i → (zrow D G E P k S i).1 (k * 8 + P j) ≤ (zrow D' G E P k S' i).1 (k * 8 + P j)) ∧ (∀ t : Int, 0 ≤ t → t ≤ N → (zrow D G E P k S i).2.1 t ≤ (zrow D' G E P k S' i).2.1 t) ∧ (zrow D G E P k S i).2.2 ≤ (zrow D' G E P k S' i).2.2 := by
  intro i
  induction i with
  | zero => intro _; exact ⟨h0, fun j hj => absurd hj (by omega), hF, hl⟩
  | succ i ih =>
    intro hi
    obtain ⟨i1, i2, i3, i4⟩ := ih (by omega)
    have hp := h.2.2.1 i (by omega)
    have ht := h.tel (show i < N by omega)
    have hd := hD (E (P i)) ht.1 ht.2.1
    have hf := i3 (E (P i)) ht.1 ht.2.1
    have hbeg : zbeg E k (P i) (zrow D G E P k S i) ≤ zbeg E k (P i) (zrow D' G E P k S' i) := by
      have hk : (zrow D G E P k S i).1 (k * 8 + E (P i)) ≤ (zrow D' G E P k S' i).1 (k * 8 + E (P i)) := by
        rcases h.2.2.2.2 i (by omega) with e | ⟨j, hj, e⟩
        · rw [e, show (k : Int) * 8 + 0 = k * 8 by omega]; exact i1
        · rw [e]; exact i2 j hj
      unfold zbeg; omega
    show (zstep D G E k (P i) (zrow D G E P k S i)).1 _ ≤ (zstep D' G E k (P i) (zrow D' G E P k S' i)).1 _ ∧ (∀ j : Nat, j < i + 1 → (zstep D G E k (P i) (zrow D G E P k S i)).1 _ ≤ (zstep D' G E k (P i) (zrow D' G E P k S' i)).1 _) ∧ (∀ t : Int, 0 ≤ t → t ≤ N → (zstep D G E k (P i) (zrow D G E P k S i)).2.1 t ≤ (zstep D' G E k (P i) (zrow D' G E P k S' i)).2.1 t) ∧ (zstep D G E k (P i) (zrow D G E P k S i)).2.2 ≤ (zstep D' G E k (P i) (zrow D' G E P k S' i)).2.2
    generalize zrow D G E P k S i = S1 at i1 i2 i3 i4 hf hbeg
    generalize zrow D' G E P k S' i = S2 at i1 i2 i3 i4 hf hbeg
    unfold zstep
    refine ⟨?_, fun j hj => ?_, fun t a c => ?_, ?_⟩
    · dsimp only; rw [zst_ne _ _ (by omega), zst_ne _ _ (by omega)]; exact i1
    · dsimp only
      by_cases ej : P j = P i
      · rw [ej, zst_same, zst_same]; omega
      · rw [zst_ne _ _ (by omega), zst_ne _ _ (by omega)]
        exact i2 j (by rcases Nat.lt_or_ge j i with g | g; exact g; exact absurd (by rw [show j = i by omega]) ej)
    · dsimp only
      by_cases et : t = E (P i)
      · rw [et, zst_same, zst_same]; omega
      · rw [zst_ne _ _ et, zst_ne _ _ et]; exact i3 t a c
    · dsimp only; omega
theorem zLAST_m (h : zOK B N D G E P) (hD : ∀ p : Int, 0 ≤ p → p ≤ N → D p ≤ D' p) {M : Nat} (hM : M ≤ 3) : zLAST D G E P N M ≤ zLAST D' G E P N M := by
  have key : ∀ k : Nat, k ≤ 3 → (∀ j : Nat, j < 3 → (zall D G E P N (fun _ => 0) k).1 (j * 8) ≤ (zall D' G E P N (fun _ => 0) k).1 (j * 8)) ∧ (∀ t : Int, 0 ≤ t → t ≤ N → (zall D G E P N (fun _ => 0) k).2.1 t ≤ (zall D' G E P N (fun _ => 0) k).2.1 t) ∧ (zall D G E P N (fun _ => 0) k).2.2 ≤ (zall D' G E P N (fun _ => 0) k).2.2 := by
    intro k
    induction k with
    | zero => intro _; exact ⟨fun j _ => Int.le_refl _, fun t _ _ => Int.le_refl _, Int.le_refl _⟩
    | succ k ih =>
      intro hk
      obtain ⟨i1, i2, i3⟩ := ih (by omega)
      obtain ⟨r1, r2, r3, r4⟩ := zrow_m h hD k (S := zall D G E P N (fun _ => 0) k) (S' := zall D' G E P N (fun _ => 0) k) (i1 k (by omega)) i2 i3 N (Nat.le_refl _)
      refine ⟨fun j hj => ?_, r3, r4⟩
      show (zrow D G E P k (zall D G E P N (fun _ => 0) k) N).1 _ ≤ (zrow D' G E P k (zall D' G E P N (fun _ => 0) k) N).1 _
      by_cases ej : j = k
      · subst ej; exact r1
      · have hne : ∀ i : Nat, i < N → ((j : Int) * 8) ≠ k * 8 + P i := fun i hi => by have := h.2.2.1 i hi; have := h.1; omega
        have ho : ∀ (D0 : Int → Int) (S : zS) (i : Nat), i ≤ N → (zrow D0 G E P k S i).1 (j * 8) = S.1 (j * 8) := by
          intro D0 S i
          induction i with
          | zero => intro _; rfl
          | succ i ih =>
            intro hi
            show (zstep D0 G E k (P i) (zrow D0 G E P k S i)).1 _ = _
            unfold zstep; dsimp only
            rw [zst_ne _ _ (hne i (by omega)), ih (by omega)]
        rw [ho D _ N (Nat.le_refl _), ho D' _ N (Nat.le_refl _)]
        exact i1 j hj
  exact (key M hM).2.2
end MONO
/-- delays that have come -/
def zcom (D : Int → Int) (w : Int) : Int → Int := fun p => if zkb w p = true then D p else 1
theorem zcom_ok {B : Int} {N : Nat} {D G E P : Int → Int} {w : Int} (hO : zOK B N D G E P) : zOK B N (zcom D w) G E P := by
  obtain ⟨h1, h2, h3⟩ := hO
  refine ⟨h1, fun q a b => ?_, h3⟩
  have := h2 q a b
  unfold zcom; split <;> omega
def zLC (D G E P : Int → Int) (N M : Nat) (w : Int) : Int := zLAST (zcom D w) G E P N M
/-- who has a delay that may count, of the first i -/
def zwty (D E P : Int → Int) (N : Nat) : Nat → Int
  | 0 => 0
  | i + 1 => if 1 < D i ∧ 0 < zcnt E P i N then zor (zwty D E P N i) (zshl 1 i) else zwty D E P N i
theorem zor_lt {x p : Int} (hx : 0 ≤ x ∧ x < 256) (hp : 0 ≤ p ∧ p < 8) : 0 ≤ zor x (zshl 1 p) ∧ zor x (zshl 1 p) < 256 := by
  have key : ∀ n : Nat, n < 256 → ∀ q : Nat, q < 8 → 0 ≤ zor n (zshl 1 q) ∧ zor n (zshl 1 q) < 256 := by decide +kernel
  have := key x.toNat (by omega) p.toNat (by omega)
  rw [show ((x.toNat : Nat) : Int) = x by omega, show ((p.toNat : Nat) : Int) = p by omega] at this
  exact this
theorem zwty_b {D E P : Int → Int} {N : Nat} : ∀ i : Nat, i ≤ 8 → 0 ≤ zwty D E P N i ∧ zwty D E P N i < 256
  | 0, _ => by unfold zwty; omega
  | i + 1, hi => by
    have ih := zwty_b (D := D) (E := E) (P := P) (N := N) i (by omega)
    unfold zwty
    split
    · exact zor_lt ih (by omega)
    · exact ih
theorem zcnt_b {E P : Int → Int} {x : Int} : ∀ i : Nat, 0 ≤ zcnt E P x i ∧ zcnt E P x i ≤ i
  | 0 => by unfold zcnt; omega
  | i + 1 => by have := zcnt_b (E := E) (P := P) (x := x) i; have := zb_01 (E (P i) = x); unfold zcnt; omega
/-- the share's sum, over the first k sets -/
def zshs (L : Int → Int) (own oth : Int) (many : Int) : Nat → Int
  | 0 => 0
  | k + 1 => zshs L own oth many k + (if zand k (zxor oth (-1)) = 0 then zfac (zones k 8) * zfac (many - zones k 8) * (L (zor k own) - L k) else 0)
/-- the chances from a place on -/
def zchf (E P : Int → Int) (v x : Int) : Nat → Int → Int → Int
  | 0, _, w => if v ≤ zones w 8 then 1 else 0
  | k + 1, pl, w => if zkb w (E (P pl)) = false then 10 * zchf E P v x k (pl + 1) w else x * zchf E P v x k (pl + 1) w + (10 - x) * zchf E P v x k (pl + 1) (zor w (zshl 1 (P pl)))
section SHARE
variable {d : Nat} {h : zH} {Q : Option zV → zH → Prop} {N M : Nat} {D G E P : Int → Int} {T U : zTD} {C : Int → Int} {l fi ct : Int} {S : Nat → zTD} {fl : Int} {Kp : Nat → zTD} {W Kt : Int → Int} {c sd : Int} {O : Int → Int}
theorem c_X9_peopleWhose (hW : zCW h (N, M, D, G, E, P) U C l fi ct S fl Kp W Kt c sd O) (hO : zOK 9 N D G E P) (hQ : Q (some (vI (zwty D E P N (N + 1)))) h) : zC (d + 3) mX9_peopleWhoseDelayMayCount 0 0 [vR 2] h Q := by
  have hN := hO.1
  have zo2 := hW.ob
  have zo3 := hW.nw.2.1
  have key : ∀ i : Nat, i ≤ N + 1 → Z (d + 3) mX9_peopleWhoseDelayMayCount zo 4 [some (vR 2), some (vI (zwty D E P N i)), some (vI i)] [] h Q := by
    refine z_loop (N + 1) ?_ ?_
    · refine z_iload_n 5 dX9_peopleWhoseDelayMayCount_4 rfl rfl ?_
      refine z_aload_n 6 dX9_peopleWhoseDelayMayCount_5 rfl rfl ?_
      refine z_getf (ci := 9) 9 dX9_peopleWhoseDelayMayCount_6 rfl rfl zin_9 0 (by decide) zw_224 (by first | with_reducible assumption | with_reducible exact zup_same _ _ _) rfl ?_
      refine z_cV0 12 dX9_peopleWhoseDelayMayCount_9 rfl kX6_people zw_401 (Nat.le_of_ble_eq_true rfl) ⟨Nat.le_refl _, Nat.le_refl _⟩ (by first | with_reducible assumption | with_reducible exact zup_same _ _ _) ?_
      refine c_X6_people hW.nw ?_
      refine z_icmp_ge 50 15 dX9_peopleWhoseDelayMayCount_12 (by decide) rfl (by first | omega | exact zr_b _ | exact zr_and _ _ | exact zr_or _ _ | exact zr_shl _ _) (by first | omega | exact zr_b _ | exact zr_and _ _ | exact zr_or _ _ | exact zr_shl _ _) (fun c12 => ?_) (fun c12 => ?_)
      · refine z_iload_n 51 dX9_peopleWhoseDelayMayCount_50 rfl rfl ?_
        refine z_ret dX9_peopleWhoseDelayMayCount_51 (by first | exact True.intro | exact Or.inl rfl | exact Or.inr rfl | exact zb_01 _ | assumption | (show _ ∨ _; omega)) ⟨Nat.le_refl _, Nat.le_refl _⟩ ?_
        exact hQ
      · exfalso; omega
    · intro i hi ih
      have hd := hO.2.1 i (by omega) (by omega)
      have hc := zcnt_b (E := E) (P := P) (x := i) N
      refine z_iload_n 5 dX9_peopleWhoseDelayMayCount_4 rfl rfl ?_
      refine z_aload_n 6 dX9_peopleWhoseDelayMayCount_5 rfl rfl ?_
      refine z_getf (ci := 9) 9 dX9_peopleWhoseDelayMayCount_6 rfl rfl zin_9 0 (by decide) zw_224 (by first | with_reducible assumption | with_reducible exact zup_same _ _ _) rfl ?_
      refine z_cV0 12 dX9_peopleWhoseDelayMayCount_9 rfl kX6_people zw_401 (Nat.le_of_ble_eq_true rfl) ⟨Nat.le_refl _, Nat.le_refl _⟩ (by first | with_reducible assumption | with_reducible exact zup_same _ _ _) ?_
      refine c_X6_people hW.nw ?_
      refine z_icmp_ge 50 15 dX9_peopleWhoseDelayMayCount_12 (by decide) rfl (by first | omega | exact zr_b _ | exact zr_and _ _ | exact zr_or _ _ | exact zr_shl _ _) (by first | omega | exact zr_b _ | exact zr_and _ _ | exact zr_or _ _ | exact zr_shl _ _) (fun c12 => ?_) (fun c12 => ?_)
      · exfalso; omega
      · refine z_aload_n 16 dX9_peopleWhoseDelayMayCount_15 rfl rfl ?_
        refine z_getf (ci := 9) 19 dX9_peopleWhoseDelayMayCount_16 rfl rfl zin_9 0 (by decide) zw_224 (by first | with_reducible assumption | with_reducible exact zup_same _ _ _) rfl ?_
        refine z_iload_n 20 dX9_peopleWhoseDelayMayCount_19 rfl rfl ?_
        refine z_cV1 23 dX9_peopleWhoseDelayMayCount_20 rfl kX6_delayOf zw_486 (Nat.le_of_ble_eq_true rfl) ⟨Nat.le_refl _, Nat.le_refl _⟩ (by first | with_reducible assumption | with_reducible exact zup_same _ _ _) ?_
        refine c_X6_delayOf hW.nw (by omega) ?_
        refine z_iconst 24 dX9_peopleWhoseDelayMayCount_23 rfl ?_
        refine z_icmp_le 44 27 dX9_peopleWhoseDelayMayCount_24 (by decide) rfl (by first | omega | exact zr_b _ | exact zr_and _ _ | exact zr_or _ _ | exact zr_shl _ _) (by first | omega | exact zr_b _ | exact zr_and _ _ | exact zr_or _ _ | exact zr_shl _ _) (fun c24 => ?_) (fun c24 => ?_)
        · rw [show zwty D E P N (i + 1) = zwty D E P N i from if_neg (by omega)] at ih
          refine z_iinc 47 dX9_peopleWhoseDelayMayCount_44 rfl (by decide) rfl ?_
          refine z_goto 4 dX9_peopleWhoseDelayMayCount_47 (by decide) ?_
          exact ih
        · refine z_aload_n 28 dX9_peopleWhoseDelayMayCount_27 rfl rfl ?_
          refine z_getf (ci := 9) 31 dX9_peopleWhoseDelayMayCount_28 rfl rfl zin_9 0 (by decide) zw_224 (by first | with_reducible assumption | with_reducible exact zup_same _ _ _) rfl ?_
          refine z_iload_n 32 dX9_peopleWhoseDelayMayCount_31 rfl rfl ?_
          refine z_cV1 35 dX9_peopleWhoseDelayMayCount_32 rfl kX6_countToldBy zw_494 (Nat.le_of_ble_eq_true rfl) ⟨Nat.le_refl _, Nat.le_refl _⟩ (by first | with_reducible assumption | with_reducible exact zup_same _ _ _) ?_
          refine c_X6_countToldBy hW.nw hN (by omega) hO.v8 ?_
          refine z_if_le 44 38 dX9_peopleWhoseDelayMayCount_35 (by decide) rfl (by first | omega | exact zr_b _ | exact zr_and _ _ | exact zr_or _ _ | exact zr_shl _ _) (fun c35 => ?_) (fun c35 => ?_)
          · rw [show zwty D E P N (i + 1) = zwty D E P N i from if_neg (by omega)] at ih
            refine z_iinc 47 dX9_peopleWhoseDelayMayCount_44 rfl (by decide) rfl ?_
            refine z_goto 4 dX9_peopleWhoseDelayMayCount_47 (by decide) ?_
            exact ih
          · rw [show zwty D E P N (i + 1) = zor (zwty D E P N i) (zshl 1 i) from if_pos (by omega)] at ih
            refine z_iload_n 39 dX9_peopleWhoseDelayMayCount_38 rfl rfl ?_
            refine z_iconst 40 dX9_peopleWhoseDelayMayCount_39 rfl ?_
            refine z_iload_n 41 dX9_peopleWhoseDelayMayCount_40 rfl rfl ?_
            refine z_ishl 42 dX9_peopleWhoseDelayMayCount_41 rfl ?_
            refine z_ior 43 dX9_peopleWhoseDelayMayCount_42 rfl ?_
            refine z_istore_n 44 dX9_peopleWhoseDelayMayCount_43 rfl (by decide) ?_
            refine z_iinc 47 dX9_peopleWhoseDelayMayCount_44 rfl (by decide) rfl ?_
            refine z_goto 4 dX9_peopleWhoseDelayMayCount_47 (by decide) ?_
            exact ih
  refine zC.of zpl_X9 (Nat.le_of_ble_eq_true rfl) ?_
  refine z_iconst 1 dX9_peopleWhoseDelayMayCount_0 rfl ?_
  refine z_istore_n 2 dX9_peopleWhoseDelayMayCount_1 rfl (by decide) ?_
  refine z_iconst 3 dX9_peopleWhoseDelayMayCount_2 rfl ?_
  refine z_istore_n 4 dX9_peopleWhoseDelayMayCount_3 rfl (by decide) ?_
  exact key 0 (Nat.zero_le _)
theorem c_X9_lastWhenCome {D0 : Int → Int} {w : Int} (hW : zCW h (N, M, D, G, E, P) (N, M, D0, G, E, P) C l fi ct S fl Kp W Kt c sd O) (hO : zOK 9 N D G E P) (hM : M ≤ 3) (hQ : ∀ (h' : zH) (D' : Int → Int), zCW h' (N, M, D, G, E, P) (N, M, D', G, E, P) C l fi ct S fl Kp W Kt c sd O → zMod 2 111 h h' → Q (some (vI (zLC D G E P N M w))) h') : zC (d + 4) mX9_lastWhenCome 0 0 [vR 2, vI w] h Q := by
  have hN := hO.1
  have hOw := zcom_ok (w := w) hO
  have key : ∀ i : Nat, i ≤ N + 1 → ∀ (h' : zH) (D' : Int → Int), (∀ j : Nat, j < i → D' j = zcom D w j) → zCW h' (N, M, D, G, E, P) (N, M, D', G, E, P) C l fi ct S fl Kp W Kt c sd O → zMod 2 111 h h' → Z (d + 4) mX9_lastWhenCome zo 2 [some (vR 2), some (vI w), some (vI i)] [] h' Q := by
    refine z_loop (N + 1) ?_ ?_
    · intro h' D' hD' hW' hF
      have hD2 : ∀ p : Int, 0 ≤ p → p ≤ N → D' p = zcom D w p := fun p a b => by
        have := hD' p.toNat (by omega)
        rw [show ((p.toNat : Nat) : Int) = p by omega] at this
        exact this
      have hO' : zOK 9 N D' G E P := ⟨hOw.1, fun p a b => by rw [hD2 p a b]; exact hOw.2.1 p a b, hOw.2.2⟩
      have eL : zLAST D' G E P N M = zLC D G E P N M w := zLAST_cg hO' (fun p a b => ⟨hD2 p a b, rfl⟩) (fun i hi => ⟨rfl, rfl⟩) M
      have zo2 := hW'.ob
      have zo3 := hW'.nw.2.1
      have zo8 := hW'.su.2.1
      obtain ⟨K, F, hX, hK0⟩ := hW'.ti
      have zo13 := hX.2.1
      refine z_iload_n 3 dX9_lastWhenCome_2 rfl rfl ?_
      refine z_aload_n 4 dX9_lastWhenCome_3 rfl rfl ?_
      refine z_getf (ci := 9) 7 dX9_lastWhenCome_4 rfl rfl zin_9 0 (by decide) zw_224 (by first | with_reducible assumption | with_reducible exact zup_same _ _ _) rfl ?_
      refine z_cV0 10 dX9_lastWhenCome_7 rfl kX6_people zw_401 (Nat.le_of_ble_eq_true rfl) ⟨Nat.le_refl _, Nat.le_refl _⟩ (by first | with_reducible assumption | with_reducible exact zup_same _ _ _) ?_
      refine c_X6_people hW'.nw ?_
      refine z_icmp_ge 47 13 dX9_lastWhenCome_10 (by decide) rfl (by first | omega | exact zr_b _ | exact zr_and _ _ | exact zr_or _ _ | exact zr_shl _ _) (by first | omega | exact zr_b _ | exact zr_and _ _ | exact zr_or _ _ | exact zr_shl _ _) (fun c10 => ?_) (fun c10 => ?_)
      · refine z_aload_n 48 dX9_lastWhenCome_47 rfl rfl ?_
        refine z_getf (ci := 9) 51 dX9_lastWhenCome_48 rfl rfl zin_9 2 (by decide) zw_226 (by first | with_reducible assumption | with_reducible exact zup_same _ _ _) rfl ?_
        refine z_aload_n 52 dX9_lastWhenCome_51 rfl rfl ?_
        refine z_getf (ci := 9) 55 dX9_lastWhenCome_52 rfl rfl zin_9 1 (by decide) zw_225 (by first | with_reducible assumption | with_reducible exact zup_same _ _ _) rfl ?_
        refine z_cV1 58 dX9_lastWhenCome_55 rfl kX8_follow zw_357 (Nat.le_of_ble_eq_true rfl) ⟨Nat.le_refl _, Nat.le_refl _⟩ (by first | with_reducible assumption | with_reducible exact zup_same _ _ _) ?_
        refine w_fol8 hW' hO' (by omega) hM (fun h2 K2 F2 hW2 hX2 hT2 hF2 => ?_)
        rw [eL]
        refine z_ret dX9_lastWhenCome_58 (by first | exact True.intro | exact Or.inl rfl | exact Or.inr rfl | exact zb_01 _ | assumption | (show _ ∨ _; omega)) ⟨Nat.le_refl _, Nat.le_refl _⟩ ?_
        exact hQ _ _ hW2 (hF.tr hF2)
      · exfalso; omega
    · intro i hi ih h' D' hD' hW' hF
      have step : ∀ x : Int, x = zcom D w i → ∀ j : Nat, j < i + 1 → zst D' i x j = zcom D w j := fun x ex j hj => by
        by_cases e : j = i
        · subst e; rw [zst_same]; exact ex
        · rw [zst_ne _ _ (by omega)]; exact hD' j (by omega)
      have zo2 := hW'.ob
      have zo3 := hW'.nw.2.1
      have zo8 := hW'.su.2.1
      refine z_iload_n 3 dX9_lastWhenCome_2 rfl rfl ?_
      refine z_aload_n 4 dX9_lastWhenCome_3 rfl rfl ?_
      refine z_getf (ci := 9) 7 dX9_lastWhenCome_4 rfl rfl zin_9 0 (by decide) zw_224 (by first | with_reducible assumption | with_reducible exact zup_same _ _ _) rfl ?_
      refine z_cV0 10 dX9_lastWhenCome_7 rfl kX6_people zw_401 (Nat.le_of_ble_eq_true rfl) ⟨Nat.le_refl _, Nat.le_refl _⟩ (by first | with_reducible assumption | with_reducible exact zup_same _ _ _) ?_
      refine c_X6_people hW'.nw ?_
      refine z_icmp_ge 47 13 dX9_lastWhenCome_10 (by decide) rfl (by first | omega | exact zr_b _ | exact zr_and _ _ | exact zr_or _ _ | exact zr_shl _ _) (by first | omega | exact zr_b _ | exact zr_and _ _ | exact zr_or _ _ | exact zr_shl _ _) (fun c10 => ?_) (fun c10 => ?_)
      · exfalso; omega
      · refine z_aload_n 14 dX9_lastWhenCome_13 rfl rfl ?_
        refine z_getf (ci := 9) 17 dX9_lastWhenCome_14 rfl rfl zin_9 1 (by decide) zw_225 (by first | with_reducible assumption | with_reducible exact zup_same _ _ _) rfl ?_
        refine z_iload_n 18 dX9_lastWhenCome_17 rfl rfl ?_
        refine z_iload_n 19 dX9_lastWhenCome_18 rfl rfl ?_
        refine z_iload_n 20 dX9_lastWhenCome_19 rfl rfl ?_
        refine z_ishr 21 dX9_lastWhenCome_20 rfl ?_
        refine z_iconst 22 dX9_lastWhenCome_21 rfl ?_
        refine z_iand 23 dX9_lastWhenCome_22 rfl ?_
        refine z_if_eq 37 26 dX9_lastWhenCome_23 (by decide) rfl (by first | omega | exact zr_b _ | exact zr_and _ _ | exact zr_or _ _ | exact zr_shl _ _) (fun c23 => ?_) (fun c23 => ?_)
        · try replace c23 := zb_0 c23
          have ex : 1 = zcom D w i := by unfold zcom; rw [(z_has0 (by omega)).mp c23]; rfl
          refine z_iconst 38 dX9_lastWhenCome_37 rfl ?_
          refine z_cV2 41 dX9_lastWhenCome_38 rfl kX6_setDelay zw_503 (Nat.le_of_ble_eq_true rfl) ⟨Nat.le_refl _, Nat.le_refl _⟩ (by first | with_reducible assumption | with_reducible exact zup_same _ _ _) ?_
          refine w_setD8 hW' (by omega) (fun h2 hW2 hF2 => ?_)
          refine z_iinc 44 dX9_lastWhenCome_41 rfl (by decide) rfl ?_
          refine z_goto 2 dX9_lastWhenCome_44 (by decide) ?_
          exact ih h2 _ (step _ ex) hW2 (hF.tr hF2)
        · try replace c23 := zb_1 c23
          have ex : D i = zcom D w i := by
            unfold zcom
            cases hz : zkb w i with
            | false => exact absurd ((z_has0 (by omega)).mpr hz) c23
            | true => rfl
          refine z_aload_n 27 dX9_lastWhenCome_26 rfl rfl ?_
          refine z_getf (ci := 9) 30 dX9_lastWhenCome_27 rfl rfl zin_9 0 (by decide) zw_224 (by first | with_reducible assumption | with_reducible exact zup_same _ _ _) rfl ?_
          refine z_iload_n 31 dX9_lastWhenCome_30 rfl rfl ?_
          refine z_cV1 34 dX9_lastWhenCome_31 rfl kX6_delayOf zw_486 (Nat.le_of_ble_eq_true rfl) ⟨Nat.le_refl _, Nat.le_refl _⟩ (by first | with_reducible assumption | with_reducible exact zup_same _ _ _) ?_
          refine c_X6_delayOf hW'.nw (by omega) ?_
          refine z_goto 38 dX9_lastWhenCome_34 (by decide) ?_
          refine z_cV2 41 dX9_lastWhenCome_38 rfl kX6_setDelay zw_503 (Nat.le_of_ble_eq_true rfl) ⟨Nat.le_refl _, Nat.le_refl _⟩ (by first | with_reducible assumption | with_reducible exact zup_same _ _ _) ?_
          refine w_setD8 hW' (by omega) (fun h2 hW2 hF2 => ?_)
          refine z_iinc 44 dX9_lastWhenCome_41 rfl (by decide) rfl ?_
          refine z_goto 2 dX9_lastWhenCome_44 (by decide) ?_
          exact ih h2 _ (step _ ex) hW2 (hF.tr hF2)
  refine zC.of zpl_X9 (Nat.le_of_ble_eq_true rfl) ?_
  refine z_iconst 1 dX9_lastWhenCome_0 rfl ?_
  refine z_istore_n 2 dX9_lastWhenCome_1 rfl (by decide) ?_
  exact key 0 (Nat.zero_le _) h D0 (fun j hj => absurd hj (by omega)) hW (zMod.rf _ _ _)
theorem c_X9_share_no {p up : Int} (hW : zCW h (N, M, D, G, E, P) U C l fi ct S fl Kp W Kt c sd O) (hN : N ≤ 7) (hp : (-2147483648 ≤ p ∧ p ≤ 2147483647) ∧ ¬ (0 ≤ p ∧ p < N + 1)) (hQ : Q (some (vI (-1))) h) : zC (d + 5) mX9_share 0 0 [vR 2, vI p, vI up] h Q := by
  have zo2 := hW.ob
  have zo3 := hW.nw.2.1
  refine zC.of zpl_X9 (Nat.le_of_ble_eq_true rfl) ?_
  refine z_aload_n 1 dX9_share_0 rfl rfl ?_
  refine z_getf (ci := 9) 4 dX9_share_1 rfl rfl zin_9 0 (by decide) zw_224 (by first | with_reducible assumption | with_reducible exact zup_same _ _ _) rfl ?_
  refine z_iload_n 5 dX9_share_4 rfl rfl ?_
  refine z_cV1 8 dX9_share_5 rfl kX6_hasPerson zw_482 (Nat.le_of_ble_eq_true rfl) ⟨Nat.le_refl _, Nat.le_refl _⟩ (by first | with_reducible assumption | with_reducible exact zup_same _ _ _) ?_
  refine c_X6_hasPerson hW.nw hp.1 (by omega) ?_
  refine z_if_ne 13 11 dX9_share_8 (by decide) rfl (by first | omega | exact zr_b _ | exact zr_and _ _ | exact zr_or _ _ | exact zr_shl _ _) (fun c8 => ?_) (fun c8 => ?_)
  · exact absurd (zb_1 c8) (by omega)
  · try replace c8 := zb_0 c8
    refine z_iconst 12 dX9_share_11 rfl ?_
    refine z_ret dX9_share_12 (by first | exact True.intro | exact Or.inl rfl | exact Or.inr rfl | exact zb_01 _ | assumption | (show _ ∨ _; omega)) ⟨Nat.le_refl _, Nat.le_refl _⟩ ?_
    exact hQ
theorem c_X9_share_0 {p up : Int} (hW : zCW h (N, M, D, G, E, P) U C l fi ct S fl Kp W Kt c sd O) (hO : zOK 9 N D G E P) (hp : 0 ≤ p ∧ p ≤ N) (hup : up = 0 ∨ up = 1) (hz : zand (zwty D E P N (N + 1)) (zshl 1 p) = 0) (hQ : Q (some (vI (zpart 0 1 up))) h) : zC (d + 5) mX9_share 0 0 [vR 2, vI p, vI up] h Q := by
  have hN := hO.1
  have zo2 := hW.ob
  have zo3 := hW.nw.2.1
  refine zC.of zpl_X9 (Nat.le_of_ble_eq_true rfl) ?_
  refine z_aload_n 1 dX9_share_0 rfl rfl ?_
  refine z_getf (ci := 9) 4 dX9_share_1 rfl rfl zin_9 0 (by decide) zw_224 (by first | with_reducible assumption | with_reducible exact zup_same _ _ _) rfl ?_
  refine z_iload_n 5 dX9_share_4 rfl rfl ?_
  refine z_cV1 8 dX9_share_5 rfl kX6_hasPerson zw_482 (Nat.le_of_ble_eq_true rfl) ⟨Nat.le_refl _, Nat.le_refl _⟩ (by first | with_reducible assumption | with_reducible exact zup_same _ _ _) ?_
  refine c_X6_hasPerson hW.nw (by omega) (by omega) ?_
  refine z_if_ne 13 11 dX9_share_8 (by decide) rfl (by first | omega | exact zr_b _ | exact zr_and _ _ | exact zr_or _ _ | exact zr_shl _ _) (fun c8 => ?_) (fun c8 => ?_)
  · try replace c8 := zb_1 c8
    refine z_iconst 14 dX9_share_13 rfl ?_
    refine z_iload_n 15 dX9_share_14 rfl rfl ?_
    refine z_ishl 16 dX9_share_15 rfl ?_
    refine z_istore_n 17 dX9_share_16 rfl (by decide) ?_
    refine z_aload_n 18 dX9_share_17 rfl rfl ?_
    refine z_cV0 21 dX9_share_18 rfl kX9_peopleWhoseDelayMayCount zw_689 (Nat.le_of_ble_eq_true rfl) ⟨Nat.le_refl _, Nat.le_refl _⟩ (by first | with_reducible assumption | with_reducible exact zup_same _ _ _) ?_
    refine c_X9_peopleWhose hW hO ?_
    refine z_istore 23 dX9_share_21 rfl (by decide) ?_
    refine z_iload 25 dX9_share_23 rfl rfl ?_
    refine z_iload_n 26 dX9_share_25 rfl rfl ?_
    refine z_iand 27 dX9_share_26 rfl ?_
    refine z_if_ne 37 30 dX9_share_27 (by decide) rfl (by first | omega | exact zr_b _ | exact zr_and _ _ | exact zr_or _ _ | exact zr_shl _ _) (fun c27 => ?_) (fun c27 => ?_)
    · exact absurd hz c27
    · try replace c27 := zb_0 c27
      refine z_lconst 31 dX9_share_30 rfl ?_
      refine z_lconst 32 dX9_share_31 rfl ?_
      refine z_iload_n 33 dX9_share_32 rfl rfl ?_
      refine z_cS3 36 dX9_share_33 rfl kX9_partOfFraction zw_693 (Nat.le_of_ble_eq_true rfl) ⟨Nat.le_refl _, Nat.le_refl _⟩ ?_
      refine c_X9_partOfFraction (a := 0) (b := 1) (by decide) (by decide) hup ?_
      refine z_ret dX9_share_36 (by first | exact True.intro | exact Or.inl rfl | exact Or.inr rfl | exact zb_01 _ | assumption | (show _ ∨ _; omega)) ⟨Nat.le_refl _, Nat.le_refl _⟩ ?_
      exact hQ
  · exact absurd (show 0 ≤ p ∧ p < ((N + 1 : Nat) : Int) by omega) (zb_0 c8)
theorem zfac_b {k : Int} (h : 0 ≤ k ∧ k ≤ 7) : 1 ≤ zfac k ∧ zfac k ≤ 5040 := by
  rcases (show k = 0 ∨ k = 1 ∨ k = 2 ∨ k = 3 ∨ k = 4 ∨ k = 5 ∨ k = 6 ∨ k = 7 by omega) with rfl | rfl | rfl | rfl | rfl | rfl | rfl | rfl <;> decide
theorem z_sub256 : ∀ n : Nat, n < 256 → ∀ k : Nat, k < 256 → zand k (zxor n (-1)) = 0 → zones k 8 ≤ zones n 8 := by decide +kernel
end SHARE
