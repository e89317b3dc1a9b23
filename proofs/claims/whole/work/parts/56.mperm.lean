/-! THE PLAN's row is a permutation of 1 .. N -/
def z1N (N : Nat) : List Int := (List.range N).map (fun i => ((i + 1 : Nat) : Int))
theorem z1N_s (N : Nat) : z1N (N + 1) = z1N N ++ [((N + 1 : Nat) : Int)] := by unfold z1N; rw [List.range_succ, List.map_append]; rfl
/-- how many of 1 .. i have the teller x -/
def zct (E : Int → Int) (x : Int) : Nat → Int
  | 0 => 0
  | i + 1 => zct E x i + zb (E ((i + 1 : Nat) : Int) = x)
section MPERM
variable {B : Int} {N M : Nat} {D G E P : Int → Int}
theorem zOK.perm (h : zOK B N D G E P) : (zpl P N).Perm (z1N N) := by
  refine (List.perm_ext_iff_of_nodup ?_ ?_).mpr (fun a => ?_)
  · unfold zpl List.Nodup
    rw [List.pairwise_map]
    refine List.Pairwise.imp_of_mem (R := fun a b => a < b) (fun {a b} ha hb hl e => ?_) List.pairwise_lt_range
    have := h.2.2.2.1 a b (List.mem_range.mp ha) (List.mem_range.mp hb) e
    omega
  · unfold z1N List.Nodup
    rw [List.pairwise_map]
    exact List.Pairwise.imp (fun {a b} hl e => by omega) List.pairwise_lt_range
  · unfold zpl z1N
    simp only [List.mem_map, List.mem_range]
    constructor
    · rintro ⟨i, hi, rfl⟩
      have := h.2.2.1 i hi
      exact ⟨(P i).toNat - 1, by omega, by omega⟩
    · rintro ⟨i, hi, rfl⟩
      obtain ⟨j, hj, e⟩ := h.surj ((i + 1 : Nat) : Int) (by omega) (by omega)
      exact ⟨j, hj, e⟩
theorem zcnt_l (E P : Int → Int) (x : Int) : ∀ k : Nat, zcnt E P x k = (((zpl P k).countP (fun q => decide (E q = x)) : Nat) : Int)
  | 0 => rfl
  | k + 1 => by
    rw [zpl_s, List.countP_append]
    by_cases e : E (P k) = x
    · rw [zcnt_t e, zcnt_l E P x k]; simp [List.countP_cons, e]
    · rw [zcnt_f e, zcnt_l E P x k]; simp [List.countP_cons, e]
theorem zct_l (E : Int → Int) (x : Int) : ∀ k : Nat, zct E x k = (((z1N k).countP (fun q => decide (E q = x)) : Nat) : Int)
  | 0 => rfl
  | k + 1 => by
    rw [z1N_s, List.countP_append]
    unfold zct
    rw [zct_l E x k]
    by_cases e : E ((k + 1 : Nat) : Int) = x
    · rw [zb_t e]; simp only [List.countP_cons, List.countP_nil, e]; simp
    · rw [zb_f e]; simp only [List.countP_cons, List.countP_nil, e]; simp
theorem zct_eq (h : zOK B N D G E P) (x : Int) : zct E x N = zcnt E P x N := by
  rw [zct_l, zcnt_l, h.perm.countP_eq]
theorem zct_b (E : Int → Int) (x : Int) : ∀ k : Nat, 0 ≤ zct E x k ∧ zct E x k ≤ k
  | 0 => by unfold zct; omega
  | k + 1 => by
    have := zct_b E x k
    unfold zct
    by_cases e : E ((k + 1 : Nat) : Int) = x
    · rw [zb_t e]; omega
    · rw [zb_f e]; omega
end MPERM
section MPERSON4
variable {d : Nat} {h : zH} {Q : Option zV → zH → Prop} {C : Int → Int} {l : Int} {N M : Nat} {D G E P R DI : Int → Int} {ac nx : Int} {KP IK SW ST : Int → Int} {sn sd : Int} {s : zMS}
theorem c_X10_toldBy {a : Nat} {p B : Int} (hob : h.1 112 = some (zMO s)) (hn : s.n = ((N + 1 : Nat) : Int)) (hr : h.1 a = some (zI 33 R)) (hR : zRo N M D G E P R) (hO : zOK B N D G E P) (hp : 0 ≤ p ∧ p ≤ 9) (hQ : Q (some (vI (zcnt E P p N))) h) : zC (d + 1) mX10_toldBy 0 0 [vR 112, vR a, vI p] h Q := by
  have hN := hO.1
  rw [← zct_eq hO] at hQ
  have key : ∀ i : Nat, i ≤ N → Z (d + 1) mX10_toldBy zo 5 [some (vR 112), some (vR a), some (vI p), some (vI (zct E p i)), some (vI ((i + 1 : Nat) : Int))] [] h Q := by
    refine z_loop N ?_ ?_
    · refine z_iload 7 dX10_toldBy_5 rfl rfl ?_
      refine z_aload_n 8 dX10_toldBy_7 rfl rfl ?_
      refine z_getf (ci := 10) 11 dX10_toldBy_8 rfl rfl zin_10 2 (by decide) zw_766 (by first | with_reducible assumption | with_reducible exact zup_same _ _ _) rfl ?_
      rw [hn]
      refine z_icmp_ge 39 14 dX10_toldBy_11 (by decide) rfl (by first | omega | exact zr_b _ | exact zr_and _ _ | exact zr_or _ _ | exact zr_shl _ _) (by first | omega | exact zr_b _ | exact zr_and _ _ | exact zr_or _ _ | exact zr_shl _ _) (fun c11 => ?_) (fun c11 => ?_)
      · refine z_iload_n 40 dX10_toldBy_39 rfl rfl ?_
        refine z_ret dX10_toldBy_40 (by first | exact True.intro | exact Or.inl rfl | exact Or.inr rfl | exact zb_01 _ | assumption | (show _ ∨ _; omega)) ⟨Nat.le_refl _, Nat.le_refl _⟩ ?_
        exact hQ
      · exfalso; omega
    · intro i hi ih
      have e17 := hR.2.2.1 ((i + 1 : Nat) : Int) (by omega) (by omega)
      obtain ⟨j, hj, ej⟩ := hO.surj ((i + 1 : Nat) : Int) (by omega) (by omega)
      have v8 := hO.v8 j hj
      rw [ej] at v8
      have eu : zct E p (i + 1) = zct E p i + zb (E ((i + 1 : Nat) : Int) = p) := rfl
      refine z_iload 7 dX10_toldBy_5 rfl rfl ?_
      refine z_aload_n 8 dX10_toldBy_7 rfl rfl ?_
      refine z_getf (ci := 10) 11 dX10_toldBy_8 rfl rfl zin_10 2 (by decide) zw_766 (by first | with_reducible assumption | with_reducible exact zup_same _ _ _) rfl ?_
      rw [hn]
      refine z_icmp_ge 39 14 dX10_toldBy_11 (by decide) rfl (by first | omega | exact zr_b _ | exact zr_and _ _ | exact zr_or _ _ | exact zr_shl _ _) (by first | omega | exact zr_b _ | exact zr_and _ _ | exact zr_or _ _ | exact zr_shl _ _) (fun c11 => ?_) (fun c11 => ?_)
      · exfalso; omega
      · refine z_iload_n 15 dX10_toldBy_14 rfl rfl ?_
        refine z_aload_n 16 dX10_toldBy_15 rfl rfl ?_
        refine z_bipush 18 dX10_toldBy_16 rfl (by decide) ?_
        refine z_iload 20 dX10_toldBy_18 rfl rfl ?_
        refine z_iadd 21 dX10_toldBy_20 rfl ?_
        refine z_iald 22 dX10_toldBy_21 rfl (by first | with_reducible assumption | with_reducible exact zup_same _ _ _) (by omega) (by first | omega | exact zr_b _ | exact zr_and _ _ | exact zr_or _ _ | exact zr_shl _ _) ?_
        rw [e17]
        refine z_iload_n 23 dX10_toldBy_22 rfl rfl ?_
        refine z_icmp_ne 30 26 dX10_toldBy_23 (by decide) rfl (by first | omega | exact zr_b _ | exact zr_and _ _ | exact zr_or _ _ | exact zr_shl _ _) (by first | omega | exact zr_b _ | exact zr_and _ _ | exact zr_or _ _ | exact zr_shl _ _) (fun c23 => ?_) (fun c23 => ?_)
        · rw [zb_f c23] at eu
          refine z_iconst 31 dX10_toldBy_30 rfl ?_
          refine z_iadd 32 dX10_toldBy_31 rfl ?_
          refine z_istore_n 33 dX10_toldBy_32 rfl (by decide) ?_
          refine z_iinc 36 dX10_toldBy_33 rfl (by decide) rfl ?_
          refine z_goto 5 dX10_toldBy_36 (by decide) ?_
          rw [← eu]; exact ih
        · rw [zb_t (by omega)] at eu
          refine z_iconst 27 dX10_toldBy_26 rfl ?_
          refine z_goto 31 dX10_toldBy_27 (by decide) ?_
          refine z_iadd 32 dX10_toldBy_31 rfl ?_
          refine z_istore_n 33 dX10_toldBy_32 rfl (by decide) ?_
          refine z_iinc 36 dX10_toldBy_33 rfl (by decide) rfl ?_
          refine z_goto 5 dX10_toldBy_36 (by decide) ?_
          rw [← eu]; exact ih
  refine zC.of zpl_X10 (Nat.le_of_ble_eq_true rfl) ?_
  refine z_iconst 1 dX10_toldBy_0 rfl ?_
  refine z_istore_n 2 dX10_toldBy_1 rfl (by decide) ?_
  refine z_iconst 3 dX10_toldBy_2 rfl ?_
  refine z_istore 5 dX10_toldBy_3 rfl (by decide) ?_
  exact key 0 (Nat.zero_le _)
theorem m_person4 {p : Int} (hW : zMC h C l ((N + 1 : Nat) : Int) R DI ac nx KP IK SW ST sn sd) (hR : zRo N M D G E P R) (hO : zOK 9 N D G E P) (hp : 0 ≤ p ∧ p ≤ N) (hQ : Q (some (vI (zcnt E P p N))) h) : zC (d + 5) mX10_person 0 0 [vR 112, vI p, vI 4] h Q := by
  have hN := hO.1
  obtain ⟨TR, TI, WH, BG, OD, WO, MA, RD, rp, rs, rm, rw', hW⟩ := hW
  have w112 := hW.c112
  dsimp only [zMO, zMS.C, zMS.l, zMS.n, zMS.R, zMS.TR, zMS.DI, zMS.ac, zMS.nx, zMS.KP, zMS.IK, zMS.SW, zMS.ST, zMS.sn, zMS.sd, zMS.TI, zMS.WH, zMS.BG, zMS.OD, zMS.WO, zMS.MA, zMS.rp, zMS.RD, zMS.rs, zMS.rm, zMS.rw, zMS.uC, zMS.ul, zMS.un, zMS.uR, zMS.uTR, zMS.uDI, zMS.uac, zMS.unx, zMS.uKP, zMS.uIK, zMS.uSW, zMS.uST, zMS.usn, zMS.usd, zMS.uTI, zMS.uWH, zMS.uBG, zMS.uOD, zMS.uWO, zMS.uMA, zMS.urp, zMS.uRD, zMS.urs, zMS.urm, zMS.urw] at w112
  have w114 := hW.c114
  dsimp only [zMO, zMS.C, zMS.l, zMS.n, zMS.R, zMS.TR, zMS.DI, zMS.ac, zMS.nx, zMS.KP, zMS.IK, zMS.SW, zMS.ST, zMS.sn, zMS.sd, zMS.TI, zMS.WH, zMS.BG, zMS.OD, zMS.WO, zMS.MA, zMS.rp, zMS.RD, zMS.rs, zMS.rm, zMS.rw, zMS.uC, zMS.ul, zMS.un, zMS.uR, zMS.uTR, zMS.uDI, zMS.uac, zMS.unx, zMS.uKP, zMS.uIK, zMS.uSW, zMS.uST, zMS.usn, zMS.usd, zMS.uTI, zMS.uWH, zMS.uBG, zMS.uOD, zMS.uWO, zMS.uMA, zMS.urp, zMS.uRD, zMS.urs, zMS.urm, zMS.urw] at w114
  refine zC.of zpl_X10 (Nat.le_of_ble_eq_true rfl) ?_
  refine z_aload_n 1 dX10_person_0 rfl rfl ?_
  refine z_iload_n 2 dX10_person_1 rfl rfl ?_
  refine z_cV1 5 dX10_person_2 rfl kX10_isPerson zw_939 (Nat.le_of_ble_eq_true rfl) ⟨Nat.le_refl _, Nat.le_refl _⟩ (by first | with_reducible assumption | with_reducible exact zup_same _ _ _) ?_
  refine c_X10_isPerson hW.c112 (by show 1 ≤ ((N + 1 : Nat) : Int) ∧ ((N + 1 : Nat) : Int) ≤ 8; omega) (by omega) ?_
  rw [zb_t (by show 0 ≤ (p : Int) ∧ p < ((N + 1 : Nat) : Int); omega)]
  refine z_if_ne 10 8 dX10_person_5 (by decide) rfl (by first | omega | exact zr_b _ | exact zr_and _ _ | exact zr_or _ _ | exact zr_shl _ _) (fun c5 => ?_) (fun c5 => ?_)
  · try replace c5 := zb_1 c5
    refine z_iload_n 11 dX10_person_10 rfl rfl ?_
    · refine z_tableIn 105 dX10_person_11 (by omega) (by omega) (by omega) rfl (by decide) ?_
      refine z_aload_n 106 dX10_person_105 rfl rfl ?_
      refine z_aload_n 107 dX10_person_106 rfl rfl ?_
      refine z_getf (ci := 10) 110 dX10_person_107 rfl rfl zin_10 3 (by decide) zw_767 (by first | with_reducible assumption | with_reducible exact zup_same _ _ _) rfl ?_
      refine z_iload_n 111 dX10_person_110 rfl rfl ?_
      refine z_cV2 114 dX10_person_111 rfl kX10_toldBy zw_947 (Nat.le_of_ble_eq_true rfl) ⟨Nat.le_refl _, Nat.le_refl _⟩ (by first | with_reducible assumption | with_reducible exact zup_same _ _ _) ?_
      refine c_X10_toldBy hW.c112 rfl w114 hR hO (by omega) ?_
      refine z_ret dX10_person_114 (by first | exact True.intro | exact Or.inl rfl | exact Or.inr rfl | exact zb_01 _ | assumption | (show _ ∨ _; omega)) ⟨Nat.le_refl _, Nat.le_refl _⟩ ?_
      exact hQ
  · exact absurd c5 (by decide)
theorem m_person3 {p : Int} {k : Nat} (hW : zMC h C l ((N + 1 : Nat) : Int) R DI ac nx KP IK SW ST sn sd) (hR : zRo N M D G E P R) (hO : zOK 9 N D G E P) (hp : 1 ≤ p ∧ p ≤ N) (hk : k < N) (ek : P k = p) (hQ : Q (some (vI k)) h) : zC (d + 5) mX10_person 0 0 [vR 112, vI p, vI 3] h Q := by
  have hN := hO.1
  have hW0 := hW
  obtain ⟨TR, TI, WH, BG, OD, WO, MA, RD, rp, rs, rm, rw', hW⟩ := hW
  have w112 := hW.c112
  dsimp only [zMO, zMS.C, zMS.l, zMS.n, zMS.R, zMS.TR, zMS.DI, zMS.ac, zMS.nx, zMS.KP, zMS.IK, zMS.SW, zMS.ST, zMS.sn, zMS.sd, zMS.TI, zMS.WH, zMS.BG, zMS.OD, zMS.WO, zMS.MA, zMS.rp, zMS.RD, zMS.rs, zMS.rm, zMS.rw, zMS.uC, zMS.ul, zMS.un, zMS.uR, zMS.uTR, zMS.uDI, zMS.uac, zMS.unx, zMS.uKP, zMS.uIK, zMS.uSW, zMS.uST, zMS.usn, zMS.usd, zMS.uTI, zMS.uWH, zMS.uBG, zMS.uOD, zMS.uWO, zMS.uMA, zMS.urp, zMS.uRD, zMS.urs, zMS.urm, zMS.urw] at w112
  have w114 := hW.c114
  dsimp only [zMO, zMS.C, zMS.l, zMS.n, zMS.R, zMS.TR, zMS.DI, zMS.ac, zMS.nx, zMS.KP, zMS.IK, zMS.SW, zMS.ST, zMS.sn, zMS.sd, zMS.TI, zMS.WH, zMS.BG, zMS.OD, zMS.WO, zMS.MA, zMS.rp, zMS.RD, zMS.rs, zMS.rm, zMS.rw, zMS.uC, zMS.ul, zMS.un, zMS.uR, zMS.uTR, zMS.uDI, zMS.uac, zMS.unx, zMS.uKP, zMS.uIK, zMS.uSW, zMS.uST, zMS.usn, zMS.usd, zMS.uTI, zMS.uWH, zMS.uBG, zMS.uOD, zMS.uWO, zMS.uMA, zMS.urp, zMS.uRD, zMS.urs, zMS.urm, zMS.urw] at w114
  refine zC.of zpl_X10 (Nat.le_of_ble_eq_true rfl) ?_
  refine z_aload_n 1 dX10_person_0 rfl rfl ?_
  refine z_iload_n 2 dX10_person_1 rfl rfl ?_
  refine z_cV1 5 dX10_person_2 rfl kX10_isPerson zw_939 (Nat.le_of_ble_eq_true rfl) ⟨Nat.le_refl _, Nat.le_refl _⟩ (by first | with_reducible assumption | with_reducible exact zup_same _ _ _) ?_
  refine c_X10_isPerson hW.c112 (by show 1 ≤ ((N + 1 : Nat) : Int) ∧ ((N + 1 : Nat) : Int) ≤ 8; omega) (by omega) ?_
  rw [zb_t (by show 0 ≤ (p : Int) ∧ p < ((N + 1 : Nat) : Int); omega)]
  refine z_if_ne 10 8 dX10_person_5 (by decide) rfl (by first | omega | exact zr_b _ | exact zr_and _ _ | exact zr_or _ _ | exact zr_shl _ _) (fun c5 => ?_) (fun c5 => ?_)
  · try replace c5 := zb_1 c5
    refine z_iload_n 11 dX10_person_10 rfl rfl ?_
    · refine z_tableIn 90 dX10_person_11 (by omega) (by omega) (by omega) rfl (by decide) ?_
      refine z_iload_n 91 dX10_person_90 rfl rfl ?_
      refine z_if_ne 99 94 dX10_person_91 (by decide) rfl (by first | omega | exact zr_b _ | exact zr_and _ _ | exact zr_or _ _ | exact zr_shl _ _) (fun c91 => ?_) (fun c91 => ?_)
      · try replace c91 := zb_1 c91
        refine z_aload_n 100 dX10_person_99 rfl rfl ?_
        refine z_iload_n 101 dX10_person_100 rfl rfl ?_
        refine z_cV1 104 dX10_person_101 rfl kX10_placeOf zw_943 (Nat.le_of_ble_eq_true rfl) ⟨Nat.le_refl _, Nat.le_refl _⟩ (by first | with_reducible assumption | with_reducible exact zup_same _ _ _) ?_
        refine c_X10_placeOf hW0 hR hO hp hk ek ?_
        refine z_ret dX10_person_104 (by first | exact True.intro | exact Or.inl rfl | exact Or.inr rfl | exact zb_01 _ | assumption | (show _ ∨ _; omega)) ⟨Nat.le_refl _, Nat.le_refl _⟩ ?_
        exact hQ
      · exfalso; omega
  · exact absurd c5 (by decide)
end MPERSON4
