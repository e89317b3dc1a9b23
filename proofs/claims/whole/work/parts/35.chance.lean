/-! LateLetters: share, chance -/
theorem z_oth256 : ∀ n : Nat, n < 256 → ∀ p : Nat, p < 8 → 0 ≤ zand n (zxor (zshl 1 p) (-1)) ∧ zand n (zxor (zshl 1 p) (-1)) < 256 ∧ zones (zand n (zxor (zshl 1 p) (-1))) 8 ≤ 7 := by decide +kernel
theorem z_fac77 : ∀ m : Nat, m < 8 → ∀ k : Nat, k ≤ m → 1 ≤ zfac k * zfac ((m : Int) - k) ∧ zfac k * zfac ((m : Int) - k) ≤ 5040 := by decide +kernel
theorem zfac_8 : ∀ m : Nat, m < 9 → 1 ≤ zfac m ∧ zfac m ≤ 40320 := by decide +kernel
/-- who counts but one's own, for the share -/
def zoth (D E P : Int → Int) (N : Nat) (p : Int) : Int := zand (zwty D E P N (N + 1)) (zxor (zshl 1 p) (-1))
def zshA (D G E P : Int → Int) (N M : Nat) (p : Int) : Int := zshs (zLC D G E P N M) (zshl 1 p) (zoth D E P N p) (zones (zoth D E P N p) 8) ((zoth D E P N p).toNat + 1)
section SHR
variable {B : Int} {N : Nat} {D G E P : Int → Int}
theorem zoth_b {D E P : Int → Int} {p : Int} (hN : N ≤ 7) (hp : 0 ≤ p ∧ p ≤ N) : (0 ≤ zoth D E P N p ∧ zoth D E P N p < 256) ∧ 0 ≤ zones (zoth D E P N p) 8 ∧ zones (zoth D E P N p) 8 ≤ 7 := by
  have hw := zwty_b (D := D) (E := E) (P := P) (N := N) (N + 1) (by omega)
  have h := z_oth256 (zwty D E P N (N + 1)).toNat (by omega) p.toNat (by omega)
  rw [show (((zwty D E P N (N + 1)).toNat : Nat) : Int) = zwty D E P N (N + 1) by omega, show ((p.toNat : Nat) : Int) = p by omega] at h
  have hz := zbc_ok (x := zoth D E P N p) ⟨h.1, h.2.1⟩
  exact ⟨⟨h.1, h.2.1⟩, hz.2.1, h.2.2⟩
theorem zLC_b {M : Nat} (hO : zOK 9 N D G E P) (hM : M ≤ 3) (w : Int) : 0 ≤ zLC D G E P N M w ∧ zLC D G E P N M w ≤ 840 := zLAST_b (zcom_ok hO) (by omega) hM
theorem zLC_m {M : Nat} (hO : zOK 9 N D G E P) (hM : M ≤ 3) {w p : Int} (hp : 0 ≤ p ∧ p ≤ N) : zLC D G E P N M w ≤ zLC D G E P N M (zor w (zshl 1 p)) := by
  refine zLAST_m (zcom_ok hO) (fun q a b => ?_) hM
  have hN := hO.1
  have hd := hO.2.1 q a b
  have e := zkb_orT (w := w) (p := p) (q := q) (by omega) (by omega)
  unfold zcom
  by_cases k : zkb w q = true
  · rw [if_pos k, if_pos (e.mpr (Or.inl k))]; exact Int.le_refl _
  · rw [if_neg k]; split <;> omega
theorem zshs_b {M : Nat} (hO : zOK 9 N D G E P) (hM : M ≤ 3) {p : Int} (hp : 0 ≤ p ∧ p ≤ N) : ∀ k : Nat, k ≤ 256 → 0 ≤ zshs (zLC D G E P N M) (zshl 1 p) (zoth D E P N p) (zones (zoth D E P N p) 8) k ∧ zshs (zLC D G E P N M) (zshl 1 p) (zoth D E P N p) (zones (zoth D E P N p) 8) k ≤ 4233600 * k
  | 0, _ => by unfold zshs; omega
  | k + 1, hk => by
    have ih := zshs_b hO hM hp k (by omega)
    have hb := zoth_b (D := D) (E := E) (P := P) hO.1 hp
    have l1 := zLC_b hO hM (k : Int)
    have l2 := zLC_b hO hM (zor k (zshl 1 p))
    have l3 := zLC_m (M := M) hO hM (w := k) hp
    unfold zshs
    generalize zoth D E P N p = oth at *
    split
    · next e =>
      have hs := z_sub256 oth.toNat (by omega) k (by omega) (by rw [show ((oth.toNat : Nat) : Int) = oth by omega]; exact e)
      rw [show ((oth.toNat : Nat) : Int) = oth by omega] at hs
      have hk8 := zbc_ok (x := (k : Int)) (by omega)
      have hf := z_fac77 (zones oth 8).toNat (by omega) (zones k 8).toNat (by omega)
      rw [show (((zones oth 8).toNat : Nat) : Int) = zones oth 8 by omega, show (((zones (k : Int) 8).toNat : Nat) : Int) = zones (k : Int) 8 by omega] at hf
      generalize zfac (zones (k : Int) 8) * zfac (zones oth 8 - zones (k : Int) 8) = f at hf ⊢
      have hx : 0 ≤ zLC D G E P N M (zor k (zshl 1 p)) - zLC D G E P N M k ∧ zLC D G E P N M (zor k (zshl 1 p)) - zLC D G E P N M k ≤ 840 := by omega
      generalize zLC D G E P N M (zor k (zshl 1 p)) - zLC D G E P N M k = x at hx ⊢
      have m1 : 0 ≤ f * x := Int.mul_nonneg (by omega) hx.1
      have m2 : f * x ≤ 5040 * 840 := Int.mul_le_mul hf.2 hx.2 hx.1 (by omega)
      omega
    · omega
end SHR
section CHANCE
variable {d : Nat} {h : zH} {Q : Option zV → zH → Prop} {N M : Nat} {D G E P : Int → Int} {T U : zTD} {C : Int → Int} {l fi ct : Int} {S : Nat → zTD} {fl : Int} {Kp : Nat → zTD} {W Kt : Int → Int} {c sd : Int} {O : Int → Int}
set_option maxHeartbeats 1000000 in
theorem c_X9_share {p up : Int} (hW : zCW h (N, M, D, G, E, P) U C l fi ct S fl Kp W Kt c sd O) (hO : zOK 9 N D G E P) (hM : M ≤ 3) (hp : 0 ≤ p ∧ p ≤ N) (hup : up = 0 ∨ up = 1) (hz : zand (zwty D E P N (N + 1)) (zshl 1 p) ≠ 0) (hQ : ∀ (h' : zH) (U' : zTD), zCW h' (N, M, D, G, E, P) U' C l fi ct S fl Kp W Kt c sd O → zMod 2 111 h h' → Q (some (vI (zpart (zshA D G E P N M p).toNat (zfac (zones (zoth D E P N p) 8 + 1)).toNat up))) h') : zC (d + 5) mX9_share 0 0 [vR 2, vI p, vI up] h Q := by
  have hN := hO.1
  have hb := zoth_b (D := D) (E := E) (P := P) hN hp
  have hfm := zfac_8 (zones (zoth D E P N p) 8 + 1).toNat (by omega)
  rw [show (((zones (zoth D E P N p) 8 + 1).toNat : Nat) : Int) = zones (zoth D E P N p) 8 + 1 by omega] at hfm
  have key : ∀ k : Nat, k ≤ (zoth D E P N p).toNat + 1 → ∀ (h' : zH) (D' : Int → Int) (u v : Option zV), zCW h' (N, M, D, G, E, P) (N, M, D', G, E, P) C l fi ct S fl Kp W Kt c sd O → zMod 2 111 h h' → Z (d + 5) mX9_share zo 69 [some (vR 2), some (vI p), some (vI up), some (vI (zshl 1 p)), some (vI (zwty D E P N (N + 1))), some (vI (zoth D E P N p)), some (vI (zones (zoth D E P N p) 8)), some (vJ (zshs (zLC D G E P N M) (zshl 1 p) (zoth D E P N p) (zones (zoth D E P N p) 8) k)), none, some (vI k), u, v, none] [] h' Q := by
    refine z_loop ((zoth D E P N p).toNat + 1) ?_ ?_
    · intro h' D' u v hW' hF
      have hs := zshs_b hO hM hp ((zoth D E P N p).toNat + 1) (by omega)
      have e1 : zshs (zLC D G E P N M) (zshl 1 p) (zoth D E P N p) (zones (zoth D E P N p) 8) ((zoth D E P N p).toNat + 1) = (((zshA D G E P N M p).toNat : Nat) : Int) := by unfold zshA; omega
      have hAb : (zshA D G E P N M p).toNat ≤ 2147483647 := by unfold zshA; omega
      rw [e1]
      refine z_iload 71 dX9_share_69 rfl rfl ?_
      refine z_iload 73 dX9_share_71 rfl rfl ?_
      refine z_icmp_gt 139 76 dX9_share_73 (by decide) rfl (by first | omega | exact zr_b _ | exact zr_and _ _ | exact zr_or _ _ | exact zr_shl _ _) (by first | omega | exact zr_b _ | exact zr_and _ _ | exact zr_or _ _ | exact zr_shl _ _) (fun c73 => ?_) (fun c73 => ?_)
      · refine z_lload 141 dX9_share_139 rfl rfl ?_
        refine z_iload 143 dX9_share_141 rfl rfl ?_
        refine z_iconst 144 dX9_share_143 rfl ?_
        refine z_iadd 145 dX9_share_144 rfl ?_
        refine z_cS1 148 dX9_share_145 rfl kX9_factorial zw_708 (Nat.le_of_ble_eq_true rfl) ⟨Nat.le_refl _, Nat.le_refl _⟩ ?_
        refine c_X9_factorial hW'.fa (by omega) ?_
        rw [show zfac (zones (zoth D E P N p) 8 + 1) = (((zfac (zones (zoth D E P N p) 8 + 1)).toNat : Nat) : Int) by omega]
        refine z_iload_n 149 dX9_share_148 rfl rfl ?_
        refine z_cS3 152 dX9_share_149 rfl kX9_partOfFraction zw_693 (Nat.le_of_ble_eq_true rfl) ⟨Nat.le_refl _, Nat.le_refl _⟩ ?_
        refine c_X9_partOfFraction hAb (by omega) hup ?_
        refine z_ret dX9_share_152 (by first | exact True.intro | exact Or.inl rfl | exact Or.inr rfl | exact zb_01 _ | assumption | (show _ ∨ _; omega)) ⟨Nat.le_refl _, Nat.le_refl _⟩ ?_
        exact hQ _ _ hW' hF
      · exfalso; omega
    · intro k hk ih h' D' u v hW' hF
      have hk8 := zbc_ok (x := (k : Int)) (by omega)
      have l1 := zLC_b hO hM (k : Int)
      have l2 := zLC_b hO hM (zor k (zshl 1 p))
      have zo2 := hW'.ob
      refine z_iload 71 dX9_share_69 rfl rfl ?_
      refine z_iload 73 dX9_share_71 rfl rfl ?_
      refine z_icmp_gt 139 76 dX9_share_73 (by decide) rfl (by first | omega | exact zr_b _ | exact zr_and _ _ | exact zr_or _ _ | exact zr_shl _ _) (by first | omega | exact zr_b _ | exact zr_and _ _ | exact zr_or _ _ | exact zr_shl _ _) (fun c73 => ?_) (fun c73 => ?_)
      · exfalso; omega
      · refine z_iload 78 dX9_share_76 rfl rfl ?_
        refine z_iload 80 dX9_share_78 rfl rfl ?_
        refine z_iconst 81 dX9_share_80 rfl ?_
        refine z_ixor 82 dX9_share_81 rfl ?_
        refine z_iand 83 dX9_share_82 rfl ?_
        refine z_if_ne 133 86 dX9_share_83 (by decide) rfl (by first | omega | exact zr_b _ | exact zr_and _ _ | exact zr_or _ _ | exact zr_shl _ _) (fun c83 => ?_) (fun c83 => ?_)
        · try replace c83 := zb_1 c83
          rw [show zshs (zLC D G E P N M) (zshl 1 p) (zoth D E P N p) (zones (zoth D E P N p) 8) (k + 1) = zshs (zLC D G E P N M) (zshl 1 p) (zoth D E P N p) (zones (zoth D E P N p) 8) k from by show _ + _ = _; rw [if_neg c83]; omega] at ih
          refine z_iinc 136 dX9_share_133 rfl (by decide) rfl ?_
          refine z_goto 69 dX9_share_136 (by decide) ?_
          first | exact ih h' _ _ _ hW' hF | exact ih h3 _ _ _ hW3 (hF.tr (hF2.tr hF3))
        · try replace c83 := zb_0 c83
          rw [show zshs (zLC D G E P N M) (zshl 1 p) (zoth D E P N p) (zones (zoth D E P N p) 8) (k + 1) = zshs (zLC D G E P N M) (zshl 1 p) (zoth D E P N p) (zones (zoth D E P N p) 8) k + zfac (zones k 8) * zfac (zones (zoth D E P N p) 8 - zones k 8) * (zLC D G E P N M (zor k (zshl 1 p)) - zLC D G E P N M k) from by show _ + _ = _; rw [if_pos c83]] at ih
          have hsub := z_sub256 (zoth D E P N p).toNat (by omega) k (by omega) (by rw [show (((zoth D E P N p).toNat : Nat) : Int) = zoth D E P N p by omega]; exact c83)
          rw [show (((zoth D E P N p).toNat : Nat) : Int) = zoth D E P N p by omega] at hsub
          refine z_iload 88 dX9_share_86 rfl rfl ?_
          refine z_cS1 91 dX9_share_88 rfl kJ6_bitCount_0f7a4 zw_702 (Nat.le_of_ble_eq_true rfl) ⟨Nat.le_refl _, Nat.le_refl _⟩ ?_
          refine c_bitCount (by omega) ?_
          refine z_istore 93 dX9_share_91 rfl (by decide) ?_
          refine z_iload 95 dX9_share_93 rfl rfl ?_
          refine z_cS1 98 dX9_share_95 rfl kX9_factorial zw_708 (Nat.le_of_ble_eq_true rfl) ⟨Nat.le_refl _, Nat.le_refl _⟩ ?_
          refine c_X9_factorial hW'.fa (by omega) ?_
          refine z_iload 100 dX9_share_98 rfl rfl ?_
          refine z_iload 102 dX9_share_100 rfl rfl ?_
          refine z_isub 103 dX9_share_102 rfl ?_
          refine z_cS1 106 dX9_share_103 rfl kX9_factorial zw_708 (Nat.le_of_ble_eq_true rfl) ⟨Nat.le_refl _, Nat.le_refl _⟩ ?_
          refine c_X9_factorial hW'.fa (by omega) ?_
          refine z_lmul 107 dX9_share_106 rfl ?_
          refine z_lstore 109 dX9_share_107 rfl (by decide) ?_
          refine z_lload 111 dX9_share_109 rfl rfl ?_
          refine z_lload 113 dX9_share_111 rfl rfl ?_
          refine z_aload_n 114 dX9_share_113 rfl rfl ?_
          refine z_iload 116 dX9_share_114 rfl rfl ?_
          refine z_iload_n 117 dX9_share_116 rfl rfl ?_
          refine z_ior 118 dX9_share_117 rfl ?_
          refine z_cV1 121 dX9_share_118 rfl kX9_lastWhenCome zw_713 (Nat.le_of_ble_eq_true rfl) ⟨Nat.le_refl _, Nat.le_refl _⟩ (by first | with_reducible assumption | with_reducible exact zup_same _ _ _) ?_
          refine c_X9_lastWhenCome hW' hO hM (fun h2 D2 hW2 hF2 => ?_)
          have zo2 := hW2.ob
          refine z_aload_n 122 dX9_share_121 rfl rfl ?_
          refine z_iload 124 dX9_share_122 rfl rfl ?_
          refine z_cV1 127 dX9_share_124 rfl kX9_lastWhenCome zw_713 (Nat.le_of_ble_eq_true rfl) ⟨Nat.le_refl _, Nat.le_refl _⟩ (by first | with_reducible assumption | with_reducible exact zup_same _ _ _) ?_
          refine c_X9_lastWhenCome hW2 hO hM (fun h3 D3 hW3 hF3 => ?_)
          refine z_isub 128 dX9_share_127 rfl ?_
          refine z_i2l 129 dX9_share_128 rfl (by first | omega | exact zr_b _ | exact zr_and _ _ | exact zr_or _ _ | exact zr_shl _ _) ?_
          refine z_lmul 130 dX9_share_129 rfl ?_
          refine z_ladd 131 dX9_share_130 rfl ?_
          refine z_lstore 133 dX9_share_131 rfl (by decide) ?_
          refine z_iinc 136 dX9_share_133 rfl (by decide) rfl ?_
          refine z_goto 69 dX9_share_136 (by decide) ?_
          first | exact ih h' _ _ _ hW' hF | exact ih h3 _ _ _ hW3 (hF.tr (hF2.tr hF3))
  obtain ⟨N0, M0, D0, G0, E0, P0⟩ := U
  have zo2 := hW.ob
  have zo3 := hW.nw.2.1
  have zo8 := hW.su.2.1
  refine zC.of zpl_X9 (Nat.le_of_ble_eq_true rfl) ?_
  refine z_aload_n 1 dX9_share_0 rfl rfl ?_
  refine z_getf (ci := 9) 4 dX9_share_1 rfl rfl zin_9 0 (by decide) zw_224 (by first | with_reducible assumption | with_reducible exact zup_same _ _ _) rfl ?_
  refine z_iload_n 5 dX9_share_4 rfl rfl ?_
  refine z_cV1 8 dX9_share_5 rfl kX6_hasPerson zw_482 (Nat.le_of_ble_eq_true rfl) ⟨Nat.le_refl _, Nat.le_refl _⟩ (by first | with_reducible assumption | with_reducible exact zup_same _ _ _) ?_
  refine c_X6_hasPerson hW.nw (by omega) (by omega) ?_
  refine z_if_ne 13 11 dX9_share_8 (by decide) rfl (by first | omega | exact zr_b _ | exact zr_and _ _ | exact zr_or _ _ | exact zr_shl _ _) (fun c8 => ?_) (fun c8 => ?_)
  · try replace c8 := zb_1 c8
    refine z_iconst 14 dX9_share_13 rfl ?_
    refine z_iload_n 15 dX9_share_14 rfl rfl ?_
    refine z_ishl 16 dX9_share_15 rfl ?_
    refine z_istore_n 17 dX9_share_16 rfl (by decide) ?_
    refine z_aload_n 18 dX9_share_17 rfl rfl ?_
    refine z_cV0 21 dX9_share_18 rfl kX9_peopleWhoseDelayMayCount zw_689 (Nat.le_of_ble_eq_true rfl) ⟨Nat.le_refl _, Nat.le_refl _⟩ (by first | with_reducible assumption | with_reducible exact zup_same _ _ _) ?_
    refine c_X9_peopleWhose hW hO ?_
    refine z_istore 23 dX9_share_21 rfl (by decide) ?_
    refine z_iload 25 dX9_share_23 rfl rfl ?_
    refine z_iload_n 26 dX9_share_25 rfl rfl ?_
    refine z_iand 27 dX9_share_26 rfl ?_
    refine z_if_ne 37 30 dX9_share_27 (by decide) rfl (by first | omega | exact zr_b _ | exact zr_and _ _ | exact zr_or _ _ | exact zr_shl _ _) (fun c27 => ?_) (fun c27 => ?_)
    · try replace c27 := zb_1 c27
      refine z_aload_n 38 dX9_share_37 rfl rfl ?_
      refine z_getf (ci := 9) 41 dX9_share_38 rfl rfl zin_9 1 (by decide) zw_225 (by first | with_reducible assumption | with_reducible exact zup_same _ _ _) rfl ?_
      refine z_aload_n 42 dX9_share_41 rfl rfl ?_
      refine z_getf (ci := 9) 45 dX9_share_42 rfl rfl zin_9 0 (by decide) zw_224 (by first | with_reducible assumption | with_reducible exact zup_same _ _ _) rfl ?_
      refine z_cV1 48 dX9_share_45 rfl kX6_become zw_410 (Nat.le_of_ble_eq_true rfl) ⟨Nat.le_refl _, Nat.le_refl _⟩ (by first | with_reducible assumption | with_reducible exact zup_same _ _ _) ?_
      refine w_bec hW (fun h2 hW2 hF2 => ?_)
      refine z_iload 50 dX9_share_48 rfl rfl ?_
      refine z_iload_n 51 dX9_share_50 rfl rfl ?_
      refine z_iconst 52 dX9_share_51 rfl ?_
      refine z_ixor 53 dX9_share_52 rfl ?_
      refine z_iand 54 dX9_share_53 rfl ?_
      refine z_istore 56 dX9_share_54 rfl (by decide) ?_
      change Z _ _ _ _ [some (vR 2), some (vI p), some (vI up), some (vI (zshl 1 p)), some (vI (zwty D E P N (N + 1))), some (vI (zoth D E P N p)), none, none, none, none, none, none, none] _ _ _
      refine z_iload 58 dX9_share_56 rfl rfl ?_
      refine z_cS1 61 dX9_share_58 rfl kJ6_bitCount_0f7a4 zw_702 (Nat.le_of_ble_eq_true rfl) ⟨Nat.le_refl _, Nat.le_refl _⟩ ?_
      refine c_bitCount hb.1 ?_
      refine z_istore 63 dX9_share_61 rfl (by decide) ?_
      refine z_lconst 64 dX9_share_63 rfl ?_
      refine z_lstore 66 dX9_share_64 rfl (by decide) ?_
      refine z_iconst 67 dX9_share_66 rfl ?_
      refine z_istore 69 dX9_share_67 rfl (by decide) ?_
      exact key 0 (by omega) h2 D _ _ hW2 hF2
    · exact absurd c27 hz
  · exact absurd (show 0 ≤ p ∧ p < ((N + 1 : Nat) : Int) by omega) (zb_0 c8)
theorem zchf_b {E P : Int → Int} {v x : Int} (hx : 0 ≤ x ∧ x ≤ 10) : ∀ (k : Nat) (pl w : Int), 0 ≤ zchf E P v x k pl w ∧ zchf E P v x k pl w ≤ ((10 ^ k : Nat) : Int)
  | 0, pl, w => by unfold zchf; split <;> simp
  | k + 1, pl, w => by
    have a := zchf_b (E := E) (P := P) (v := v) hx k (pl + 1) w
    have b := zchf_b (E := E) (P := P) (v := v) hx k (pl + 1) (zor w (zshl 1 (P pl)))
    have e : (10 : Nat) ^ (k + 1) = 10 * 10 ^ k := by rw [Nat.pow_succ]; omega
    unfold zchf
    generalize zchf E P v x k (pl + 1) w = y at *
    generalize zchf E P v x k (pl + 1) (zor w (zshl 1 (P pl))) = y2 at *
    rw [e]
    split
    · omega
    · have m1 : 0 ≤ x * y := Int.mul_nonneg hx.1 a.1
      have m2 : 0 ≤ (10 - x) * y2 := Int.mul_nonneg (by omega) b.1
      have m3 : x * y ≤ x * ((10 ^ k : Nat) : Int) := Int.mul_le_mul_of_nonneg_left a.2 hx.1
      have m4 : (10 - x) * y2 ≤ (10 - x) * ((10 ^ k : Nat) : Int) := Int.mul_le_mul_of_nonneg_left b.2 (by omega)
      have m5 : x * ((10 ^ k : Nat) : Int) + (10 - x) * ((10 ^ k : Nat) : Int) = 10 * ((10 ^ k : Nat) : Int) := by rw [← Int.add_mul]; congr 1; omega
      omega
set_option maxHeartbeats 1000000 in
theorem c_X9_chancesFrom {v x : Int} (hW : zCW h (N, M, D, G, E, P) U C l fi ct S fl Kp W Kt c sd O) (hO : zOK 9 N D G E P) (hv : 0 ≤ v ∧ v ≤ 8) (hx : 0 ≤ x ∧ x ≤ 10) : ∀ (k : Nat) {Q : Option zV → zH → Prop} (pl w : Int), 0 ≤ pl → pl + k = N → (0 ≤ w ∧ w < 256) → Q (some (vJ (zchf E P v x k pl w))) h → zC (d + k + 3) mX9_chancesFrom 0 0 [vR 2, vI pl, vI w, vI v, vI x] h Q := by
  have hN := hO.1
  have zo2 := hW.ob
  have zo3 := hW.nw.2.1
  intro k
  induction k with
  | zero =>
    intro Q pl w h0 hk hw hQ
    have hb := zbc_ok hw
    refine zC.of zpl_X9 (Nat.le_of_ble_eq_true rfl) ?_
    refine z_iload_n 1 dX9_chancesFrom_0 rfl rfl ?_
    refine z_bipush 3 dX9_chancesFrom_1 rfl (by decide) ?_
    refine z_icmp_ge 17 6 dX9_chancesFrom_3 (by decide) rfl (by first | omega | exact zr_b _ | exact zr_and _ _ | exact zr_or _ _ | exact zr_shl _ _) (by first | omega | exact zr_b _ | exact zr_and _ _ | exact zr_or _ _ | exact zr_shl _ _) (fun c3 => ?_) (fun c3 => ?_)
    · refine z_iload_n 18 dX9_chancesFrom_17 rfl rfl ?_
      refine z_cS1 21 dX9_chancesFrom_18 rfl kJ6_bitCount_0f7a4 zw_702 (Nat.le_of_ble_eq_true rfl) ⟨Nat.le_refl _, Nat.le_refl _⟩ ?_
      refine c_bitCount hw ?_
      refine z_iload_n 22 dX9_chancesFrom_21 rfl rfl ?_
      refine z_icmp_lt 29 25 dX9_chancesFrom_22 (by decide) rfl (by first | omega | exact zr_b _ | exact zr_and _ _ | exact zr_or _ _ | exact zr_shl _ _) (by first | omega | exact zr_b _ | exact zr_and _ _ | exact zr_or _ _ | exact zr_shl _ _) (fun c22 => ?_) (fun c22 => ?_)
      · rw [show zchf E P v x 0 pl w = 0 from if_neg (by omega)] at hQ
        refine z_lconst 30 dX9_chancesFrom_29 rfl ?_
        refine z_lret dX9_chancesFrom_30 (by first | exact True.intro | exact Or.inl rfl | exact Or.inr rfl | exact zb_01 _ | assumption | (show _ ∨ _; omega)) ⟨Nat.le_refl _, Nat.le_refl _⟩ ?_
        exact hQ
      · rw [show zchf E P v x 0 pl w = 1 from if_pos (by omega)] at hQ
        refine z_lconst 26 dX9_chancesFrom_25 rfl ?_
        refine z_goto 30 dX9_chancesFrom_26 (by decide) ?_
        refine z_lret dX9_chancesFrom_30 (by first | exact True.intro | exact Or.inl rfl | exact Or.inr rfl | exact zb_01 _ | assumption | (show _ ∨ _; omega)) ⟨Nat.le_refl _, Nat.le_refl _⟩ ?_
        exact hQ
    · refine z_aload_n 7 dX9_chancesFrom_6 rfl rfl ?_
      refine z_getf (ci := 9) 10 dX9_chancesFrom_7 rfl rfl zin_9 0 (by decide) zw_224 (by first | with_reducible assumption | with_reducible exact zup_same _ _ _) rfl ?_
      refine z_iload_n 11 dX9_chancesFrom_10 rfl rfl ?_
      refine z_cV1 14 dX9_chancesFrom_11 rfl kX6_hasPlace zw_513 (Nat.le_of_ble_eq_true rfl) ⟨Nat.le_refl _, Nat.le_refl _⟩ (by first | with_reducible assumption | with_reducible exact zup_same _ _ _) ?_
      refine c_X6_hasPlace hW.nw (by omega) (by omega) ?_
      refine z_if_ne 31 17 dX9_chancesFrom_14 (by decide) rfl (by first | omega | exact zr_b _ | exact zr_and _ _ | exact zr_or _ _ | exact zr_shl _ _) (fun c14 => ?_) (fun c14 => ?_)
      · exact absurd (zb_1 c14) (by omega)
      · try replace c14 := zb_0 c14
        refine z_iload_n 18 dX9_chancesFrom_17 rfl rfl ?_
        refine z_cS1 21 dX9_chancesFrom_18 rfl kJ6_bitCount_0f7a4 zw_702 (Nat.le_of_ble_eq_true rfl) ⟨Nat.le_refl _, Nat.le_refl _⟩ ?_
        refine c_bitCount hw ?_
        refine z_iload_n 22 dX9_chancesFrom_21 rfl rfl ?_
        refine z_icmp_lt 29 25 dX9_chancesFrom_22 (by decide) rfl (by first | omega | exact zr_b _ | exact zr_and _ _ | exact zr_or _ _ | exact zr_shl _ _) (by first | omega | exact zr_b _ | exact zr_and _ _ | exact zr_or _ _ | exact zr_shl _ _) (fun c22 => ?_) (fun c22 => ?_)
        · rw [show zchf E P v x 0 pl w = 0 from if_neg (by omega)] at hQ
          refine z_lconst 30 dX9_chancesFrom_29 rfl ?_
          refine z_lret dX9_chancesFrom_30 (by first | exact True.intro | exact Or.inl rfl | exact Or.inr rfl | exact zb_01 _ | assumption | (show _ ∨ _; omega)) ⟨Nat.le_refl _, Nat.le_refl _⟩ ?_
          exact hQ
        · rw [show zchf E P v x 0 pl w = 1 from if_pos (by omega)] at hQ
          refine z_lconst 26 dX9_chancesFrom_25 rfl ?_
          refine z_goto 30 dX9_chancesFrom_26 (by decide) ?_
          refine z_lret dX9_chancesFrom_30 (by first | exact True.intro | exact Or.inl rfl | exact Or.inr rfl | exact zb_01 _ | assumption | (show _ ∨ _; omega)) ⟨Nat.le_refl _, Nat.le_refl _⟩ ?_
          exact hQ
  | succ k ih =>
    intro Q pl w h0 hk hw hQ
    have v8 := hO.v8 pl.toNat (by omega)
    rw [show ((pl.toNat : Nat) : Int) = pl by omega] at v8
    refine zC.of zpl_X9 (Nat.le_of_ble_eq_true rfl) ?_
    refine z_iload_n 1 dX9_chancesFrom_0 rfl rfl ?_
    refine z_bipush 3 dX9_chancesFrom_1 rfl (by decide) ?_
    refine z_icmp_ge 17 6 dX9_chancesFrom_3 (by decide) rfl (by first | omega | exact zr_b _ | exact zr_and _ _ | exact zr_or _ _ | exact zr_shl _ _) (by first | omega | exact zr_b _ | exact zr_and _ _ | exact zr_or _ _ | exact zr_shl _ _) (fun c3 => ?_) (fun c3 => ?_)
    · exfalso; omega
    · refine z_aload_n 7 dX9_chancesFrom_6 rfl rfl ?_
      refine z_getf (ci := 9) 10 dX9_chancesFrom_7 rfl rfl zin_9 0 (by decide) zw_224 (by first | with_reducible assumption | with_reducible exact zup_same _ _ _) rfl ?_
      refine z_iload_n 11 dX9_chancesFrom_10 rfl rfl ?_
      refine z_cV1 14 dX9_chancesFrom_11 rfl kX6_hasPlace zw_513 (Nat.le_of_ble_eq_true rfl) ⟨Nat.le_refl _, Nat.le_refl _⟩ (by first | with_reducible assumption | with_reducible exact zup_same _ _ _) ?_
      refine c_X6_hasPlace hW.nw (by omega) (by omega) ?_
      refine z_if_ne 31 17 dX9_chancesFrom_14 (by decide) rfl (by first | omega | exact zr_b _ | exact zr_and _ _ | exact zr_or _ _ | exact zr_shl _ _) (fun c14 => ?_) (fun c14 => ?_)
      · try replace c14 := zb_1 c14
        refine z_aload_n 32 dX9_chancesFrom_31 rfl rfl ?_
        refine z_getf (ci := 9) 35 dX9_chancesFrom_32 rfl rfl zin_9 0 (by decide) zw_224 (by first | with_reducible assumption | with_reducible exact zup_same _ _ _) rfl ?_
        refine z_iload_n 36 dX9_chancesFrom_35 rfl rfl ?_
        refine z_cV1 39 dX9_chancesFrom_36 rfl kX6_personAt zw_517 (Nat.le_of_ble_eq_true rfl) ⟨Nat.le_refl _, Nat.le_refl _⟩ (by first | with_reducible assumption | with_reducible exact zup_same _ _ _) ?_
        refine c_X6_personAt hW.nw (by omega) ?_
        refine z_istore 41 dX9_chancesFrom_39 rfl (by decide) ?_
        refine z_aload_n 42 dX9_chancesFrom_41 rfl rfl ?_
        refine z_iload_n 43 dX9_chancesFrom_42 rfl rfl ?_
        refine z_iconst 44 dX9_chancesFrom_43 rfl ?_
        refine z_iadd 45 dX9_chancesFrom_44 rfl ?_
        refine z_iload_n 46 dX9_chancesFrom_45 rfl rfl ?_
        refine z_iload_n 47 dX9_chancesFrom_46 rfl rfl ?_
        refine z_iload 49 dX9_chancesFrom_47 rfl rfl ?_
        refine z_cV4 52 dX9_chancesFrom_49 rfl kX9_chancesFrom zw_722 (Nat.le_of_ble_eq_true rfl) ⟨Nat.le_refl _, Nat.le_refl _⟩ (by first | with_reducible assumption | with_reducible exact zup_same _ _ _) ?_
        refine ih (pl + 1) w (by omega) (by omega) hw ?_
        refine z_lstore 54 dX9_chancesFrom_52 rfl (by decide) ?_
        refine z_iload_n 55 dX9_chancesFrom_54 rfl rfl ?_
        refine z_aload_n 56 dX9_chancesFrom_55 rfl rfl ?_
        refine z_getf (ci := 9) 59 dX9_chancesFrom_56 rfl rfl zin_9 0 (by decide) zw_224 (by first | with_reducible assumption | with_reducible exact zup_same _ _ _) rfl ?_
        refine z_iload 61 dX9_chancesFrom_59 rfl rfl ?_
        refine z_cV1 64 dX9_chancesFrom_61 rfl kX6_tellerOf zw_488 (Nat.le_of_ble_eq_true rfl) ⟨Nat.le_refl _, Nat.le_refl _⟩ (by first | with_reducible assumption | with_reducible exact zup_same _ _ _) ?_
        refine c_X6_tellerOf hW.nw (by omega) ?_
        refine z_ishr 65 dX9_chancesFrom_64 rfl ?_
        refine z_iconst 66 dX9_chancesFrom_65 rfl ?_
        refine z_iand 67 dX9_chancesFrom_66 rfl ?_
        refine z_if_ne 77 70 dX9_chancesFrom_67 (by decide) rfl (by first | omega | exact zr_b _ | exact zr_and _ _ | exact zr_or _ _ | exact zr_shl _ _) (fun c67 => ?_) (fun c67 => ?_)
        · try replace c67 := zb_1 c67
          rw [show zchf E P v x (k + 1) pl w = x * zchf E P v x k (pl + 1) w + (10 - x) * zchf E P v x k (pl + 1) (zor w (zshl 1 (P pl))) from if_neg (fun q => c67 ((z_has0 (by omega)).mpr q))] at hQ
          refine z_aload_n 78 dX9_chancesFrom_77 rfl rfl ?_
          refine z_iload_n 79 dX9_chancesFrom_78 rfl rfl ?_
          refine z_iconst 80 dX9_chancesFrom_79 rfl ?_
          refine z_iadd 81 dX9_chancesFrom_80 rfl ?_
          refine z_iload_n 82 dX9_chancesFrom_81 rfl rfl ?_
          refine z_iconst 83 dX9_chancesFrom_82 rfl ?_
          refine z_iload 85 dX9_chancesFrom_83 rfl rfl ?_
          refine z_ishl 86 dX9_chancesFrom_85 rfl ?_
          refine z_ior 87 dX9_chancesFrom_86 rfl ?_
          refine z_iload_n 88 dX9_chancesFrom_87 rfl rfl ?_
          refine z_iload 90 dX9_chancesFrom_88 rfl rfl ?_
          refine z_cV4 93 dX9_chancesFrom_90 rfl kX9_chancesFrom zw_722 (Nat.le_of_ble_eq_true rfl) ⟨Nat.le_refl _, Nat.le_refl _⟩ (by first | with_reducible assumption | with_reducible exact zup_same _ _ _) ?_
          refine ih (pl + 1) (zor w (zshl 1 (P pl))) (by omega) (by omega) (zor_lt hw (by omega)) ?_
          refine z_lstore 95 dX9_chancesFrom_93 rfl (by decide) ?_
          refine z_iload 97 dX9_chancesFrom_95 rfl rfl ?_
          refine z_i2l 98 dX9_chancesFrom_97 rfl (by first | omega | exact zr_b _ | exact zr_and _ _ | exact zr_or _ _ | exact zr_shl _ _) ?_
          refine z_lload 100 dX9_chancesFrom_98 rfl rfl ?_
          refine z_lmul 101 dX9_chancesFrom_100 rfl ?_
          refine z_bipush 103 dX9_chancesFrom_101 rfl (by decide) ?_
          refine z_iload 105 dX9_chancesFrom_103 rfl rfl ?_
          refine z_isub 106 dX9_chancesFrom_105 rfl ?_
          refine z_i2l 107 dX9_chancesFrom_106 rfl (by first | omega | exact zr_b _ | exact zr_and _ _ | exact zr_or _ _ | exact zr_shl _ _) ?_
          refine z_lload 109 dX9_chancesFrom_107 rfl rfl ?_
          refine z_lmul 110 dX9_chancesFrom_109 rfl ?_
          refine z_ladd 111 dX9_chancesFrom_110 rfl ?_
          refine z_lret dX9_chancesFrom_111 (by first | exact True.intro | exact Or.inl rfl | exact Or.inr rfl | exact zb_01 _ | assumption | (show _ ∨ _; omega)) ⟨Nat.le_refl _, Nat.le_refl _⟩ ?_
          exact hQ
        · try replace c67 := zb_0 c67
          rw [show zchf E P v x (k + 1) pl w = 10 * zchf E P v x k (pl + 1) w from if_pos ((z_has0 (by omega)).mp c67)] at hQ
          refine z_ldc2 (x := 10) 73 dX9_chancesFrom_70 rfl zw_721 ?_
          refine z_lload 75 dX9_chancesFrom_73 rfl rfl ?_
          refine z_lmul 76 dX9_chancesFrom_75 rfl ?_
          refine z_lret dX9_chancesFrom_76 (by first | exact True.intro | exact Or.inl rfl | exact Or.inr rfl | exact zb_01 _ | assumption | (show _ ∨ _; omega)) ⟨Nat.le_refl _, Nat.le_refl _⟩ ?_
          exact hQ
      · exact absurd (show 0 ≤ pl ∧ pl < (N : Int) by omega) (zb_0 c14)
theorem c_X9_chance_bad {v x up : Int} (hv : (-2147483648 ≤ v ∧ v ≤ 2147483647) ∧ (-2147483648 ≤ x ∧ x ≤ 2147483647)) (hbad : v < 0 ∨ 8 < v ∨ x < 0 ∨ 10 < x) (hQ : Q (some (vI (-2))) h) : zC (d + 14) mX9_chance 0 0 [vR 2, vI v, vI x, vI up] h Q := by
  refine zC.of zpl_X9 (Nat.le_of_ble_eq_true rfl) ?_
  refine z_iload_n 1 dX9_chance_0 rfl rfl ?_
  refine z_if_lt 20 4 dX9_chance_1 (by decide) rfl (by first | omega | exact zr_b _ | exact zr_and _ _ | exact zr_or _ _ | exact zr_shl _ _) (fun c1 => ?_) (fun c1 => ?_)
  · refine z_bipush 22 dX9_chance_20 rfl (by decide) ?_
    refine z_ret dX9_chance_22 (by first | exact True.intro | exact Or.inl rfl | exact Or.inr rfl | exact zb_01 _ | assumption | (show _ ∨ _; omega)) ⟨Nat.le_refl _, Nat.le_refl _⟩ ?_
    exact hQ
  · refine z_iload_n 5 dX9_chance_4 rfl rfl ?_
    refine z_bipush 7 dX9_chance_5 rfl (by decide) ?_
    refine z_icmp_gt 20 10 dX9_chance_7 (by decide) rfl (by first | omega | exact zr_b _ | exact zr_and _ _ | exact zr_or _ _ | exact zr_shl _ _) (by first | omega | exact zr_b _ | exact zr_and _ _ | exact zr_or _ _ | exact zr_shl _ _) (fun c7 => ?_) (fun c7 => ?_)
    · refine z_bipush 22 dX9_chance_20 rfl (by decide) ?_
      refine z_ret dX9_chance_22 (by first | exact True.intro | exact Or.inl rfl | exact Or.inr rfl | exact zb_01 _ | assumption | (show _ ∨ _; omega)) ⟨Nat.le_refl _, Nat.le_refl _⟩ ?_
      exact hQ
    · refine z_iload_n 11 dX9_chance_10 rfl rfl ?_
      refine z_if_lt 20 14 dX9_chance_11 (by decide) rfl (by first | omega | exact zr_b _ | exact zr_and _ _ | exact zr_or _ _ | exact zr_shl _ _) (fun c11 => ?_) (fun c11 => ?_)
      · refine z_bipush 22 dX9_chance_20 rfl (by decide) ?_
        refine z_ret dX9_chance_22 (by first | exact True.intro | exact Or.inl rfl | exact Or.inr rfl | exact zb_01 _ | assumption | (show _ ∨ _; omega)) ⟨Nat.le_refl _, Nat.le_refl _⟩ ?_
        exact hQ
      · refine z_iload_n 15 dX9_chance_14 rfl rfl ?_
        refine z_bipush 17 dX9_chance_15 rfl (by decide) ?_
        refine z_icmp_le 23 20 dX9_chance_17 (by decide) rfl (by first | omega | exact zr_b _ | exact zr_and _ _ | exact zr_or _ _ | exact zr_shl _ _) (by first | omega | exact zr_b _ | exact zr_and _ _ | exact zr_or _ _ | exact zr_shl _ _) (fun c17 => ?_) (fun c17 => ?_)
        · exfalso; omega
        · refine z_bipush 22 dX9_chance_20 rfl (by decide) ?_
          refine z_ret dX9_chance_22 (by first | exact True.intro | exact Or.inl rfl | exact Or.inr rfl | exact zb_01 _ | assumption | (show _ ∨ _; omega)) ⟨Nat.le_refl _, Nat.le_refl _⟩ ?_
          exact hQ
theorem c_X9_chance {v x up : Int} (hW : zCW h (N, M, D, G, E, P) U C l fi ct S fl Kp W Kt c sd O) (hO : zOK 9 N D G E P) (hv : 0 ≤ v ∧ v ≤ 8) (hx : 0 ≤ x ∧ x ≤ 10) (hup : up = 0 ∨ up = 1) (hQ : Q (some (vI (zpart (zchf E P v x N 0 1).toNat (10 ^ N) up))) h) : zC (d + 14) mX9_chance 0 0 [vR 2, vI v, vI x, vI up] h Q := by
  have hN := hO.1
  have hb := zchf_b (E := E) (P := P) (v := v) hx N 0 1
  have hp7 : 10 ^ N ≤ 10 ^ 7 := Nat.pow_le_pow_right (by decide) hN
  have e7 : (10 : Nat) ^ 7 = 10000000 := by decide
  have hp1 : 1 ≤ 10 ^ N := Nat.one_le_pow _ _ (by decide)
  have zo2 := hW.ob
  have zo3 := hW.nw.2.1
  have key : ∀ i : Nat, i ≤ N → Z (d + 14) mX9_chance zo 29 [some (vR 2), some (vI v), some (vI x), some (vI up), some (vJ ((10 ^ i : Nat) : Int)), none, some (vI i)] [] h Q := by
    refine z_loop N ?_ ?_
    · refine z_iload 31 dX9_chance_29 rfl rfl ?_
      refine z_aload_n 32 dX9_chance_31 rfl rfl ?_
      refine z_getf (ci := 9) 35 dX9_chance_32 rfl rfl zin_9 0 (by decide) zw_224 (by first | with_reducible assumption | with_reducible exact zup_same _ _ _) rfl ?_
      refine z_cV0 38 dX9_chance_35 rfl kX6_standing zw_469 (Nat.le_of_ble_eq_true rfl) ⟨Nat.le_refl _, Nat.le_refl _⟩ (by first | with_reducible assumption | with_reducible exact zup_same _ _ _) ?_
      refine c_X6_standing hW.nw ?_
      refine z_icmp_ge 55 41 dX9_chance_38 (by decide) rfl (by first | omega | exact zr_b _ | exact zr_and _ _ | exact zr_or _ _ | exact zr_shl _ _) (by first | omega | exact zr_b _ | exact zr_and _ _ | exact zr_or _ _ | exact zr_shl _ _) (fun c38 => ?_) (fun c38 => ?_)
      · refine z_aload_n 56 dX9_chance_55 rfl rfl ?_
        refine z_iconst 57 dX9_chance_56 rfl ?_
        refine z_iconst 58 dX9_chance_57 rfl ?_
        refine z_iload_n 59 dX9_chance_58 rfl rfl ?_
        refine z_iload_n 60 dX9_chance_59 rfl rfl ?_
        refine z_cV4 63 dX9_chance_60 rfl kX9_chancesFrom zw_722 (Nat.le_of_ble_eq_true rfl) ⟨Nat.le_refl _, Nat.le_refl _⟩ (by first | with_reducible assumption | with_reducible exact zup_same _ _ _) ?_
        rw [show d + 13 = (d + (10 - N)) + N + 3 by omega]
        refine c_X9_chancesFrom hW hO hv hx N 0 1 (by omega) (by omega) (by omega) ?_
        rw [show zchf E P v x N 0 1 = (((zchf E P v x N 0 1).toNat : Nat) : Int) by omega]
        refine z_lload 65 dX9_chance_63 rfl rfl ?_
        refine z_iload_n 66 dX9_chance_65 rfl rfl ?_
        refine z_cS3 69 dX9_chance_66 rfl kX9_partOfFraction zw_693 (Nat.le_of_ble_eq_true rfl) ⟨Nat.le_refl _, Nat.le_refl _⟩ ?_
        refine c_X9_partOfFraction (by omega) (by omega) hup ?_
        refine z_ret dX9_chance_69 (by first | exact True.intro | exact Or.inl rfl | exact Or.inr rfl | exact zb_01 _ | assumption | (show _ ∨ _; omega)) ⟨Nat.le_refl _, Nat.le_refl _⟩ ?_
        exact hQ
      · exfalso; omega
    · intro i hi ih
      rw [show ((10 ^ (i + 1) : Nat) : Int) = ((10 ^ i : Nat) : Int) * 10 by rw [Nat.pow_succ]; simp] at ih
      refine z_iload 31 dX9_chance_29 rfl rfl ?_
      refine z_aload_n 32 dX9_chance_31 rfl rfl ?_
      refine z_getf (ci := 9) 35 dX9_chance_32 rfl rfl zin_9 0 (by decide) zw_224 (by first | with_reducible assumption | with_reducible exact zup_same _ _ _) rfl ?_
      refine z_cV0 38 dX9_chance_35 rfl kX6_standing zw_469 (Nat.le_of_ble_eq_true rfl) ⟨Nat.le_refl _, Nat.le_refl _⟩ (by first | with_reducible assumption | with_reducible exact zup_same _ _ _) ?_
      refine c_X6_standing hW.nw ?_
      refine z_icmp_ge 55 41 dX9_chance_38 (by decide) rfl (by first | omega | exact zr_b _ | exact zr_and _ _ | exact zr_or _ _ | exact zr_shl _ _) (by first | omega | exact zr_b _ | exact zr_and _ _ | exact zr_or _ _ | exact zr_shl _ _) (fun c38 => ?_) (fun c38 => ?_)
      · exfalso; omega
      · refine z_lload 43 dX9_chance_41 rfl rfl ?_
        refine z_ldc2 (x := 10) 46 dX9_chance_43 rfl zw_721 ?_
        refine z_lmul 47 dX9_chance_46 rfl ?_
        refine z_lstore 49 dX9_chance_47 rfl (by decide) ?_
        refine z_iinc 52 dX9_chance_49 rfl (by decide) rfl ?_
        refine z_goto 29 dX9_chance_52 (by decide) ?_
        exact ih
  refine zC.of zpl_X9 (Nat.le_of_ble_eq_true rfl) ?_
  refine z_iload_n 1 dX9_chance_0 rfl rfl ?_
  refine z_if_lt 20 4 dX9_chance_1 (by decide) rfl (by first | omega | exact zr_b _ | exact zr_and _ _ | exact zr_or _ _ | exact zr_shl _ _) (fun c1 => ?_) (fun c1 => ?_)
  · exfalso; omega
  · refine z_iload_n 5 dX9_chance_4 rfl rfl ?_
    refine z_bipush 7 dX9_chance_5 rfl (by decide) ?_
    refine z_icmp_gt 20 10 dX9_chance_7 (by decide) rfl (by first | omega | exact zr_b _ | exact zr_and _ _ | exact zr_or _ _ | exact zr_shl _ _) (by first | omega | exact zr_b _ | exact zr_and _ _ | exact zr_or _ _ | exact zr_shl _ _) (fun c7 => ?_) (fun c7 => ?_)
    · exfalso; omega
    · refine z_iload_n 11 dX9_chance_10 rfl rfl ?_
      refine z_if_lt 20 14 dX9_chance_11 (by decide) rfl (by first | omega | exact zr_b _ | exact zr_and _ _ | exact zr_or _ _ | exact zr_shl _ _) (fun c11 => ?_) (fun c11 => ?_)
      · exfalso; omega
      · refine z_iload_n 15 dX9_chance_14 rfl rfl ?_
        refine z_bipush 17 dX9_chance_15 rfl (by decide) ?_
        refine z_icmp_le 23 20 dX9_chance_17 (by decide) rfl (by first | omega | exact zr_b _ | exact zr_and _ _ | exact zr_or _ _ | exact zr_shl _ _) (by first | omega | exact zr_b _ | exact zr_and _ _ | exact zr_or _ _ | exact zr_shl _ _) (fun c17 => ?_) (fun c17 => ?_)
        · refine z_lconst 24 dX9_chance_23 rfl ?_
          refine z_lstore 26 dX9_chance_24 rfl (by decide) ?_
          refine z_iconst 27 dX9_chance_26 rfl ?_
          refine z_istore 29 dX9_chance_27 rfl (by decide) ?_
          exact key 0 (Nat.zero_le _)
        · exfalso; omega
end CHANCE
