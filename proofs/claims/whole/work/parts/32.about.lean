/-! LateLetters: about, person -/
section ABOUT
variable {d : Nat} {h : zH} {Q : Option zV → zH → Prop} {N M : Nat} {D G E P : Int → Int} {T U : zTD} {C : Int → Int} {l fi ct : Int} {S : Nat → zTD} {fl : Int} {Kp : Nat → zTD} {W Kt : Int → Int} {c sd : Int} {O : Int → Int}
theorem c_X9_about_bad {w : Int} (hw : (-2147483648 ≤ w ∧ w ≤ 2147483647) ∧ (w < 0 ∨ 8 < w)) (hQ : Q (some (vI (-2))) h) : zC (d + 14) mX9_about 0 0 [vR 2, vI w] h Q := by
  refine zC.of zpl_X9 (Nat.le_of_ble_eq_true rfl) ?_
  refine z_iload_n 1 dX9_about_0 rfl rfl ?_
  · refine z_tableOut 154 dX9_about_1 (by omega) hw.2 (by decide) ?_
    refine z_bipush 156 dX9_about_154 rfl (by decide) ?_
    refine z_ret dX9_about_156 (by first | exact True.intro | exact Or.inl rfl | exact Or.inr rfl | exact zb_01 _ | assumption | (show _ ∨ _; omega)) ⟨Nat.le_refl _, Nat.le_refl _⟩ ?_
    exact hQ
theorem c_X9_about0 (hW : zCW h (N, M, D, G, E, P) U C l fi ct S fl Kp W Kt c sd O) (hQ : Q (some (vI ((N + 1 : Nat) : Int))) h) : zC (d + 14) mX9_about 0 0 [vR 2, vI 0] h Q := by
  have zo2 := hW.ob
  have zo3 := hW.nw.2.1
  refine zC.of zpl_X9 (Nat.le_of_ble_eq_true rfl) ?_
  refine z_iload_n 1 dX9_about_0 rfl rfl ?_
  · refine z_tableIn 52 dX9_about_1 (by omega) (by omega) (by omega) rfl (by decide) ?_
    refine z_aload_n 53 dX9_about_52 rfl rfl ?_
    refine z_getf (ci := 9) 56 dX9_about_53 rfl rfl zin_9 0 (by decide) zw_224 (by first | with_reducible assumption | with_reducible exact zup_same _ _ _) rfl ?_
    refine z_cV0 59 dX9_about_56 rfl kX6_people zw_401 (Nat.le_of_ble_eq_true rfl) ⟨Nat.le_refl _, Nat.le_refl _⟩ (by first | with_reducible assumption | with_reducible exact zup_same _ _ _) ?_
    refine c_X6_people hW.nw ?_
    refine z_ret dX9_about_59 (by first | exact True.intro | exact Or.inl rfl | exact Or.inr rfl | exact zb_01 _ | assumption | (show _ ∨ _; omega)) ⟨Nat.le_refl _, Nat.le_refl _⟩ ?_
    exact hQ
theorem c_X9_about1 (hW : zCW h (N, M, D, G, E, P) U C l fi ct S fl Kp W Kt c sd O) (hQ : Q (some (vI M)) h) : zC (d + 14) mX9_about 0 0 [vR 2, vI 1] h Q := by
  have zo2 := hW.ob
  have zo3 := hW.nw.2.1
  refine zC.of zpl_X9 (Nat.le_of_ble_eq_true rfl) ?_
  refine z_iload_n 1 dX9_about_0 rfl rfl ?_
  · refine z_tableIn 60 dX9_about_1 (by omega) (by omega) (by omega) rfl (by decide) ?_
    refine z_aload_n 61 dX9_about_60 rfl rfl ?_
    refine z_getf (ci := 9) 64 dX9_about_61 rfl rfl zin_9 0 (by decide) zw_224 (by first | with_reducible assumption | with_reducible exact zup_same _ _ _) rfl ?_
    refine z_cV0 67 dX9_about_64 rfl kX6_news zw_405 (Nat.le_of_ble_eq_true rfl) ⟨Nat.le_refl _, Nat.le_refl _⟩ (by first | with_reducible assumption | with_reducible exact zup_same _ _ _) ?_
    refine c_X6_news hW.nw ?_
    refine z_ret dX9_about_67 (by first | exact True.intro | exact Or.inl rfl | exact Or.inr rfl | exact zb_01 _ | assumption | (show _ ∨ _; omega)) ⟨Nat.le_refl _, Nat.le_refl _⟩ ?_
    exact hQ
theorem c_X9_about2 (hW : zCW h (N, M, D, G, E, P) U C l fi ct S fl Kp W Kt c sd O) (hO : zOK 9 N D G E P) (hM : M ≤ 3) (hQ : ∀ h' : zH, zCW h' (N, M, D, G, E, P) U C l fi ct S fl Kp W Kt c sd O → zMod 2 111 h h' → Q (some (vI (zLAST D G E P N M))) h') : zC (d + 14) mX9_about 0 0 [vR 2, vI 2] h Q := by
  have zo2 := hW.ob
  have zo3 := hW.nw.2.1
  obtain ⟨K, F, hX, hK0⟩ := hW.ti
  have zo13 := hX.2.1
  refine zC.of zpl_X9 (Nat.le_of_ble_eq_true rfl) ?_
  refine z_iload_n 1 dX9_about_0 rfl rfl ?_
  · refine z_tableIn 68 dX9_about_1 (by omega) (by omega) (by omega) rfl (by decide) ?_
    refine z_aload_n 69 dX9_about_68 rfl rfl ?_
    refine z_getf (ci := 9) 72 dX9_about_69 rfl rfl zin_9 2 (by decide) zw_226 (by first | with_reducible assumption | with_reducible exact zup_same _ _ _) rfl ?_
    refine z_aload_n 73 dX9_about_72 rfl rfl ?_
    refine z_getf (ci := 9) 76 dX9_about_73 rfl rfl zin_9 0 (by decide) zw_224 (by first | with_reducible assumption | with_reducible exact zup_same _ _ _) rfl ?_
    refine z_cV1 79 dX9_about_76 rfl kX8_follow zw_357 (Nat.le_of_ble_eq_true rfl) ⟨Nat.le_refl _, Nat.le_refl _⟩ (by first | with_reducible assumption | with_reducible exact zup_same _ _ _) ?_
    refine w_fol3 hW hO hM (fun h' K' F' hW' hX' hT' hF => ?_)
    refine z_ret dX9_about_79 (by first | exact True.intro | exact Or.inl rfl | exact Or.inr rfl | exact zb_01 _ | assumption | (show _ ∨ _; omega)) ⟨Nat.le_refl _, Nat.le_refl _⟩ ?_
    exact hQ _ hW' hF
theorem c_X9_about3 (hW : zCW h (N, M, D, G, E, P) U C l fi ct S fl Kp W Kt c sd O) (hO : zOK 9 N D G E P) (hM : M ≤ 3) (hQ : ∀ (h' : zH) (U' : zTD), zCW h' (N, M, D, G, E, P) U' C l fi ct S fl Kp W Kt c sd O → zMod 2 111 h h' → Q (some (vI (zLAST D G (zQK D G E P N).1 (zQK D G E P N).2 N M))) h') : zC (d + 14) mX9_about 0 0 [vR 2, vI 3] h Q := by
  have zo2 := hW.ob
  refine zC.of zpl_X9 (Nat.le_of_ble_eq_true rfl) ?_
  refine z_iload_n 1 dX9_about_0 rfl rfl ?_
  · refine z_tableIn 80 dX9_about_1 (by omega) (by omega) (by omega) rfl (by decide) ?_
    refine z_aload_n 81 dX9_about_80 rfl rfl ?_
    refine z_cV0 84 dX9_about_81 rfl kX9_lastIfQuick zw_406 (Nat.le_of_ble_eq_true rfl) ⟨Nat.le_refl _, Nat.le_refl _⟩ (by first | with_reducible assumption | with_reducible exact zup_same _ _ _) ?_
    refine c_X9_lastIfQuick hW hO hM (fun h' U' hW' hF => ?_)
    refine z_ret dX9_about_84 (by first | exact True.intro | exact Or.inl rfl | exact Or.inr rfl | exact zb_01 _ | assumption | (show _ ∨ _; omega)) ⟨Nat.le_refl _, Nat.le_refl _⟩ ?_
    exact hQ _ _ hW' hF
theorem c_X9_about4_late (hW : zCW h (N, M, D, G, E, P) U C l fi ct S fl Kp W Kt c sd O) (hN : 6 ≤ N ∧ N ≤ 7) (hQ : Q (some (vI (-3))) h) : zC (d + 14) mX9_about 0 0 [vR 2, vI 4] h Q := by
  have zo2 := hW.ob
  have zo3 := hW.nw.2.1
  refine zC.of zpl_X9 (Nat.le_of_ble_eq_true rfl) ?_
  refine z_iload_n 1 dX9_about_0 rfl rfl ?_
  · refine z_tableIn 85 dX9_about_1 (by omega) (by omega) (by omega) rfl (by decide) ?_
    refine z_aload_n 86 dX9_about_85 rfl rfl ?_
    refine z_getf (ci := 9) 89 dX9_about_86 rfl rfl zin_9 0 (by decide) zw_224 (by first | with_reducible assumption | with_reducible exact zup_same _ _ _) rfl ?_
    refine z_cV0 92 dX9_about_89 rfl kX6_people zw_401 (Nat.le_of_ble_eq_true rfl) ⟨Nat.le_refl _, Nat.le_refl _⟩ (by first | with_reducible assumption | with_reducible exact zup_same _ _ _) ?_
    refine c_X6_people hW.nw ?_
    refine z_bipush 94 dX9_about_92 rfl (by decide) ?_
    refine z_icmp_le 102 97 dX9_about_94 (by decide) rfl (by first | omega | exact zr_b _ | exact zr_and _ _ | exact zr_or _ _ | exact zr_shl _ _) (by first | omega | exact zr_b _ | exact zr_and _ _ | exact zr_or _ _ | exact zr_shl _ _) (fun c94 => ?_) (fun c94 => ?_)
    · exfalso; omega
    · refine z_bipush 99 dX9_about_97 rfl (by decide) ?_
      refine z_goto 113 dX9_about_99 (by decide) ?_
      refine z_ret dX9_about_113 (by first | exact True.intro | exact Or.inl rfl | exact Or.inr rfl | exact zb_01 _ | assumption | (show _ ∨ _; omega)) ⟨Nat.le_refl _, Nat.le_refl _⟩ ?_
      exact hQ
/-- BEST -/
def zBEST (D G : Int → Int) (N : Nat) : Int := if N = 0 then 0 else zLL D G N N (fun _ => D 0) 1 1000
theorem c_X9_about4 (hW : zCW h (N, M, D, G, E, P) U C l fi ct S fl Kp W Kt c sd O) (hO : zOK 9 N D G E P) (hN : N ≤ 5) (hQ : ∀ h' : zH, zCW h' (N, M, D, G, E, P) U C l fi ct S fl Kp W Kt c sd O → zMod 2 111 h h' → Q (some (vI (zBEST D G N))) h') : zC (d + 14) mX9_about 0 0 [vR 2, vI 4] h Q := by
  have zo2 := hW.ob
  have zo3 := hW.nw.2.1
  obtain ⟨V, w, hY⟩ := hW.tl
  have zo16 := hY.2.1
  have hd : ∀ p : Int, 0 ≤ p → p ≤ N → 0 ≤ D p ∧ D p ≤ 1000 ∧ 0 ≤ G p ∧ G p ≤ 1000 := fun p a b => by have := hO.2.1 p a b; omega
  have eb : (if N = 0 then 0 else zLL D G N N (zst V 0 (D 0)) 1 1000) = zBEST D G N := by
    unfold zBEST
    by_cases e : N = 0
    · rw [if_pos e, if_pos e]
    · rw [if_neg e, if_neg e]
      refine zLL_cg (by omega) N (by rw [zkb_1 (by omega)]; decide) (fun p a b k => ?_)
      rw [zkb_1 (by omega)] at k
      have e0 : p = 0 := by simpa using k
      rw [e0, zst_same]
  refine zC.of zpl_X9 (Nat.le_of_ble_eq_true rfl) ?_
  refine z_iload_n 1 dX9_about_0 rfl rfl ?_
  · refine z_tableIn 85 dX9_about_1 (by omega) (by omega) (by omega) rfl (by decide) ?_
    refine z_aload_n 86 dX9_about_85 rfl rfl ?_
    refine z_getf (ci := 9) 89 dX9_about_86 rfl rfl zin_9 0 (by decide) zw_224 (by first | with_reducible assumption | with_reducible exact zup_same _ _ _) rfl ?_
    refine z_cV0 92 dX9_about_89 rfl kX6_people zw_401 (Nat.le_of_ble_eq_true rfl) ⟨Nat.le_refl _, Nat.le_refl _⟩ (by first | with_reducible assumption | with_reducible exact zup_same _ _ _) ?_
    refine c_X6_people hW.nw ?_
    refine z_bipush 94 dX9_about_92 rfl (by decide) ?_
    refine z_icmp_le 102 97 dX9_about_94 (by decide) rfl (by first | omega | exact zr_b _ | exact zr_and _ _ | exact zr_or _ _ | exact zr_shl _ _) (by first | omega | exact zr_b _ | exact zr_and _ _ | exact zr_or _ _ | exact zr_shl _ _) (fun c94 => ?_) (fun c94 => ?_)
    · refine z_aload_n 103 dX9_about_102 rfl rfl ?_
      refine z_getf (ci := 9) 106 dX9_about_103 rfl rfl zin_9 3 (by decide) zw_227 (by first | with_reducible assumption | with_reducible exact zup_same _ _ _) rfl ?_
      refine z_aload_n 107 dX9_about_106 rfl rfl ?_
      refine z_getf (ci := 9) 110 dX9_about_107 rfl rfl zin_9 0 (by decide) zw_224 (by first | with_reducible assumption | with_reducible exact zup_same _ _ _) rfl ?_
      refine z_cV1 113 dX9_about_110 rfl kX5_leastLast zw_454 (Nat.le_of_ble_eq_true rfl) ⟨Nat.le_refl _, Nat.le_refl _⟩ (by first | with_reducible assumption | with_reducible exact zup_same _ _ _) ?_
      refine c_X5_leastLast hY hW.nw (by omega) (by omega) hd (fun V' w' => ?_)
      rw [eb]
      refine z_ret dX9_about_113 (by first | exact True.intro | exact Or.inl rfl | exact Or.inr rfl | exact zb_01 _ | assumption | (show _ ∨ _; omega)) ⟨Nat.le_refl _, Nat.le_refl _⟩ ?_
      exact hQ _ (hW.tl_set (ztl_Mod _ _ _ _) ⟨V', w', ztl_Tlr hY V' w'⟩) ((ztl_Mod _ _ _ _).wd (by omega))
    · exfalso; omega
theorem c_X9_about5 (hW : zCW h (N, M, D, G, E, P) U C l fi ct S fl Kp W Kt c sd O) (hQ : Q (some (vI ((M : Int) * N))) h) : zC (d + 14) mX9_about 0 0 [vR 2, vI 5] h Q := by
  have zo2 := hW.ob
  have zo3 := hW.nw.2.1
  refine zC.of zpl_X9 (Nat.le_of_ble_eq_true rfl) ?_
  refine z_iload_n 1 dX9_about_0 rfl rfl ?_
  · refine z_tableIn 114 dX9_about_1 (by omega) (by omega) (by omega) rfl (by decide) ?_
    refine z_aload_n 115 dX9_about_114 rfl rfl ?_
    refine z_getf (ci := 9) 118 dX9_about_115 rfl rfl zin_9 0 (by decide) zw_224 (by first | with_reducible assumption | with_reducible exact zup_same _ _ _) rfl ?_
    refine z_cV0 121 dX9_about_118 rfl kX6_news zw_405 (Nat.le_of_ble_eq_true rfl) ⟨Nat.le_refl _, Nat.le_refl _⟩ (by first | with_reducible assumption | with_reducible exact zup_same _ _ _) ?_
    refine c_X6_news hW.nw ?_
    refine z_aload_n 122 dX9_about_121 rfl rfl ?_
    refine z_getf (ci := 9) 125 dX9_about_122 rfl rfl zin_9 0 (by decide) zw_224 (by first | with_reducible assumption | with_reducible exact zup_same _ _ _) rfl ?_
    refine z_cV0 128 dX9_about_125 rfl kX6_standing zw_469 (Nat.le_of_ble_eq_true rfl) ⟨Nat.le_refl _, Nat.le_refl _⟩ (by first | with_reducible assumption | with_reducible exact zup_same _ _ _) ?_
    refine c_X6_standing hW.nw ?_
    refine z_imul 129 dX9_about_128 rfl ?_
    refine z_ret dX9_about_129 (by first | exact True.intro | exact Or.inl rfl | exact Or.inr rfl | exact zb_01 _ | assumption | (show _ ∨ _; omega)) ⟨Nat.le_refl _, Nat.le_refl _⟩ ?_
    exact hQ
theorem c_X9_about6 (hW : zCW h T U C l fi ct S fl Kp W Kt c sd O) (hQ : Q (some (vI ct)) h) : zC (d + 14) mX9_about 0 0 [vR 2, vI 6] h Q := by
  have zo2 := hW.ob
  have zo22 := hW.ac
  refine zC.of zpl_X9 (Nat.le_of_ble_eq_true rfl) ?_
  refine z_iload_n 1 dX9_about_0 rfl rfl ?_
  · refine z_tableIn 130 dX9_about_1 (by omega) (by omega) (by omega) rfl (by decide) ?_
    refine z_aload_n 131 dX9_about_130 rfl rfl ?_
    refine z_getf (ci := 9) 134 dX9_about_131 rfl rfl zin_9 6 (by decide) zw_230 (by first | with_reducible assumption | with_reducible exact zup_same _ _ _) rfl ?_
    refine z_cV0 137 dX9_about_134 rfl kX0_count zw_470 (Nat.le_of_ble_eq_true rfl) ⟨Nat.le_refl _, Nat.le_refl _⟩ (by first | with_reducible assumption | with_reducible exact zup_same _ _ _) ?_
    refine c_X0_count hW.ac ?_
    refine z_ret dX9_about_137 (by first | exact True.intro | exact Or.inl rfl | exact Or.inr rfl | exact zb_01 _ | assumption | (show _ ∨ _; omega)) ⟨Nat.le_refl _, Nat.le_refl _⟩ ?_
    exact hQ
theorem c_X9_about7 (hW : zCW h T U C l fi ct S fl Kp W Kt c sd O) (hQ : Q (some (vI c)) h) : zC (d + 14) mX9_about 0 0 [vR 2, vI 7] h Q := by
  have zo2 := hW.ob
  have zo108 := hW.se.2.1
  refine zC.of zpl_X9 (Nat.le_of_ble_eq_true rfl) ?_
  refine z_iload_n 1 dX9_about_0 rfl rfl ?_
  · refine z_tableIn 138 dX9_about_1 (by omega) (by omega) (by omega) rfl (by decide) ?_
    refine z_aload_n 139 dX9_about_138 rfl rfl ?_
    refine z_getf (ci := 9) 142 dX9_about_139 rfl rfl zin_9 8 (by decide) zw_232 (by first | with_reducible assumption | with_reducible exact zup_same _ _ _) rfl ?_
    refine z_cV0 145 dX9_about_142 rfl kX2_count zw_474 (Nat.le_of_ble_eq_true rfl) ⟨Nat.le_refl _, Nat.le_refl _⟩ (by first | with_reducible assumption | with_reducible exact zup_same _ _ _) ?_
    refine c_X2_count hW.se ?_
    refine z_ret dX9_about_145 (by first | exact True.intro | exact Or.inl rfl | exact Or.inr rfl | exact zb_01 _ | assumption | (show _ ∨ _; omega)) ⟨Nat.le_refl _, Nat.le_refl _⟩ ?_
    exact hQ
theorem c_X9_about8 (hW : zCW h T U C l fi ct S fl Kp W Kt c sd O) (hQ : Q (some (vI l)) h) : zC (d + 14) mX9_about 0 0 [vR 2, vI 8] h Q := by
  have zo2 := hW.ob
  have zo20 := hW.tx.2.1
  refine zC.of zpl_X9 (Nat.le_of_ble_eq_true rfl) ?_
  refine z_iload_n 1 dX9_about_0 rfl rfl ?_
  · refine z_tableIn 146 dX9_about_1 (by omega) (by omega) (by omega) rfl (by decide) ?_
    refine z_aload_n 147 dX9_about_146 rfl rfl ?_
    refine z_getf (ci := 9) 150 dX9_about_147 rfl rfl zin_9 5 (by decide) zw_229 (by first | with_reducible assumption | with_reducible exact zup_same _ _ _) rfl ?_
    refine z_cV0 153 dX9_about_150 rfl kX7_length zw_269 (Nat.le_of_ble_eq_true rfl) ⟨Nat.le_refl _, Nat.le_refl _⟩ (by first | with_reducible assumption | with_reducible exact zup_same _ _ _) ?_
    refine c_X7_length hW.tx ?_
    refine z_ret dX9_about_153 (by first | exact True.intro | exact Or.inl rfl | exact Or.inr rfl | exact zb_01 _ | assumption | (show _ ∨ _; omega)) ⟨Nat.le_refl _, Nat.le_refl _⟩ ?_
    exact hQ
theorem c_X9_person_no {p w : Int} (hW : zCW h (N, M, D, G, E, P) U C l fi ct S fl Kp W Kt c sd O) (hN : N ≤ 7) (hp : (-2147483648 ≤ p ∧ p ≤ 2147483647) ∧ ¬ (0 ≤ p ∧ p < N + 1)) (hQ : Q (some (vI (-1))) h) : zC (d + 5) mX9_person 0 0 [vR 2, vI p, vI w] h Q := by
  have zo2 := hW.ob
  have zo3 := hW.nw.2.1
  refine zC.of zpl_X9 (Nat.le_of_ble_eq_true rfl) ?_
  refine z_aload_n 1 dX9_person_0 rfl rfl ?_
  refine z_getf (ci := 9) 4 dX9_person_1 rfl rfl zin_9 0 (by decide) zw_224 (by first | with_reducible assumption | with_reducible exact zup_same _ _ _) rfl ?_
  refine z_iload_n 5 dX9_person_4 rfl rfl ?_
  refine z_cV1 8 dX9_person_5 rfl kX6_hasPerson zw_482 (Nat.le_of_ble_eq_true rfl) ⟨Nat.le_refl _, Nat.le_refl _⟩ (by first | with_reducible assumption | with_reducible exact zup_same _ _ _) ?_
  refine c_X6_hasPerson hW.nw hp.1 (by omega) ?_
  refine z_if_ne 13 11 dX9_person_8 (by decide) rfl (by first | omega | exact zr_b _ | exact zr_and _ _ | exact zr_or _ _ | exact zr_shl _ _) (fun c8 => ?_) (fun c8 => ?_)
  · exact absurd (zb_1 c8) (by omega)
  · try replace c8 := zb_0 c8
    refine z_iconst 12 dX9_person_11 rfl ?_
    refine z_ret dX9_person_12 (by first | exact True.intro | exact Or.inl rfl | exact Or.inr rfl | exact zb_01 _ | assumption | (show _ ∨ _; omega)) ⟨Nat.le_refl _, Nat.le_refl _⟩ ?_
    exact hQ
theorem c_X9_person_bad {p w : Int} (hW : zCW h (N, M, D, G, E, P) U C l fi ct S fl Kp W Kt c sd O) (hN : N ≤ 7) (hp : 0 ≤ p ∧ p < N + 1) (hw : (-2147483648 ≤ w ∧ w ≤ 2147483647) ∧ (w < 0 ∨ 6 < w)) (hQ : Q (some (vI (-2))) h) : zC (d + 5) mX9_person 0 0 [vR 2, vI p, vI w] h Q := by
  have zo2 := hW.ob
  have zo3 := hW.nw.2.1
  refine zC.of zpl_X9 (Nat.le_of_ble_eq_true rfl) ?_
  refine z_aload_n 1 dX9_person_0 rfl rfl ?_
  refine z_getf (ci := 9) 4 dX9_person_1 rfl rfl zin_9 0 (by decide) zw_224 (by first | with_reducible assumption | with_reducible exact zup_same _ _ _) rfl ?_
  refine z_iload_n 5 dX9_person_4 rfl rfl ?_
  refine z_cV1 8 dX9_person_5 rfl kX6_hasPerson zw_482 (Nat.le_of_ble_eq_true rfl) ⟨Nat.le_refl _, Nat.le_refl _⟩ (by first | with_reducible assumption | with_reducible exact zup_same _ _ _) ?_
  refine c_X6_hasPerson hW.nw (by omega) (by omega) ?_
  refine z_if_ne 13 11 dX9_person_8 (by decide) rfl (by first | omega | exact zr_b _ | exact zr_and _ _ | exact zr_or _ _ | exact zr_shl _ _) (fun c8 => ?_) (fun c8 => ?_)
  · try replace c8 := zb_1 c8
    refine z_iload_n 14 dX9_person_13 rfl rfl ?_
    · refine z_tableOut 113 dX9_person_14 (by omega) hw.2 (by decide) ?_
      refine z_bipush 115 dX9_person_113 rfl (by decide) ?_
      refine z_ret dX9_person_115 (by first | exact True.intro | exact Or.inl rfl | exact Or.inr rfl | exact zb_01 _ | assumption | (show _ ∨ _; omega)) ⟨Nat.le_refl _, Nat.le_refl _⟩ ?_
      exact hQ
  · exact absurd (show 0 ≤ p ∧ p < ((N + 1 : Nat) : Int) by omega) (zb_0 c8)
theorem c_X9_person0 {p : Int} (hW : zCW h (N, M, D, G, E, P) U C l fi ct S fl Kp W Kt c sd O) (hO : zOK 9 N D G E P) (hp : 0 ≤ p ∧ p ≤ N) (hQ : Q (some (vI (D p))) h) : zC (d + 5) mX9_person 0 0 [vR 2, vI p, vI 0] h Q := by
  have hN := hO.1
  have zo2 := hW.ob
  have zo3 := hW.nw.2.1
  refine zC.of zpl_X9 (Nat.le_of_ble_eq_true rfl) ?_
  refine z_aload_n 1 dX9_person_0 rfl rfl ?_
  refine z_getf (ci := 9) 4 dX9_person_1 rfl rfl zin_9 0 (by decide) zw_224 (by first | with_reducible assumption | with_reducible exact zup_same _ _ _) rfl ?_
  refine z_iload_n 5 dX9_person_4 rfl rfl ?_
  refine z_cV1 8 dX9_person_5 rfl kX6_hasPerson zw_482 (Nat.le_of_ble_eq_true rfl) ⟨Nat.le_refl _, Nat.le_refl _⟩ (by first | with_reducible assumption | with_reducible exact zup_same _ _ _) ?_
  refine c_X6_hasPerson hW.nw (by omega) (by omega) ?_
  refine z_if_ne 13 11 dX9_person_8 (by decide) rfl (by first | omega | exact zr_b _ | exact zr_and _ _ | exact zr_or _ _ | exact zr_shl _ _) (fun c8 => ?_) (fun c8 => ?_)
  · try replace c8 := zb_1 c8
    refine z_iload_n 14 dX9_person_13 rfl rfl ?_
    · refine z_tableIn 56 dX9_person_14 (by omega) (by omega) (by omega) rfl (by decide) ?_
      refine z_aload_n 57 dX9_person_56 rfl rfl ?_
      refine z_getf (ci := 9) 60 dX9_person_57 rfl rfl zin_9 0 (by decide) zw_224 (by first | with_reducible assumption | with_reducible exact zup_same _ _ _) rfl ?_
      refine z_iload_n 61 dX9_person_60 rfl rfl ?_
      refine z_cV1 64 dX9_person_61 rfl kX6_delayOf zw_486 (Nat.le_of_ble_eq_true rfl) ⟨Nat.le_refl _, Nat.le_refl _⟩ (by first | with_reducible assumption | with_reducible exact zup_same _ _ _) ?_
      refine c_X6_delayOf hW.nw (by omega) ?_
      refine z_ret dX9_person_64 (by first | exact True.intro | exact Or.inl rfl | exact Or.inr rfl | exact zb_01 _ | assumption | (show _ ∨ _; omega)) ⟨Nat.le_refl _, Nat.le_refl _⟩ ?_
      exact hQ
  · exact absurd (show 0 ≤ p ∧ p < ((N + 1 : Nat) : Int) by omega) (zb_0 c8)
theorem c_X9_person1 {p : Int} (hW : zCW h (N, M, D, G, E, P) U C l fi ct S fl Kp W Kt c sd O) (hO : zOK 9 N D G E P) (hp : 0 ≤ p ∧ p ≤ N) (hQ : Q (some (vI (G p))) h) : zC (d + 5) mX9_person 0 0 [vR 2, vI p, vI 1] h Q := by
  have hN := hO.1
  have zo2 := hW.ob
  have zo3 := hW.nw.2.1
  refine zC.of zpl_X9 (Nat.le_of_ble_eq_true rfl) ?_
  refine z_aload_n 1 dX9_person_0 rfl rfl ?_
  refine z_getf (ci := 9) 4 dX9_person_1 rfl rfl zin_9 0 (by decide) zw_224 (by first | with_reducible assumption | with_reducible exact zup_same _ _ _) rfl ?_
  refine z_iload_n 5 dX9_person_4 rfl rfl ?_
  refine z_cV1 8 dX9_person_5 rfl kX6_hasPerson zw_482 (Nat.le_of_ble_eq_true rfl) ⟨Nat.le_refl _, Nat.le_refl _⟩ (by first | with_reducible assumption | with_reducible exact zup_same _ _ _) ?_
  refine c_X6_hasPerson hW.nw (by omega) (by omega) ?_
  refine z_if_ne 13 11 dX9_person_8 (by decide) rfl (by first | omega | exact zr_b _ | exact zr_and _ _ | exact zr_or _ _ | exact zr_shl _ _) (fun c8 => ?_) (fun c8 => ?_)
  · try replace c8 := zb_1 c8
    refine z_iload_n 14 dX9_person_13 rfl rfl ?_
    · refine z_tableIn 65 dX9_person_14 (by omega) (by omega) (by omega) rfl (by decide) ?_
      refine z_aload_n 66 dX9_person_65 rfl rfl ?_
      refine z_getf (ci := 9) 69 dX9_person_66 rfl rfl zin_9 0 (by decide) zw_224 (by first | with_reducible assumption | with_reducible exact zup_same _ _ _) rfl ?_
      refine z_iload_n 70 dX9_person_69 rfl rfl ?_
      refine z_cV1 73 dX9_person_70 rfl kX6_gapOf zw_487 (Nat.le_of_ble_eq_true rfl) ⟨Nat.le_refl _, Nat.le_refl _⟩ (by first | with_reducible assumption | with_reducible exact zup_same _ _ _) ?_
      refine c_X6_gapOf hW.nw (by omega) ?_
      refine z_ret dX9_person_73 (by first | exact True.intro | exact Or.inl rfl | exact Or.inr rfl | exact zb_01 _ | assumption | (show _ ∨ _; omega)) ⟨Nat.le_refl _, Nat.le_refl _⟩ ?_
      exact hQ
  · exact absurd (show 0 ≤ p ∧ p < ((N + 1 : Nat) : Int) by omega) (zb_0 c8)
theorem c_X9_person2 {p : Int} (hW : zCW h (N, M, D, G, E, P) U C l fi ct S fl Kp W Kt c sd O) (hO : zOK 9 N D G E P) (hp : 0 ≤ p ∧ p ≤ N) (hQ : Q (some (vI (E p))) h) : zC (d + 5) mX9_person 0 0 [vR 2, vI p, vI 2] h Q := by
  have hN := hO.1
  have zo2 := hW.ob
  have zo3 := hW.nw.2.1
  refine zC.of zpl_X9 (Nat.le_of_ble_eq_true rfl) ?_
  refine z_aload_n 1 dX9_person_0 rfl rfl ?_
  refine z_getf (ci := 9) 4 dX9_person_1 rfl rfl zin_9 0 (by decide) zw_224 (by first | with_reducible assumption | with_reducible exact zup_same _ _ _) rfl ?_
  refine z_iload_n 5 dX9_person_4 rfl rfl ?_
  refine z_cV1 8 dX9_person_5 rfl kX6_hasPerson zw_482 (Nat.le_of_ble_eq_true rfl) ⟨Nat.le_refl _, Nat.le_refl _⟩ (by first | with_reducible assumption | with_reducible exact zup_same _ _ _) ?_
  refine c_X6_hasPerson hW.nw (by omega) (by omega) ?_
  refine z_if_ne 13 11 dX9_person_8 (by decide) rfl (by first | omega | exact zr_b _ | exact zr_and _ _ | exact zr_or _ _ | exact zr_shl _ _) (fun c8 => ?_) (fun c8 => ?_)
  · try replace c8 := zb_1 c8
    refine z_iload_n 14 dX9_person_13 rfl rfl ?_
    · refine z_tableIn 74 dX9_person_14 (by omega) (by omega) (by omega) rfl (by decide) ?_
      refine z_aload_n 75 dX9_person_74 rfl rfl ?_
      refine z_getf (ci := 9) 78 dX9_person_75 rfl rfl zin_9 0 (by decide) zw_224 (by first | with_reducible assumption | with_reducible exact zup_same _ _ _) rfl ?_
      refine z_iload_n 79 dX9_person_78 rfl rfl ?_
      refine z_cV1 82 dX9_person_79 rfl kX6_tellerOf zw_488 (Nat.le_of_ble_eq_true rfl) ⟨Nat.le_refl _, Nat.le_refl _⟩ (by first | with_reducible assumption | with_reducible exact zup_same _ _ _) ?_
      refine c_X6_tellerOf hW.nw (by omega) ?_
      refine z_ret dX9_person_82 (by first | exact True.intro | exact Or.inl rfl | exact Or.inr rfl | exact zb_01 _ | assumption | (show _ ∨ _; omega)) ⟨Nat.le_refl _, Nat.le_refl _⟩ ?_
      exact hQ
  · exact absurd (show 0 ≤ p ∧ p < ((N + 1 : Nat) : Int) by omega) (zb_0 c8)
theorem c_X9_person4 {p : Int} (hW : zCW h (N, M, D, G, E, P) U C l fi ct S fl Kp W Kt c sd O) (hO : zOK 9 N D G E P) (hp : 0 ≤ p ∧ p ≤ N) (hQ : Q (some (vI (zcnt E P p N))) h) : zC (d + 5) mX9_person 0 0 [vR 2, vI p, vI 4] h Q := by
  have hN := hO.1
  have zo2 := hW.ob
  have zo3 := hW.nw.2.1
  refine zC.of zpl_X9 (Nat.le_of_ble_eq_true rfl) ?_
  refine z_aload_n 1 dX9_person_0 rfl rfl ?_
  refine z_getf (ci := 9) 4 dX9_person_1 rfl rfl zin_9 0 (by decide) zw_224 (by first | with_reducible assumption | with_reducible exact zup_same _ _ _) rfl ?_
  refine z_iload_n 5 dX9_person_4 rfl rfl ?_
  refine z_cV1 8 dX9_person_5 rfl kX6_hasPerson zw_482 (Nat.le_of_ble_eq_true rfl) ⟨Nat.le_refl _, Nat.le_refl _⟩ (by first | with_reducible assumption | with_reducible exact zup_same _ _ _) ?_
  refine c_X6_hasPerson hW.nw (by omega) (by omega) ?_
  refine z_if_ne 13 11 dX9_person_8 (by decide) rfl (by first | omega | exact zr_b _ | exact zr_and _ _ | exact zr_or _ _ | exact zr_shl _ _) (fun c8 => ?_) (fun c8 => ?_)
  · try replace c8 := zb_1 c8
    refine z_iload_n 14 dX9_person_13 rfl rfl ?_
    · refine z_tableIn 92 dX9_person_14 (by omega) (by omega) (by omega) rfl (by decide) ?_
      refine z_aload_n 93 dX9_person_92 rfl rfl ?_
      refine z_getf (ci := 9) 96 dX9_person_93 rfl rfl zin_9 0 (by decide) zw_224 (by first | with_reducible assumption | with_reducible exact zup_same _ _ _) rfl ?_
      refine z_iload_n 97 dX9_person_96 rfl rfl ?_
      refine z_cV1 100 dX9_person_97 rfl kX6_countToldBy zw_494 (Nat.le_of_ble_eq_true rfl) ⟨Nat.le_refl _, Nat.le_refl _⟩ (by first | with_reducible assumption | with_reducible exact zup_same _ _ _) ?_
      refine c_X6_countToldBy hW.nw hN (by omega) hO.v8 ?_
      refine z_ret dX9_person_100 (by first | exact True.intro | exact Or.inl rfl | exact Or.inr rfl | exact zb_01 _ | assumption | (show _ ∨ _; omega)) ⟨Nat.le_refl _, Nat.le_refl _⟩ ?_
      exact hQ
  · exact absurd (show 0 ≤ p ∧ p < ((N + 1 : Nat) : Int) by omega) (zb_0 c8)
theorem c_X9_person3 {p : Int} {k : Nat} (hW : zCW h (N, M, D, G, E, P) U C l fi ct S fl Kp W Kt c sd O) (hO : zOK 9 N D G E P) (hp : 1 ≤ p ∧ p ≤ N) (hk : k < N) (ek : P k = p) (hQ : Q (some (vI k)) h) : zC (d + 5) mX9_person 0 0 [vR 2, vI p, vI 3] h Q := by
  have hN := hO.1
  have zo2 := hW.ob
  have zo3 := hW.nw.2.1
  refine zC.of zpl_X9 (Nat.le_of_ble_eq_true rfl) ?_
  refine z_aload_n 1 dX9_person_0 rfl rfl ?_
  refine z_getf (ci := 9) 4 dX9_person_1 rfl rfl zin_9 0 (by decide) zw_224 (by first | with_reducible assumption | with_reducible exact zup_same _ _ _) rfl ?_
  refine z_iload_n 5 dX9_person_4 rfl rfl ?_
  refine z_cV1 8 dX9_person_5 rfl kX6_hasPerson zw_482 (Nat.le_of_ble_eq_true rfl) ⟨Nat.le_refl _, Nat.le_refl _⟩ (by first | with_reducible assumption | with_reducible exact zup_same _ _ _) ?_
  refine c_X6_hasPerson hW.nw (by omega) (by omega) ?_
  refine z_if_ne 13 11 dX9_person_8 (by decide) rfl (by first | omega | exact zr_b _ | exact zr_and _ _ | exact zr_or _ _ | exact zr_shl _ _) (fun c8 => ?_) (fun c8 => ?_)
  · try replace c8 := zb_1 c8
    refine z_iload_n 14 dX9_person_13 rfl rfl ?_
    · refine z_tableIn 83 dX9_person_14 (by omega) (by omega) (by omega) rfl (by decide) ?_
      refine z_aload_n 84 dX9_person_83 rfl rfl ?_
      refine z_getf (ci := 9) 87 dX9_person_84 rfl rfl zin_9 0 (by decide) zw_224 (by first | with_reducible assumption | with_reducible exact zup_same _ _ _) rfl ?_
      refine z_iload_n 88 dX9_person_87 rfl rfl ?_
      refine z_cV1 91 dX9_person_88 rfl kX6_placeOf zw_489 (Nat.le_of_ble_eq_true rfl) ⟨Nat.le_refl _, Nat.le_refl _⟩ (by first | with_reducible assumption | with_reducible exact zup_same _ _ _) ?_
      refine c_X6_placeOf hW.nw hN (by omega) hO.v8 hk ek (fun i hi q => by have := hO.2.2.2.1 i k (by omega) hk (q.trans ek.symm); omega) ?_
      refine z_ret dX9_person_91 (by first | exact True.intro | exact Or.inl rfl | exact Or.inr rfl | exact zb_01 _ | assumption | (show _ ∨ _; omega)) ⟨Nat.le_refl _, Nat.le_refl _⟩ ?_
      exact hQ
  · exact absurd (show 0 ≤ p ∧ p < ((N + 1 : Nat) : Int) by omega) (zb_0 c8)
theorem c_X9_person30 (hW : zCW h (N, M, D, G, E, P) U C l fi ct S fl Kp W Kt c sd O) (hO : zOK 9 N D G E P) (hQ : Q (some (vI (-9))) h) : zC (d + 5) mX9_person 0 0 [vR 2, vI 0, vI 3] h Q := by
  have hN := hO.1
  have zo2 := hW.ob
  have zo3 := hW.nw.2.1
  refine zC.of zpl_X9 (Nat.le_of_ble_eq_true rfl) ?_
  refine z_aload_n 1 dX9_person_0 rfl rfl ?_
  refine z_getf (ci := 9) 4 dX9_person_1 rfl rfl zin_9 0 (by decide) zw_224 (by first | with_reducible assumption | with_reducible exact zup_same _ _ _) rfl ?_
  refine z_iload_n 5 dX9_person_4 rfl rfl ?_
  refine z_cV1 8 dX9_person_5 rfl kX6_hasPerson zw_482 (Nat.le_of_ble_eq_true rfl) ⟨Nat.le_refl _, Nat.le_refl _⟩ (by first | with_reducible assumption | with_reducible exact zup_same _ _ _) ?_
  refine c_X6_hasPerson hW.nw (by omega) (by omega) ?_
  refine z_if_ne 13 11 dX9_person_8 (by decide) rfl (by first | omega | exact zr_b _ | exact zr_and _ _ | exact zr_or _ _ | exact zr_shl _ _) (fun c8 => ?_) (fun c8 => ?_)
  · try replace c8 := zb_1 c8
    refine z_iload_n 14 dX9_person_13 rfl rfl ?_
    · refine z_tableIn 83 dX9_person_14 (by omega) (by omega) (by omega) rfl (by decide) ?_
      refine z_aload_n 84 dX9_person_83 rfl rfl ?_
      refine z_getf (ci := 9) 87 dX9_person_84 rfl rfl zin_9 0 (by decide) zw_224 (by first | with_reducible assumption | with_reducible exact zup_same _ _ _) rfl ?_
      refine z_iload_n 88 dX9_person_87 rfl rfl ?_
      refine z_cV1 91 dX9_person_88 rfl kX6_placeOf zw_489 (Nat.le_of_ble_eq_true rfl) ⟨Nat.le_refl _, Nat.le_refl _⟩ (by first | with_reducible assumption | with_reducible exact zup_same _ _ _) ?_
      refine c_X6_placeOf_none hW.nw hN (by omega) hO.v8 (fun i hi q => by have := hO.2.2.1 i hi; omega) ?_
      refine z_ret dX9_person_91 (by first | exact True.intro | exact Or.inl rfl | exact Or.inr rfl | exact zb_01 _ | assumption | (show _ ∨ _; omega)) ⟨Nat.le_refl _, Nat.le_refl _⟩ ?_
      exact hQ
  · exact absurd (show (0 : Int) ≤ 0 ∧ 0 < ((N + 1 : Nat) : Int) by omega) (zb_0 c8)
theorem c_X9_person5 {p : Int} {r : Nat} (hW : zCW h (N, M, D, G, E, P) U C l fi ct S fl Kp W Kt c sd O) (hO : zOK 9 N D G E P) (hM : M ≤ 3) (hp : 0 ≤ p ∧ p ≤ N) (hr : r ≤ 30) (hs1 : ∀ j : Nat, 1 ≤ j → j ≤ r → zLAST (zst D p (D p + j)) G E P N M ≤ zLAST D G E P N M) (hs2 : r < 30 → zLAST D G E P N M < zLAST (zst D p (D p + (r + 1 : Nat))) G E P N M)
    (hQ : ∀ (h' : zH) (U' : zTD), zCW h' (N, M, D, G, E, P) U' C l fi ct S fl Kp W Kt c sd O → zMod 2 111 h h' → Q (some (vI r)) h') : zC (d + 5) mX9_person 0 0 [vR 2, vI p, vI 5] h Q := by
  have hN := hO.1
  have zo2 := hW.ob
  have zo3 := hW.nw.2.1
  refine zC.of zpl_X9 (Nat.le_of_ble_eq_true rfl) ?_
  refine z_aload_n 1 dX9_person_0 rfl rfl ?_
  refine z_getf (ci := 9) 4 dX9_person_1 rfl rfl zin_9 0 (by decide) zw_224 (by first | with_reducible assumption | with_reducible exact zup_same _ _ _) rfl ?_
  refine z_iload_n 5 dX9_person_4 rfl rfl ?_
  refine z_cV1 8 dX9_person_5 rfl kX6_hasPerson zw_482 (Nat.le_of_ble_eq_true rfl) ⟨Nat.le_refl _, Nat.le_refl _⟩ (by first | with_reducible assumption | with_reducible exact zup_same _ _ _) ?_
  refine c_X6_hasPerson hW.nw (by omega) (by omega) ?_
  refine z_if_ne 13 11 dX9_person_8 (by decide) rfl (by first | omega | exact zr_b _ | exact zr_and _ _ | exact zr_or _ _ | exact zr_shl _ _) (fun c8 => ?_) (fun c8 => ?_)
  · try replace c8 := zb_1 c8
    refine z_iload_n 14 dX9_person_13 rfl rfl ?_
    · refine z_tableIn 101 dX9_person_14 (by omega) (by omega) (by omega) rfl (by decide) ?_
      refine z_aload_n 102 dX9_person_101 rfl rfl ?_
      refine z_iload_n 103 dX9_person_102 rfl rfl ?_
      refine z_cV1 106 dX9_person_103 rfl kX9_slackOf zw_499 (Nat.le_of_ble_eq_true rfl) ⟨Nat.le_refl _, Nat.le_refl _⟩ (by first | with_reducible assumption | with_reducible exact zup_same _ _ _) ?_
      refine c_X9_slackOf hW hO hM hp hr hs1 hs2 (fun h' U' hW' hF => ?_)
      refine z_ret dX9_person_106 (by first | exact True.intro | exact Or.inl rfl | exact Or.inr rfl | exact zb_01 _ | assumption | (show _ ∨ _; omega)) ⟨Nat.le_refl _, Nat.le_refl _⟩ ?_
      exact hQ _ _ hW' hF
  · exact absurd (show 0 ≤ p ∧ p < ((N + 1 : Nat) : Int) by omega) (zb_0 c8)
theorem c_X9_person60 (hW : zCW h (N, M, D, G, E, P) U C l fi ct S fl Kp W Kt c sd O) (hN : N ≤ 7) (hQ : Q (some (vI (-9))) h) : zC (d + 5) mX9_person 0 0 [vR 2, vI 0, vI 6] h Q := by
  have zo2 := hW.ob
  have zo3 := hW.nw.2.1
  refine zC.of zpl_X9 (Nat.le_of_ble_eq_true rfl) ?_
  refine z_aload_n 1 dX9_person_0 rfl rfl ?_
  refine z_getf (ci := 9) 4 dX9_person_1 rfl rfl zin_9 0 (by decide) zw_224 (by first | with_reducible assumption | with_reducible exact zup_same _ _ _) rfl ?_
  refine z_iload_n 5 dX9_person_4 rfl rfl ?_
  refine z_cV1 8 dX9_person_5 rfl kX6_hasPerson zw_482 (Nat.le_of_ble_eq_true rfl) ⟨Nat.le_refl _, Nat.le_refl _⟩ (by first | with_reducible assumption | with_reducible exact zup_same _ _ _) ?_
  refine c_X6_hasPerson hW.nw (by omega) (by omega) ?_
  refine z_if_ne 13 11 dX9_person_8 (by decide) rfl (by first | omega | exact zr_b _ | exact zr_and _ _ | exact zr_or _ _ | exact zr_shl _ _) (fun c8 => ?_) (fun c8 => ?_)
  · try replace c8 := zb_1 c8
    refine z_iload_n 14 dX9_person_13 rfl rfl ?_
    · refine z_tableIn 107 dX9_person_14 (by omega) (by omega) (by omega) rfl (by decide) ?_
      refine z_aload_n 108 dX9_person_107 rfl rfl ?_
      refine z_iload_n 109 dX9_person_108 rfl rfl ?_
      refine z_cV1 112 dX9_person_109 rfl kX9_gatheredFrom zw_504 (Nat.le_of_ble_eq_true rfl) ⟨Nat.le_refl _, Nat.le_refl _⟩ (by first | with_reducible assumption | with_reducible exact zup_same _ _ _) ?_
      refine c_X9_gatheredFrom0 ?_
      refine z_ret dX9_person_112 (by first | exact True.intro | exact Or.inl rfl | exact Or.inr rfl | exact zb_01 _ | assumption | (show _ ∨ _; omega)) ⟨Nat.le_refl _, Nat.le_refl _⟩ ?_
      exact hQ
  · exact absurd (show (0 : Int) ≤ 0 ∧ 0 < ((N + 1 : Nat) : Int) by omega) (zb_0 c8)
theorem c_X9_person6 {p : Int} (hW : zCW h (N, M, D, G, E, P) U C l fi ct S fl Kp W Kt c sd O) (hO : zOK 9 N D G E P) (hM : 1 ≤ M ∧ M ≤ 3) (hp : 1 ≤ p ∧ p ≤ N) (hQ : ∀ h' : zH, zCW h' (N, M, D, G, E, P) U C l fi ct S fl Kp W Kt c sd O → zMod 2 111 h h' → Q (some (vI (zLAST D G E P N M - zTK D G E P N M p (M - 1)))) h') : zC (d + 5) mX9_person 0 0 [vR 2, vI p, vI 6] h Q := by
  have hN := hO.1
  have zo2 := hW.ob
  have zo3 := hW.nw.2.1
  refine zC.of zpl_X9 (Nat.le_of_ble_eq_true rfl) ?_
  refine z_aload_n 1 dX9_person_0 rfl rfl ?_
  refine z_getf (ci := 9) 4 dX9_person_1 rfl rfl zin_9 0 (by decide) zw_224 (by first | with_reducible assumption | with_reducible exact zup_same _ _ _) rfl ?_
  refine z_iload_n 5 dX9_person_4 rfl rfl ?_
  refine z_cV1 8 dX9_person_5 rfl kX6_hasPerson zw_482 (Nat.le_of_ble_eq_true rfl) ⟨Nat.le_refl _, Nat.le_refl _⟩ (by first | with_reducible assumption | with_reducible exact zup_same _ _ _) ?_
  refine c_X6_hasPerson hW.nw (by omega) (by omega) ?_
  refine z_if_ne 13 11 dX9_person_8 (by decide) rfl (by first | omega | exact zr_b _ | exact zr_and _ _ | exact zr_or _ _ | exact zr_shl _ _) (fun c8 => ?_) (fun c8 => ?_)
  · try replace c8 := zb_1 c8
    refine z_iload_n 14 dX9_person_13 rfl rfl ?_
    · refine z_tableIn 107 dX9_person_14 (by omega) (by omega) (by omega) rfl (by decide) ?_
      refine z_aload_n 108 dX9_person_107 rfl rfl ?_
      refine z_iload_n 109 dX9_person_108 rfl rfl ?_
      refine z_cV1 112 dX9_person_109 rfl kX9_gatheredFrom zw_504 (Nat.le_of_ble_eq_true rfl) ⟨Nat.le_refl _, Nat.le_refl _⟩ (by first | with_reducible assumption | with_reducible exact zup_same _ _ _) ?_
      refine c_X9_gatheredFrom hW hO hM hp (fun h' hW' hF => ?_)
      refine z_ret dX9_person_112 (by first | exact True.intro | exact Or.inl rfl | exact Or.inr rfl | exact zb_01 _ | assumption | (show _ ∨ _; omega)) ⟨Nat.le_refl _, Nat.le_refl _⟩ ?_
      exact hQ _ hW' hF
  · exact absurd (show 0 ≤ p ∧ p < ((N + 1 : Nat) : Int) by omega) (zb_0 c8)
end ABOUT
