/-! THE LAW: its loop, its entry -/
section LAWCG
variable {h h' : zH}
theorem zTelD.cg {t : Nat} {T : zTD} (hT : zTelD h t T) (hc : ∀ a : Nat, a < 112 → h'.1 a = h.1 a) (ht : t + 4 < 112) : zTelD h' t T := by
  obtain ⟨N, M, D, G, E, P⟩ := T
  obtain ⟨h0, h1, h2, h3, h4, h5⟩ := hT
  refine ⟨h0, ?_, ?_, ?_, ?_, ?_⟩ <;> (rw [hc _ (by omega)]; assumption)
theorem zShl.cg {z n b : Nat} (hZ : zShl h z n b) (hc : ∀ a : Nat, a < 112 → h'.1 a = h.1 a) (hz : z + 1 < 112) : zShl h' z n b := by
  obtain ⟨h2, h3, f, h4, h5⟩ := hZ
  exact ⟨h2, by rw [hc _ (by omega)]; exact h3, f, by rw [hc _ (by omega)]; exact h4, h5⟩
theorem zCW.cg {T U : zTD} {C : Int → Int} {l fi ct : Int} {S : Nat → zTD} {fl : Int} {Kp : Nat → zTD} {W Kt : Int → Int} {c sd : Int} {O : Int → Int} (hW : zCW h T U C l fi ct S fl Kp W Kt c sd O) (hc : ∀ a : Nat, a < 112 → h'.1 a = h.1 a) : zCW h' T U C l fi ct S fl Kp W Kt c sd O := by
  refine ⟨by rw [hc _ (by omega)]; exact hW.ob, hW.nw.cg hc (by omega), hW.su.cg hc (by omega), ?_, ?_, ?_, ?_, by rw [hc _ (by omega)]; exact hW.ac, hW.s1.cg hc (by omega), fun i hi => (hW.sv i hi).cg hc (by omega), by rw [hc _ (by omega)]; exact hW.sl, hW.s2.cg hc (by omega), fun i hi => (hW.kp i hi).cg hc (by omega), ?_, by rw [hc _ (by omega)]; exact hW.do_, by rw [hc _ (by omega)]; exact hW.fa⟩
  · obtain ⟨K, F, ⟨h0, h1, h2, h3⟩, b⟩ := hW.ti
    exact ⟨K, F, ⟨h0, by rw [hc _ (by omega)]; exact h1, by rw [hc _ (by omega)]; exact h2, by rw [hc _ (by omega)]; exact h3⟩, b⟩
  · obtain ⟨V, w, h0, h1, h2⟩ := hW.tl
    exact ⟨V, w, h0, by rw [hc _ (by omega)]; exact h1, by rw [hc _ (by omega)]; exact h2⟩
  · obtain ⟨B, h0, h1, h2⟩ := hW.nu
    exact ⟨B, h0, by rw [hc _ (by omega)]; exact h1, by rw [hc _ (by omega)]; exact h2⟩
  · obtain ⟨h0, h1, h2⟩ := hW.tx
    exact ⟨h0, by rw [hc _ (by omega)]; exact h1, by rw [hc _ (by omega)]; exact h2⟩
  · obtain ⟨h0, h1, h2, h3⟩ := hW.se
    exact ⟨h0, by rw [hc _ (by omega)]; exact h1, by rw [hc _ (by omega)]; exact h2, by rw [hc _ (by omega)]; exact h3⟩
end LAWCG
section LAWL
variable {nm : String} {d : Nat} {L : Nat} {f : Int → Int} {h : zH} {Q : Option zV → zH → Prop}
theorem law_loop (hL : L ≤ 2048) (hf : ∀ j : Int, 0 ≤ j → j < L → -2147483648 ≤ f j ∧ f j ≤ 2147483647) (hQ : ∀ h' : zH, Q (some (vI 1)) h') : ∀ (m : Nat) (i : Int) (h : zH), 0 ≤ i → (i ≤ (L : Int) + 4) → (L : Int) - i ≤ 4 * m → zINV L f h → Z (d + 15) (mL nm) zml 18 [some (vR 0), some (vR 2), some (vR 112), some (vI i)] [] h Q := by
  intro m
  induction m with
  | zero =>
    intro i h hi hiL hm hI
    have hs := hI.1
    refine z_iload_n 19 dL_law_18 rfl rfl ?_
    refine z_aload_n 20 dL_law_19 rfl rfl ?_
    refine z_alen 21 dL_law_20 rfl (by first | with_reducible assumption | with_reducible exact zup_same _ _ _) ?_
    refine z_iconst 22 dL_law_21 rfl ?_
    refine z_isub 23 dL_law_22 rfl ?_
    refine z_icmp_gt 947 26 dL_law_23 (by decide) rfl (by first | omega | exact zr_b _ | exact zr_and _ _ | exact zr_or _ _ | exact zr_shl _ _) (by first | omega | exact zr_b _ | exact zr_and _ _ | exact zr_or _ _ | exact zr_shl _ _) (fun c23 => ?_) (fun c23 => ?_)
    · refine z_iconst 948 dL_law_947 rfl ?_
      refine z_ret dL_law_948 (by first | exact True.intro | exact Or.inl rfl | exact Or.inr rfl | exact zb_01 _ | assumption | (show _ ∨ _; omega)) ⟨Nat.le_refl _, Nat.le_refl _⟩ ?_
      exact hQ _
    · exfalso; omega
  | succ m ih =>
    intro i h hi hiL hm hI
    have hs := hI.1
    by_cases e : i + 4 ≤ (L : Int)
    · have kk : ∀ h2 : zH, zINV L f h2 → Z (d + 15) (mL nm) zml 941 [some (vR 0), some (vR 2), some (vR 112), some (vI i)] [] h2 Q := fun h2 hI2 => by
        refine z_iinc 944 dL_law_941 rfl (Nat.le_of_ble_eq_true rfl) rfl ?_
        refine z_goto 18 dL_law_944 (by decide) ?_
        exact ih (i + 4) h2 (by omega) (by omega) (by omega) hI2
      have hx := zr_and (f i) 31
      have rf := hf i (by omega) (by omega)
      refine z_iload_n 19 dL_law_18 rfl rfl ?_
      refine z_aload_n 20 dL_law_19 rfl rfl ?_
      refine z_alen 21 dL_law_20 rfl (by first | with_reducible assumption | with_reducible exact zup_same _ _ _) ?_
      refine z_iconst 22 dL_law_21 rfl ?_
      refine z_isub 23 dL_law_22 rfl ?_
      refine z_icmp_gt 947 26 dL_law_23 (by decide) rfl (by first | omega | exact zr_b _ | exact zr_and _ _ | exact zr_or _ _ | exact zr_shl _ _) (by first | omega | exact zr_b _ | exact zr_and _ _ | exact zr_or _ _ | exact zr_shl _ _) (fun c23 => ?_) (fun c23 => ?_)
      · exfalso; omega
      · refine z_aload_n 27 dL_law_26 rfl rfl ?_
        refine z_iload_n 28 dL_law_27 rfl rfl ?_
        refine z_iald 29 dL_law_28 rfl (by first | with_reducible assumption | with_reducible exact zup_same _ _ _) (by omega) (by first | omega | exact zr_b _ | exact zr_and _ _ | exact zr_or _ _ | exact zr_shl _ _) ?_
        refine z_bipush 31 dL_law_29 rfl (by decide) ?_
        refine z_iand 32 dL_law_31 rfl ?_
        generalize zand (f i) 31 = x at hx ⊢
        rcases (show x = 0 ∨ x = 1 ∨ x = 2 ∨ x = 3 ∨ x = 4 ∨ x = 5 ∨ x = 6 ∨ x = 7 ∨ x = 8 ∨ x = 9 ∨ x = 10 ∨ x = 11 ∨ x = 12 ∨ x = 13 ∨ x = 14 ∨ x = 15 ∨ x = 16 ∨ x = 17 ∨ x = 18 ∨ x = 19 ∨ x = 20 ∨ x = 21 ∨ x = 22 ∨ x = 23 ∨ x = 24 ∨ x = 25 ∨ x = 26 ∨ (x < 0 ∨ 26 < x) by omega) with rfl | rfl | rfl | rfl | rfl | rfl | rfl | rfl | rfl | rfl | rfl | rfl | rfl | rfl | rfl | rfl | rfl | rfl | rfl | rfl | rfl | rfl | rfl | rfl | rfl | rfl | rfl | hx2
        · refine z_tableIn 156 dL_law_32 (by omega) (by omega) (by omega) rfl (by decide) ?_
          exact lc_write hI ⟨hi, e⟩ hL hf kk
        · refine z_tableIn 179 dL_law_32 (by omega) (by omega) (by omega) rfl (by decide) ?_
          exact lc_wipe hI ⟨hi, e⟩ hL hf kk
        · refine z_tableIn 192 dL_law_32 (by omega) (by omega) (by omega) rfl (by decide) ?_
          exact lc_fault hI ⟨hi, e⟩ hL hf kk
        · refine z_tableIn 205 dL_law_32 (by omega) (by omega) (by omega) rfl (by decide) ?_
          exact lc_telling hI ⟨hi, e⟩ hL hf kk
        · refine z_tableIn 218 dL_law_32 (by omega) (by omega) (by omega) rfl (by decide) ?_
          exact lc_about hI ⟨hi, e⟩ hL hf kk
        · refine z_tableIn 241 dL_law_32 (by omega) (by omega) (by omega) rfl (by decide) ?_
          exact lc_person hI ⟨hi, e⟩ hL hf kk
        · refine z_tableIn 274 dL_law_32 (by omega) (by omega) (by omega) rfl (by decide) ?_
          exact lc_plan hI ⟨hi, e⟩ hL hf kk
        · refine z_tableIn 297 dL_law_32 (by omega) (by omega) (by omega) rfl (by decide) ?_
          exact lc_knows hI ⟨hi, e⟩ hL hf kk
        · refine z_tableIn 330 dL_law_32 (by omega) (by omega) (by omega) rfl (by decide) ?_
          exact lc_last hI ⟨hi, e⟩ hL hf kk
        · refine z_tableIn 353 dL_law_32 (by omega) (by omega) (by omega) rfl (by decide) ?_
          exact lc_move hI ⟨hi, e⟩ hL hf kk
        · refine z_tableIn 386 dL_law_32 (by omega) (by omega) (by omega) rfl (by decide) ?_
          exact lc_change hI ⟨hi, e⟩ hL hf kk
        · refine z_tableIn 409 dL_law_32 (by omega) (by omega) (by omega) rfl (by decide) ?_
          exact lc_quicken hI ⟨hi, e⟩ hL hf kk
        · refine z_tableIn 422 dL_law_32 (by omega) (by omega) (by omega) rfl (by decide) ?_
          exact lc_set hI ⟨hi, e⟩ hL hf kk
        · refine z_tableIn 465 dL_law_32 (by omega) (by omega) (by omega) rfl (by decide) ?_
          exact lc_undo hI ⟨hi, e⟩ hL hf kk
        · refine z_tableIn 478 dL_law_32 (by omega) (by omega) (by omega) rfl (by decide) ?_
          exact lc_number hI ⟨hi, e⟩ hL hf kk
        · refine z_tableIn 512 dL_law_32 (by omega) (by omega) (by omega) rfl (by decide) ?_
          exact lc_soon hI ⟨hi, e⟩ hL hf kk
        · refine z_tableIn 545 dL_law_32 (by omega) (by omega) (by omega) rfl (by decide) ?_
          exact lc_knowers hI ⟨hi, e⟩ hL hf kk
        · refine z_tableIn 578 dL_law_32 (by omega) (by omega) (by omega) rfl (by decide) ?_
          exact lc_judge hI ⟨hi, e⟩ hL hf kk
        · refine z_tableIn 641 dL_law_32 (by omega) (by omega) (by omega) rfl (by decide) ?_
          exact lc_see hI ⟨hi, e⟩ hL hf kk
        · refine z_tableIn 674 dL_law_32 (by omega) (by omega) (by omega) rfl (by decide) ?_
          exact lc_unsee hI ⟨hi, e⟩ hL hf kk
        · refine z_tableIn 687 dL_law_32 (by omega) (by omega) (by omega) rfl (by decide) ?_
          exact lc_which hI ⟨hi, e⟩ hL hf kk
        · refine z_tableIn 710 dL_law_32 (by omega) (by omega) (by omega) rfl (by decide) ?_
          exact lc_share hI ⟨hi, e⟩ hL hf kk
        · refine z_tableIn 759 dL_law_32 (by omega) (by omega) (by omega) rfl (by decide) ?_
          exact lc_chance hI ⟨hi, e⟩ hL hf kk
        · refine z_tableIn 818 dL_law_32 (by omega) (by omega) (by omega) rfl (by decide) ?_
          exact lc_seed hI ⟨hi, e⟩ hL hf kk
        · refine z_tableIn 872 dL_law_32 (by omega) (by omega) (by omega) rfl (by decide) ?_
          exact lc_drawn hI ⟨hi, e⟩ hL hf kk
        · refine z_tableIn 895 dL_law_32 (by omega) (by omega) (by omega) rfl (by decide) ?_
          exact lc_keep hI ⟨hi, e⟩ hL hf kk
        · refine z_tableIn 918 dL_law_32 (by omega) (by omega) (by omega) rfl (by decide) ?_
          exact lc_again hI ⟨hi, e⟩ hL hf kk
        · refine z_tableOut 941 dL_law_32 (by omega) hx2 (by decide) ?_
          exact kk h hI
    · refine z_iload_n 19 dL_law_18 rfl rfl ?_
      refine z_aload_n 20 dL_law_19 rfl rfl ?_
      refine z_alen 21 dL_law_20 rfl (by first | with_reducible assumption | with_reducible exact zup_same _ _ _) ?_
      refine z_iconst 22 dL_law_21 rfl ?_
      refine z_isub 23 dL_law_22 rfl ?_
      refine z_icmp_gt 947 26 dL_law_23 (by decide) rfl (by first | omega | exact zr_b _ | exact zr_and _ _ | exact zr_or _ _ | exact zr_shl _ _) (by first | omega | exact zr_b _ | exact zr_and _ _ | exact zr_or _ _ | exact zr_shl _ _) (fun c23 => ?_) (fun c23 => ?_)
      · refine z_iconst 948 dL_law_947 rfl ?_
        refine z_ret dL_law_948 (by first | exact True.intro | exact Or.inl rfl | exact Or.inr rfl | exact zb_01 _ | assumption | (show _ ∨ _; omega)) ⟨Nat.le_refl _, Nat.le_refl _⟩ ?_
        exact hQ _
      · exfalso; omega
theorem zTOK_0 : zTOK 0 zTD0 (zst (zst (zst (fun _ => 0) 0 1) 1 1) 9 1) := by
  refine ⟨rfl, ⟨by decide, fun p p0 p1 => ?_, fun p p0 p1 => by omega, fun k hk => absurd hk (by omega)⟩, ⟨by omega, fun p p0 p1 => ?_, fun i hi => absurd hi (by omega), fun i j hi => absurd hi (by omega), fun i hi => absurd hi (by omega)⟩, by decide, by decide⟩
  · obtain rfl : p = 0 := by omega
    decide
  · obtain rfl : p = 0 := by omega
    decide
theorem zINV_0 (hs : h.1 0 = some (zI L f)) (hW : zCW h zTD0 zTD0 (fun _ => 0) 0 0 0 (fun _ => zTD0) 0 (fun _ => zTD0) (fun _ => 0) (fun _ => 0) 0 0 (fun _ => 0)) (hm : zMW h zMS0) : zINV L f h :=
  zINV.mk (N := 0) (l := 0) (c := 0) hs hW hm.mc zTOK_0 ⟨by omega, fun i _ _ => by show (0 : Int) ≤ 0 ∧ (0 : Int) ≤ 255; omega⟩ ⟨by omega, by show (0 : Int) ≤ 0 ∧ (0 : Int) < 14; omega, fun j h1 h2 => by omega⟩ (fun i h1 h2 => Or.inr ⟨zt_0 _, rfl⟩) ⟨by omega, fun i hi => absurd hi (by omega)⟩
/-- the heap at the law's entry -/
def zh0 (L : Nat) (f : Int → Int) : zH := (fun q => if q = 0 then some (zI L f) else if q = 1 then some (zJ 9 zfac) else none, 2)
set_option maxHeartbeats 1000000 in
theorem law_Z (hL : L ≤ 2048) (hf : ∀ j : Int, 0 ≤ j → j < L → -2147483648 ≤ f j ∧ f j ≤ 2147483647) (hQ : ∀ h' : zH, Q (some (vI 1)) h') : Z (d + 15) (mL nm) (126, 2014, 0, 0) 0 [some (vR 0), none, none, none] [] (zh0 L f) Q := by
  have a0 : (znew (zh0 L f) (zO 9 [vN, vN, vN, vN, vN, vN, vN, vN, vN, vN, vJ 0])).1 2 = some (zO 9 [vN, vN, vN, vN, vN, vN, vN, vN, vN, vN, vJ 0]) := rfl
  have a1 : (znew (zh0 L f) (zO 9 [vN, vN, vN, vN, vN, vN, vN, vN, vN, vN, vJ 0])).1 1 = some (zJ 9 zfac) := rfl
  have a2 : (znew (zh0 L f) (zO 9 [vN, vN, vN, vN, vN, vN, vN, vN, vN, vN, vJ 0])).1 0 = some (zI L f) := rfl
  have a3 : (znew (zh0 L f) (zO 9 [vN, vN, vN, vN, vN, vN, vN, vN, vN, vN, vJ 0])).2 = 3 := rfl
  refine z_new (ci := 9) 3 [vN, vN, vN, vN, vN, vN, vN, vN, vN, vN, vJ 0] dL_law_0 rfl rfl zin_9 tyX9_ok zw_74 zw_75 zw_60 (fun r j hj => zdef_9 r j hj) ⟨by decide, by decide⟩ ?_
  change Z _ _ _ _ _ [vR 2] (znew (zh0 L f) (zO 9 [vN, vN, vN, vN, vN, vN, vN, vN, vN, vN, vJ 0])) _
  generalize znew (zh0 L f) (zO 9 [vN, vN, vN, vN, vN, vN, vN, vN, vN, vN, vJ 0]) = g at a0 a1 a2 a3 ⊢
  refine z_dup_a 4 dL_law_3 rfl ?_
  refine z_callI0 (mc := 109) (ms := 912) 7 dL_law_4 rfl kX9_init zw_76 (Nat.le_of_ble_eq_true rfl) ⟨by decide, by decide⟩ ?_
  refine c_X9_init a3 a0 a1 (fun h1 hW1 z1 k1 => ?_)
  refine z_astore_n 8 dL_law_7 rfl (Nat.le_of_ble_eq_true rfl) ?_
  refine z_new (ci := 10) 11 [vN, vI 0, vI 0, vN, vN, vN, vI 0, vI 0, vN, vN, vN, vN, vI 0, vJ 0, vN, vN, vN, vN, vN, vN, vI 0, vN, vI 0, vI 0, vI 0] dL_law_8 rfl rfl zin_10 tyX10_ok zw_758 zw_759 zw_71 (fun r j hj => zdef_10 r j hj) ⟨by decide, by decide⟩ ?_
  rw [z1]
  have b0 : (znew h1 (zO 10 [vN, vI 0, vI 0, vN, vN, vN, vI 0, vI 0, vN, vN, vN, vN, vI 0, vJ 0, vN, vN, vN, vN, vN, vN, vI 0, vN, vI 0, vI 0, vI 0])).1 112 = some (zO 10 [vN, vI 0, vI 0, vN, vN, vN, vI 0, vI 0, vN, vN, vN, vN, vI 0, vJ 0, vN, vN, vN, vN, vN, vN, vI 0, vN, vI 0, vI 0, vI 0]) := by rw [← z1]; exact znew_same _ _
  refine z_dup_a 12 dL_law_11 rfl ?_
  refine z_callI0 (mc := 15) (ms := 1066) 15 dL_law_12 rfl kX10_init zw_760 (Nat.le_of_ble_eq_true rfl) ⟨by decide, by decide⟩ ?_
  refine c_X10_init (by show h1.2 + 1 = _; omega) b0 (fun h2 hm2 z2 k2 => ?_)
  refine z_astore_n 16 dL_law_15 rfl (Nat.le_of_ble_eq_true rfl) ?_
  refine z_iconst 17 dL_law_16 rfl ?_
  refine z_istore_n 18 dL_law_17 rfl (Nat.le_of_ble_eq_true rfl) ?_
  have hW2 := hW1.cg (h' := h2) (fun a ha => by rw [k2 a ha]; exact znew_ne _ _ (by omega))
  have hs2 : h2.1 0 = some (zI L f) := by rw [k2 0 (by omega), znew_ne _ _ (by omega), k1 0 (by omega)]; exact a2
  exact law_loop hL hf hQ (L + 1) 0 h2 (by omega) (by omega) (by omega) (zINV_0 hs2 hW2 hm2)
end LAWL
