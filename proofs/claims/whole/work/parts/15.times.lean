/-! LateLetters$Times -/
/-- ticks (8 k + person), free from, the greatest tick so far -/
abbrev zS : Type := (Int → Int) × (Int → Int) × Int
def zbeg (E : Int → Int) (k p : Int) (S : zS) : Int := max (S.1 (k * 8 + E p)) (S.2.1 (E p))
def zstep (D G E : Int → Int) (k p : Int) (S : zS) : zS := (zst S.1 (k * 8 + p) (zbeg E k p S + D (E p)), zst S.2.1 (E p) (zbeg E k p S + G (E p)), max S.2.2 (zbeg E k p S + D (E p)))
def zrow (D G E P : Int → Int) (k : Int) (S : zS) : Nat → zS
  | 0 => S
  | i + 1 => zstep D G E k (P i) (zrow D G E P k S i)
def zall (D G E P : Int → Int) (s : Nat) (K : Int → Int) : Nat → zS
  | 0 => (K, fun _ => 0, 0)
  | k + 1 => zrow D G E P k (zall D G E P s K k) s
def zTim (h : zH) (x : Nat) (K F : Int → Int) : Prop := 2 ≤ x ∧ h.1 x = some (zO 8 [vR (x + 1), vR (x + 2)]) ∧ h.1 (x + 1) = some (zI 24 K) ∧ h.1 (x + 2) = some (zI 8 F)
section TIMES
variable {d : Nat} {h : zH} {Q : Option zV → zH → Prop} {t x : Nat} {n m s : Int} {D G E P K F : Int → Int}
theorem zTim.ot (hX : zTim h x K F) {a : Nat} {c : zE} (ha : a < x ∨ x + 2 < a) : zTim (zup h a c) x K F := by
  obtain ⟨h0, h1, h2, h3⟩ := hX
  refine ⟨h0, ?_, ?_, ?_⟩ <;> (rw [zup_ne _ _ (by omega)]; assumption)
theorem zTim.mod {lo hi : Nat} {h' : zH} (hX : zTim h x K F) (hm : zMod lo hi h h') (ha : x + 2 < lo ∨ hi < x) : zTim h' x K F := by
  obtain ⟨h0, h1, h2, h3⟩ := hX
  refine ⟨h0, ?_, ?_, ?_⟩ <;> (rw [hm.1 _ (by omega)]; assumption)
theorem zTim.tk (hX : zTim h x K F) (K' : Int → Int) : zTim (zup h (x + 1) (zI 24 K')) x K' F := by
  obtain ⟨h0, h1, h2, h3⟩ := hX
  refine ⟨h0, ?_, zup_same _ _ _, ?_⟩ <;> (rw [zup_ne _ _ (by omega)]; assumption)
theorem zTim.fr (hX : zTim h x K F) (F' : Int → Int) : zTim (zup h (x + 2) (zI 8 F')) x K F' := by
  obtain ⟨h0, h1, h2, h3⟩ := hX
  refine ⟨h0, ?_, ?_, zup_same _ _ _⟩ <;> (rw [zup_ne _ _ (by omega)]; assumption)
theorem c_X8_tickOf {p k : Int} (hX : zTim h x K F) (hp : 0 ≤ k * 8 + p ∧ k * 8 + p < 24) (hQ : Q (some (vI (K (k * 8 + p)))) h) : zC (d + 1) mX8_tickOf 0 0 [vR x, vI p, vI k] h Q := by
  refine zC.of zpl_X8 (Nat.le_of_ble_eq_true rfl) ?_
  have zh0 := hX.2.1
  refine z_aload_n 1 dX8_tickOf_0 rfl rfl ?_
  refine z_getf (ci := 8) 4 dX8_tickOf_1 rfl rfl zin_8 0 (by decide) zw_117 (by first | with_reducible assumption | with_reducible exact zup_same _ _ _) rfl ?_
  refine z_iload_n 5 dX8_tickOf_4 rfl rfl ?_
  refine z_bipush 7 dX8_tickOf_5 rfl (by decide) ?_
  refine z_imul 8 dX8_tickOf_7 rfl ?_
  refine z_iload_n 9 dX8_tickOf_8 rfl rfl ?_
  refine z_iadd 10 dX8_tickOf_9 rfl ?_
  refine z_cSN2 13 dX8_tickOf_10 rfl kX9_at zn_387 (Nat.le_of_ble_eq_true rfl) ⟨Nat.le_refl _, Nat.le_refl _⟩ ?_
  refine c_X9_at hX.2.2.1 (by decide) (by omega) ?_
  refine z_ret dX8_tickOf_13 (by first | exact True.intro | exact Or.inl rfl | exact Or.inr rfl | exact zb_01 _ | assumption | (show _ ∨ _; omega)) ⟨Nat.le_refl _, Nat.le_refl _⟩ ?_
  exact hQ
/-- the cells of Times, written anew -/
def ztm (h : zH) (x : Nat) (S : zS) : zH := zup (zup h (x + 2) (zI 8 S.2.1)) (x + 1) (zI 24 S.1)
theorem ztm_Tim (hX : zTim h x K F) (S : zS) : zTim (ztm h x S) x S.1 S.2.1 := (hX.fr S.2.1).tk S.1
theorem ztm_Tel (hT : zTel h t n m s D G E P) (hx : x + 2 < t ∨ t + 4 < x) (S : zS) : zTel (ztm h x S) t n m s D G E P := (hT.ot (by omega)).ot (by omega)
theorem ztm_up (h : zH) (x : Nat) (S : zS) (K F : Int → Int) : zup (zup (ztm h x S) (x + 2) (zI 8 F)) (x + 1) (zI 24 K) = ztm h x (K, F, S.2.2) := by
  unfold ztm
  rw [zup_comm _ _ _ (show x + 1 ≠ x + 2 by omega), zup_zup, zup_zup]
theorem ztm_Mod (h : zH) (x : Nat) (S : zS) : zMod (x + 1) (x + 2) h (ztm h x S) := ((zMod.rf _ _ h).up _ (by omega)).up _ (by omega)
theorem c_X8_send {p k : Int} {S : zS} (hX : zTim h x S.1 S.2.1) (hT : zTel h t n m s D G E P) (hx : x + 2 < t ∨ t + 4 < x) (hk : 0 ≤ k ∧ k < 3) (hp : 0 ≤ p ∧ p < 8) (he : 0 ≤ E p ∧ E p < 8) (h1 : 0 ≤ S.1 (k * 8 + E p) ∧ S.1 (k * 8 + E p) ≤ 100000) (h2 : 0 ≤ S.2.1 (E p) ∧ S.2.1 (E p) ≤ 100000)
    (hQ : Q (some (vI (zbeg E k p S + D (E p)))) (ztm h x (zstep D G E k p S))) : zC (d + 2) mX8_send 0 0 [vR x, vR t, vI p, vI k] h Q := by
  have hx2 := hX.1
  have ht2 := hT.1
  refine zC.of zpl_X8 (Nat.le_of_ble_eq_true rfl) ?_
  have zh0 := hT.2.1
  have zh1 := hX.2.1
  refine z_aload_n 1 dX8_send_0 rfl rfl ?_
  refine z_iload_n 2 dX8_send_1 rfl rfl ?_
  refine z_cV1 5 dX8_send_2 rfl kX6_tellerOf zw_379 (Nat.le_of_ble_eq_true rfl) ⟨Nat.le_refl _, Nat.le_refl _⟩ (by first | with_reducible assumption | with_reducible exact zup_same _ _ _) ?_
  refine c_X6_tellerOf hT hp ?_
  refine z_istore 7 dX8_send_5 rfl (by decide) ?_
  refine z_aload_n 8 dX8_send_7 rfl rfl ?_
  refine z_iload 10 dX8_send_8 rfl rfl ?_
  refine z_iload_n 11 dX8_send_10 rfl rfl ?_
  refine z_cV2 14 dX8_send_11 rfl kX8_tickOf zw_383 (Nat.le_of_ble_eq_true rfl) ⟨Nat.le_refl _, Nat.le_refl _⟩ (by first | with_reducible assumption | with_reducible exact zup_same _ _ _) ?_
  refine c_X8_tickOf hX (by omega) ?_
  refine z_aload_n 15 dX8_send_14 rfl rfl ?_
  refine z_getf (ci := 8) 18 dX8_send_15 rfl rfl zin_8 1 (by decide) zw_118 (by first | with_reducible assumption | with_reducible exact zup_same _ _ _) rfl ?_
  refine z_iload 20 dX8_send_18 rfl rfl ?_
  refine z_cSN2 23 dX8_send_20 rfl kX9_at zn_387 (Nat.le_of_ble_eq_true rfl) ⟨Nat.le_refl _, Nat.le_refl _⟩ ?_
  refine c_X9_at hX.2.2.2 (by decide) (by omega) ?_
  refine z_max 26 dX8_send_23 rfl zw_388 zw_174 zw_68 zw_175 (Nat.le_of_ble_eq_true rfl) ⟨Nat.le_refl _, Nat.le_refl _⟩ (by first | omega | exact zr_b _ | exact zr_and _ _ | exact zr_or _ _ | exact zr_shl _ _) (by first | omega | exact zr_b _ | exact zr_and _ _ | exact zr_or _ _ | exact zr_shl _ _) ?_
  refine z_istore 28 dX8_send_26 rfl (by decide) ?_
  refine z_iload 30 dX8_send_28 rfl rfl ?_
  refine z_aload_n 31 dX8_send_30 rfl rfl ?_
  refine z_iload 33 dX8_send_31 rfl rfl ?_
  refine z_cV1 36 dX8_send_33 rfl kX6_delayOf zw_389 (Nat.le_of_ble_eq_true rfl) ⟨Nat.le_refl _, Nat.le_refl _⟩ (by first | with_reducible assumption | with_reducible exact zup_same _ _ _) ?_
  refine c_X6_delayOf hT he ?_
  refine z_iadd 37 dX8_send_36 rfl ?_
  refine z_istore 39 dX8_send_37 rfl (by decide) ?_
  refine z_aload_n 40 dX8_send_39 rfl rfl ?_
  refine z_getf (ci := 8) 43 dX8_send_40 rfl rfl zin_8 1 (by decide) zw_118 (by first | with_reducible assumption | with_reducible exact zup_same _ _ _) rfl ?_
  refine z_iload 45 dX8_send_43 rfl rfl ?_
  refine z_iload 47 dX8_send_45 rfl rfl ?_
  refine z_aload_n 48 dX8_send_47 rfl rfl ?_
  refine z_iload 50 dX8_send_48 rfl rfl ?_
  refine z_cV1 53 dX8_send_50 rfl kX6_gapOf zw_393 (Nat.le_of_ble_eq_true rfl) ⟨Nat.le_refl _, Nat.le_refl _⟩ (by first | with_reducible assumption | with_reducible exact zup_same _ _ _) ?_
  refine c_X6_gapOf hT he ?_
  refine z_iadd 54 dX8_send_53 rfl ?_
  refine z_cSN3 57 dX8_send_54 rfl kX9_put zn_361 (Nat.le_of_ble_eq_true rfl) ⟨Nat.le_refl _, Nat.le_refl _⟩ ?_
  refine c_X9_put hX.2.2.2 (by decide) (by omega) (by omega) ?_
  have hX := hX.fr (zst S.2.1 (E p) (max (S.1 (k * 8 + E p)) (S.2.1 (E p)) + G (E p)))
  have zh1 := hX.2.1
  refine z_aload_n 58 dX8_send_57 rfl rfl ?_
  refine z_getf (ci := 8) 61 dX8_send_58 rfl rfl zin_8 0 (by decide) zw_117 (by first | with_reducible assumption | with_reducible exact zup_same _ _ _) rfl ?_
  refine z_iload_n 62 dX8_send_61 rfl rfl ?_
  refine z_bipush 64 dX8_send_62 rfl (by decide) ?_
  refine z_imul 65 dX8_send_64 rfl ?_
  refine z_iload_n 66 dX8_send_65 rfl rfl ?_
  refine z_iadd 67 dX8_send_66 rfl ?_
  refine z_iload 69 dX8_send_67 rfl rfl ?_
  refine z_cSN3 72 dX8_send_69 rfl kX9_put zn_361 (Nat.le_of_ble_eq_true rfl) ⟨Nat.le_refl _, Nat.le_refl _⟩ ?_
  refine c_X9_put hX.2.2.1 (by decide) (by omega) (by omega) ?_
  refine z_iload 74 dX8_send_72 rfl rfl ?_
  refine z_ret dX8_send_74 (by first | exact True.intro | exact Or.inl rfl | exact Or.inr rfl | exact zb_01 _ | assumption | (show _ ∨ _; omega)) ⟨Nat.le_refl _, Nat.le_refl _⟩ ?_
  exact hQ
set_option maxHeartbeats 1000000 in
theorem c_X8_follow {M N : Nat} (hX : zTim h x K F) (hT : zTel h t n M N D G E P) (hx : x + 2 < t ∨ t + 4 < x) (hM : M ≤ 3) (hN : N ≤ 7) (hv : ∀ i : Nat, i < N → 0 ≤ P i ∧ P i < 8 ∧ 0 ≤ E (P i) ∧ E (P i) < 8)
    (hB : ∀ k i : Nat, k < M → i < N → 0 ≤ (zrow D G E P k (zall D G E P N K k) i).1 (k * 8 + E (P i)) ∧ (zrow D G E P k (zall D G E P N K k) i).1 (k * 8 + E (P i)) ≤ 100000 ∧ 0 ≤ (zrow D G E P k (zall D G E P N K k) i).2.1 (E (P i)) ∧ (zrow D G E P k (zall D G E P N K k) i).2.1 (E (P i)) ≤ 100000 ∧ 0 ≤ (zrow D G E P k (zall D G E P N K k) i).2.2 ∧ (zrow D G E P k (zall D G E P N K k) i).2.2 ≤ 200000 ∧ 0 ≤ D (E (P i)) ∧ D (E (P i)) ≤ 1000)
    (hQ : Q (some (vI (zall D G E P N K M).2.2)) (ztm h x (zall D G E P N K M))) : zC (d + 3) mX8_follow 0 0 [vR x, vR t] h Q := by
  have hx2 := hX.1
  have ht2 := hT.1
  have zt := hT.2.1
  have key : ∀ k : Nat, k ≤ M → ∀ w : Option zV, Z (d + 3) mX8_follow zo 27 [some (vR x), some (vR t), some (vI (zall D G E P N K k).2.2), some (vI k), w] [] (ztm h x (zall D G E P N K k)) Q := by
    refine z_loop M ?_ ?_
    · intro w
      have hT := ztm_Tel hT hx (zall D G E P N K M)
      have zh0 := hT.2.1
      refine z_iload_n 28 dX8_follow_27 rfl rfl ?_
      refine z_aload_n 29 dX8_follow_28 rfl rfl ?_
      refine z_cV0 32 dX8_follow_29 rfl kX6_news zw_362 (Nat.le_of_ble_eq_true rfl) ⟨Nat.le_refl _, Nat.le_refl _⟩ (by first | with_reducible assumption | with_reducible exact zup_same _ _ _) ?_
      refine c_X6_news hT ?_
      refine z_icmp_ge 76 35 dX8_follow_32 (by decide) rfl (by first | omega | exact zr_b _ | exact zr_and _ _ | exact zr_or _ _ | exact zr_shl _ _) (by first | omega | exact zr_b _ | exact zr_and _ _ | exact zr_or _ _ | exact zr_shl _ _) (fun c32 => ?_) (fun c32 => ?_)
      · refine z_iload_n 77 dX8_follow_76 rfl rfl ?_
        refine z_ret dX8_follow_77 (by first | exact True.intro | exact Or.inl rfl | exact Or.inr rfl | exact zb_01 _ | assumption | (show _ ∨ _; omega)) ⟨Nat.le_refl _, Nat.le_refl _⟩ ?_
        exact hQ
      · exfalso; omega
    · intro k hk ih w
      have inner : ∀ i : Nat, i ≤ N → Z (d + 3) mX8_follow zo 38 [some (vR x), some (vR t), some (vI (zrow D G E P k (zall D G E P N K k) i).2.2), some (vI k), some (vI i)] [] (ztm h x (zrow D G E P k (zall D G E P N K k) i)) Q := by
        refine z_loop N ?_ ?_
        · have hT := ztm_Tel hT hx (zrow D G E P k (zall D G E P N K k) N)
          have zh0 := hT.2.1
          refine z_iload 40 dX8_follow_38 rfl rfl ?_
          refine z_aload_n 41 dX8_follow_40 rfl rfl ?_
          refine z_cV0 44 dX8_follow_41 rfl kX6_standing zw_366 (Nat.le_of_ble_eq_true rfl) ⟨Nat.le_refl _, Nat.le_refl _⟩ (by first | with_reducible assumption | with_reducible exact zup_same _ _ _) ?_
          refine c_X6_standing hT ?_
          refine z_icmp_ge 70 47 dX8_follow_44 (by decide) rfl (by first | omega | exact zr_b _ | exact zr_and _ _ | exact zr_or _ _ | exact zr_shl _ _) (by first | omega | exact zr_b _ | exact zr_and _ _ | exact zr_or _ _ | exact zr_shl _ _) (fun c44 => ?_) (fun c44 => ?_)
          · refine z_iinc 73 dX8_follow_70 rfl (by decide) rfl ?_
            refine z_goto 27 dX8_follow_73 (by decide) ?_
            exact ih _
          · exfalso; omega
        · intro i hi ih2
          have hvi := hv i hi
          obtain ⟨b1, b2, b3, b4, b5, b6, b7, b8⟩ := hB k i hk hi
          change Z (d + 3) mX8_follow zo 38 [some (vR x), some (vR t), some (vI (zstep D G E k (P i) (zrow D G E P k (zall D G E P N K k) i)).2.2), some (vI k), some (vI ((i + 1 : Nat) : Int))] [] (ztm h x (zstep D G E k (P i) (zrow D G E P k (zall D G E P N K k) i))) Q at ih2
          generalize zrow D G E P k (zall D G E P N K k) i = S at b1 b2 b3 b4 b5 b6 ih2 ⊢
          have hT := ztm_Tel hT hx S
          have hX := ztm_Tim hX S
          have zh0 := hT.2.1
          have zh1 := hX.2.1
          refine z_iload 40 dX8_follow_38 rfl rfl ?_
          refine z_aload_n 41 dX8_follow_40 rfl rfl ?_
          refine z_cV0 44 dX8_follow_41 rfl kX6_standing zw_366 (Nat.le_of_ble_eq_true rfl) ⟨Nat.le_refl _, Nat.le_refl _⟩ (by first | with_reducible assumption | with_reducible exact zup_same _ _ _) ?_
          refine c_X6_standing hT ?_
          refine z_icmp_ge 70 47 dX8_follow_44 (by decide) rfl (by first | omega | exact zr_b _ | exact zr_and _ _ | exact zr_or _ _ | exact zr_shl _ _) (by first | omega | exact zr_b _ | exact zr_and _ _ | exact zr_or _ _ | exact zr_shl _ _) (fun c44 => ?_) (fun c44 => ?_)
          · exfalso; omega
          · refine z_iload_n 48 dX8_follow_47 rfl rfl ?_
            refine z_aload_n 49 dX8_follow_48 rfl rfl ?_
            refine z_aload_n 50 dX8_follow_49 rfl rfl ?_
            refine z_aload_n 51 dX8_follow_50 rfl rfl ?_
            refine z_iload 53 dX8_follow_51 rfl rfl ?_
            refine z_cV1 56 dX8_follow_53 rfl kX6_personAt zw_370 (Nat.le_of_ble_eq_true rfl) ⟨Nat.le_refl _, Nat.le_refl _⟩ (by first | with_reducible assumption | with_reducible exact zup_same _ _ _) ?_
            refine c_X6_personAt hT (by omega) ?_
            refine z_iload_n 57 dX8_follow_56 rfl rfl ?_
            refine z_cV3 60 dX8_follow_57 rfl kX8_send zw_375 (Nat.le_of_ble_eq_true rfl) ⟨Nat.le_refl _, Nat.le_refl _⟩ (by first | with_reducible assumption | with_reducible exact zup_same _ _ _) ?_
            refine c_X8_send hX hT hx (by omega) (by omega) (by omega) (by omega) (by omega) ?_
            unfold zstep
            rw [show ztm (ztm h x S) x (zst S.1 (k * 8 + P i) (zbeg E k (P i) S + D (E (P i))), zst S.2.1 (E (P i)) (zbeg E k (P i) S + G (E (P i))), max S.2.2 (zbeg E k (P i) S + D (E (P i)))) = ztm h x (zstep D G E k (P i) S) from ztm_up h x S _ _]
            refine z_max 63 dX8_follow_60 rfl zw_388 zw_174 zw_68 zw_175 (Nat.le_of_ble_eq_true rfl) ⟨Nat.le_refl _, Nat.le_refl _⟩ (by first | omega | (unfold zbeg; omega)) (by first | omega | (unfold zbeg; omega)) ?_
            refine z_istore_n 64 dX8_follow_63 rfl (by decide) ?_
            refine z_iinc 67 dX8_follow_64 rfl (by decide) rfl ?_
            refine z_goto 38 dX8_follow_67 (by decide) ?_
            exact ih2
      have hT := ztm_Tel hT hx (zall D G E P N K k)
      have zh0 := hT.2.1
      refine z_iload_n 28 dX8_follow_27 rfl rfl ?_
      refine z_aload_n 29 dX8_follow_28 rfl rfl ?_
      refine z_cV0 32 dX8_follow_29 rfl kX6_news zw_362 (Nat.le_of_ble_eq_true rfl) ⟨Nat.le_refl _, Nat.le_refl _⟩ (by first | with_reducible assumption | with_reducible exact zup_same _ _ _) ?_
      refine c_X6_news hT ?_
      refine z_icmp_ge 76 35 dX8_follow_32 (by decide) rfl (by first | omega | exact zr_b _ | exact zr_and _ _ | exact zr_or _ _ | exact zr_shl _ _) (by first | omega | exact zr_b _ | exact zr_and _ _ | exact zr_or _ _ | exact zr_shl _ _) (fun c32 => ?_) (fun c32 => ?_)
      · exfalso; omega
      · refine z_iconst 36 dX8_follow_35 rfl ?_
        refine z_istore 38 dX8_follow_36 rfl (by decide) ?_
        exact inner 0 (Nat.zero_le _)
  have zero : ∀ i : Nat, i ≤ 8 → ∀ w v : Option zV, Z (d + 3) mX8_follow zo 2 [some (vR x), some (vR t), some (vI i), w, v] [] (zup h (x + 2) (zI 8 (fun j => if 0 ≤ j ∧ j < i then 0 else F j))) Q := by
    refine z_loop 8 ?_ ?_
    · intro w v
      have hX := hX.fr (fun j => if 0 ≤ j ∧ j < ((8 : Nat) : Int) then 0 else F j)
      refine z_ext (by have := hX.1; omega) hX.2.2.2 (g := fun _ => 0) (fun i h1 h2 => if_pos ⟨h1, h2⟩) ?_
      rw [zup_zup]
      have e0 : ztm h x (zall D G E P N K 0) = zup h (x + 2) (zI 8 (fun _ => 0)) := by
        have hz := (hX.fr (fun _ => 0)).2.2.1
        rw [zup_zup] at hz
        show zup (zup h (x + 2) (zI 8 (fun _ => 0))) (x + 1) (zI 24 K) = _
        exact zup_self _ hz
      rw [← e0]
      refine z_iload_n 3 dX8_follow_2 rfl rfl ?_
      refine z_bipush 5 dX8_follow_3 rfl (by decide) ?_
      refine z_icmp_ge 23 8 dX8_follow_5 (by decide) rfl (by first | omega | exact zr_b _ | exact zr_and _ _ | exact zr_or _ _ | exact zr_shl _ _) (by first | omega | exact zr_b _ | exact zr_and _ _ | exact zr_or _ _ | exact zr_shl _ _) (fun c5 => ?_) (fun c5 => ?_)
      · refine z_iconst 24 dX8_follow_23 rfl ?_
        refine z_istore_n 25 dX8_follow_24 rfl (by decide) ?_
        refine z_iconst 26 dX8_follow_25 rfl ?_
        refine z_istore_n 27 dX8_follow_26 rfl (by decide) ?_
        exact key 0 (Nat.zero_le _) _
      · exfalso; omega
    · intro i hi ih w v
      have hX := hX.fr (fun j => if 0 ≤ j ∧ j < (i : Int) then 0 else F j)
      have zh0 := hX.2.1
      refine z_iload_n 3 dX8_follow_2 rfl rfl ?_
      refine z_bipush 5 dX8_follow_3 rfl (by decide) ?_
      refine z_icmp_ge 23 8 dX8_follow_5 (by decide) rfl (by first | omega | exact zr_b _ | exact zr_and _ _ | exact zr_or _ _ | exact zr_shl _ _) (by first | omega | exact zr_b _ | exact zr_and _ _ | exact zr_or _ _ | exact zr_shl _ _) (fun c5 => ?_) (fun c5 => ?_)
      · exfalso; omega
      · refine z_aload_n 9 dX8_follow_8 rfl rfl ?_
        refine z_getf (ci := 8) 12 dX8_follow_9 rfl rfl zin_8 1 (by decide) zw_118 (by first | with_reducible assumption | with_reducible exact zup_same _ _ _) rfl ?_
        refine z_iload_n 13 dX8_follow_12 rfl rfl ?_
        refine z_iconst 14 dX8_follow_13 rfl ?_
        refine z_cSN3 17 dX8_follow_14 rfl kX9_put zn_361 (Nat.le_of_ble_eq_true rfl) ⟨Nat.le_refl _, Nat.le_refl _⟩ ?_
        refine c_X9_put hX.2.2.2 (by decide) (by omega) (by omega) ?_
        rw [zup_zup, show zst (fun j => if 0 ≤ j ∧ j < (i : Int) then 0 else F j) i 0 = (fun j => if 0 ≤ j ∧ j < ((i + 1 : Nat) : Int) then 0 else F j) from by funext j; unfold zst; by_cases e : j = i <;> simp [e] <;> (try omega) <;> (by_cases e2 : 0 ≤ j ∧ j < (i : Int) <;> simp [e2] <;> omega)]
        refine z_iinc 20 dX8_follow_17 rfl (by decide) rfl ?_
        refine z_goto 2 dX8_follow_20 (by decide) ?_
        exact ih _ _
  refine zC.of zpl_X8 (Nat.le_of_ble_eq_true rfl) ?_
  refine z_iconst 1 dX8_follow_0 rfl ?_
  refine z_istore_n 2 dX8_follow_1 rfl (by decide) ?_
  have k := zero 0 (by omega) none none
  rw [show (fun j => if 0 ≤ j ∧ j < ((0 : Nat) : Int) then 0 else F j) = F from by funext j; rw [if_neg (by omega)], zup_self h hX.2.2.2] at k
  exact k
end TIMES
