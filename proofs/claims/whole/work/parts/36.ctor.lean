/-! CONSTRUCTORS of the class -/
section ZFLD
variable {d : Nat} {M : zM} {A B x y : Nat} {pc : Nat} {L : List (Option zV)} {st : List zV} {h : zH} {Q : Option zV → zH → Prop}
theorem znew_same (h : zH) (c : zE) : (znew h c).1 h.2 = some c := by simp [znew]
theorem znew_ne (h : zH) {a : Nat} (c : zE) (ha : a ≠ h.2) : (znew h c).1 a = h.1 a := by simp [znew, ha]
theorem z_fld_int {ci idx N t : Nat} {fs : List zV} {v : Int} {C : String} {T : u_T} {ty : Nat → FieldType} (n NN : Nat) (dd : decode M.2.1 pc = .ok (.newarray .int, 2)) (dd2 : decode M.2.1 (pc + 2) = .ok (.putfield idx, 3)) (hn : pc + 2 + 3 = n) (hN : v = (NN : Int)) (hM : NN ≤ 100000) (hw : Cond.arrayClass (newarray.typeOf .int) ∈ zW) (hr : x + 1 ≤ A ∧ y + NN ≤ B) (hc : vwCl[ci]? = some (C, T, N)) (hi : ∀ w ∈ u_ws C T N, w ∈ zW) (hty : ∀ k, k < N → parseFieldDescriptor (T k).2.2.1 = some (ty k)) (hnm : ∀ a, a < N → ∀ b, b < N → a ≠ b → (T a).2.1 ≠ (T b).2.1) (k : Nat) (hk : k < N) (hwl : Cond.fieldLink M.1.cls idx (T k).1 (T k).2.1 (T k).2.2.1 ∈ zW) (hfin : (T k).2.2.2 = true) (hini : M.1.name = "<init>") (hdecl : (T k).1 = M.1.cls) (hft : ∀ r : Nat → Nat, narrow (ty k) (zv r (vR h.2)) = zv r (vR h.2) ∧ fits (ty k) (zv r (vR h.2)) = true) (h2 : 2 ≤ t) (ht : t < h.2) (ha : h.1 t = some (zO ci fs)) (hl : k < fs.length)
    (kk : ∀ h' : zH, h'.2 = h.2 + 1 → h'.1 t = some (zO ci (fs.set k (vR h.2))) → h'.1 h.2 = some (zI NN (fun _ => 0)) → (∀ a, a ≠ t → a ≠ h.2 → h'.1 a = h.1 a) → Z d M (A, B, x + 1, y + NN) n L st h' Q) : Z d M (A, B, x, y) pc L (vI v :: vR t :: st) h Q := by
  refine z_newa_int (pc + 2) NN dd rfl hN hM hw hr ?_
  have ha1 : (znew h (zI NN (fun _ => 0))).1 t = some (zO ci fs) := by rw [znew_ne _ _ (by omega)]; exact ha
  refine z_putF n dd2 hn hc hi hty hnm k hk hwl hfin hini hdecl hft h2 ha1 hl ?_
  refine kk _ rfl (zup_same _ _ _) ?_ (fun a h1 h3 => ?_)
  · rw [zup_ne _ _ (by omega)]; exact znew_same _ _
  · rw [zup_ne _ _ h1, znew_ne _ _ h3]
theorem z_fld_long {ci idx N t : Nat} {fs : List zV} {v : Int} {C : String} {T : u_T} {ty : Nat → FieldType} (n NN : Nat) (dd : decode M.2.1 pc = .ok (.newarray .long, 2)) (dd2 : decode M.2.1 (pc + 2) = .ok (.putfield idx, 3)) (hn : pc + 2 + 3 = n) (hN : v = (NN : Int)) (hM : NN ≤ 100000) (hw : Cond.arrayClass (newarray.typeOf .long) ∈ zW) (hr : x + 1 ≤ A ∧ y + NN ≤ B) (hc : vwCl[ci]? = some (C, T, N)) (hi : ∀ w ∈ u_ws C T N, w ∈ zW) (hty : ∀ k, k < N → parseFieldDescriptor (T k).2.2.1 = some (ty k)) (hnm : ∀ a, a < N → ∀ b, b < N → a ≠ b → (T a).2.1 ≠ (T b).2.1) (k : Nat) (hk : k < N) (hwl : Cond.fieldLink M.1.cls idx (T k).1 (T k).2.1 (T k).2.2.1 ∈ zW) (hfin : (T k).2.2.2 = true) (hini : M.1.name = "<init>") (hdecl : (T k).1 = M.1.cls) (hft : ∀ r : Nat → Nat, narrow (ty k) (zv r (vR h.2)) = zv r (vR h.2) ∧ fits (ty k) (zv r (vR h.2)) = true) (h2 : 2 ≤ t) (ht : t < h.2) (ha : h.1 t = some (zO ci fs)) (hl : k < fs.length)
    (kk : ∀ h' : zH, h'.2 = h.2 + 1 → h'.1 t = some (zO ci (fs.set k (vR h.2))) → h'.1 h.2 = some (zJ NN (fun _ => 0)) → (∀ a, a ≠ t → a ≠ h.2 → h'.1 a = h.1 a) → Z d M (A, B, x + 1, y + NN) n L st h' Q) : Z d M (A, B, x, y) pc L (vI v :: vR t :: st) h Q := by
  refine z_newa_long (pc + 2) NN dd rfl hN hM hw hr ?_
  have ha1 : (znew h (zJ NN (fun _ => 0))).1 t = some (zO ci fs) := by rw [znew_ne _ _ (by omega)]; exact ha
  refine z_putF n dd2 hn hc hi hty hnm k hk hwl hfin hini hdecl hft h2 ha1 hl ?_
  refine kk _ rfl (zup_same _ _ _) ?_ (fun a h1 h3 => ?_)
  · rw [zup_ne _ _ (by omega)]; exact znew_same _ _
  · rw [zup_ne _ _ h1, znew_ne _ _ h3]
theorem z_fld_boolean {ci idx N t : Nat} {fs : List zV} {v : Int} {C : String} {T : u_T} {ty : Nat → FieldType} (n NN : Nat) (dd : decode M.2.1 pc = .ok (.newarray .boolean, 2)) (dd2 : decode M.2.1 (pc + 2) = .ok (.putfield idx, 3)) (hn : pc + 2 + 3 = n) (hN : v = (NN : Int)) (hM : NN ≤ 100000) (hw : Cond.arrayClass (newarray.typeOf .boolean) ∈ zW) (hr : x + 1 ≤ A ∧ y + NN ≤ B) (hc : vwCl[ci]? = some (C, T, N)) (hi : ∀ w ∈ u_ws C T N, w ∈ zW) (hty : ∀ k, k < N → parseFieldDescriptor (T k).2.2.1 = some (ty k)) (hnm : ∀ a, a < N → ∀ b, b < N → a ≠ b → (T a).2.1 ≠ (T b).2.1) (k : Nat) (hk : k < N) (hwl : Cond.fieldLink M.1.cls idx (T k).1 (T k).2.1 (T k).2.2.1 ∈ zW) (hfin : (T k).2.2.2 = true) (hini : M.1.name = "<init>") (hdecl : (T k).1 = M.1.cls) (hft : ∀ r : Nat → Nat, narrow (ty k) (zv r (vR h.2)) = zv r (vR h.2) ∧ fits (ty k) (zv r (vR h.2)) = true) (h2 : 2 ≤ t) (ht : t < h.2) (ha : h.1 t = some (zO ci fs)) (hl : k < fs.length)
    (kk : ∀ h' : zH, h'.2 = h.2 + 1 → h'.1 t = some (zO ci (fs.set k (vR h.2))) → h'.1 h.2 = some (zB NN (fun _ => 0)) → (∀ a, a ≠ t → a ≠ h.2 → h'.1 a = h.1 a) → Z d M (A, B, x + 1, y + NN) n L st h' Q) : Z d M (A, B, x, y) pc L (vI v :: vR t :: st) h Q := by
  refine z_newa_boolean (pc + 2) NN dd rfl hN hM hw hr ?_
  have ha1 : (znew h (zB NN (fun _ => 0))).1 t = some (zO ci fs) := by rw [znew_ne _ _ (by omega)]; exact ha
  refine z_putF n dd2 hn hc hi hty hnm k hk hwl hfin hini hdecl hft h2 ha1 hl ?_
  refine kk _ rfl (zup_same _ _ _) ?_ (fun a h1 h3 => ?_)
  · rw [zup_ne _ _ (by omega)]; exact znew_same _ _
  · rw [zup_ne _ _ h1, znew_ne _ _ h3]
end ZFLD
section CTOR
variable {d : Nat} {h : zH} {Q : Option zV → zH → Prop} {t : Nat}
/-- a TELLING as it is made -/
def zTD0 : zTD := (0, 1, zst (fun _ => 0) 0 1, zst (fun _ => 0) 0 1, zst (fun _ => 0) 0 (-9), fun _ => 0)
theorem c_X6_init (ht : h.2 = t + 1) (h2 : 2 ≤ t) (hob : h.1 t = some (zO 6 [vI 0, vI 0, vI 0, vN, vN, vN, vN])) (hQ : ∀ h' : zH, zTelD h' t zTD0 → h'.2 = t + 5 → (∀ a, a < t → h'.1 a = h.1 a) → Q none h') : zC (d + 1) mX6_init 4 32 [vR t] h Q := by
  refine zC.of zpl_X6 (Nat.le_of_ble_eq_true rfl) ?_
  refine z_aload_n 1 dX6_init_0 rfl rfl ?_
  refine z_objInit 4 dX6_init_1 rfl zw_87 zw_80 zw_81 (Nat.le_of_ble_eq_true rfl) ?_
  refine z_aload_n 5 dX6_init_4 rfl rfl ?_
  refine z_bipush 7 dX6_init_5 rfl (by decide) ?_
  refine z_fld_int (ci := 6) 12 8 dX6_init_7 dX6_init_9 rfl rfl (by decide) zw_110 ⟨by decide, by decide⟩ rfl zin_6 tyX6_ok nmX6 3 (by decide) zw_91 rfl rfl rfl (fun _ => ⟨rfl, rfl⟩) (by omega) (by omega) (by first | with_reducible assumption | with_reducible exact zup_same _ _ _) (Nat.le_of_ble_eq_true rfl) (fun hp7 n7 o7 r7 u7 => ?_)
  refine z_aload_n 13 dX6_init_12 rfl rfl ?_
  refine z_bipush 15 dX6_init_13 rfl (by decide) ?_
  refine z_fld_int (ci := 6) 20 8 dX6_init_15 dX6_init_17 rfl rfl (by decide) zw_110 ⟨by decide, by decide⟩ rfl zin_6 tyX6_ok nmX6 4 (by decide) zw_92 rfl rfl rfl (fun _ => ⟨rfl, rfl⟩) (by omega) (by omega) (by first | with_reducible assumption | with_reducible exact zup_same _ _ _) (Nat.le_of_ble_eq_true rfl) (fun hp15 n15 o15 r15 u15 => ?_)
  refine z_aload_n 21 dX6_init_20 rfl rfl ?_
  refine z_bipush 23 dX6_init_21 rfl (by decide) ?_
  refine z_fld_int (ci := 6) 28 8 dX6_init_23 dX6_init_25 rfl rfl (by decide) zw_110 ⟨by decide, by decide⟩ rfl zin_6 tyX6_ok nmX6 5 (by decide) zw_93 rfl rfl rfl (fun _ => ⟨rfl, rfl⟩) (by omega) (by omega) (by first | with_reducible assumption | with_reducible exact zup_same _ _ _) (Nat.le_of_ble_eq_true rfl) (fun hp23 n23 o23 r23 u23 => ?_)
  refine z_aload_n 29 dX6_init_28 rfl rfl ?_
  refine z_bipush 31 dX6_init_29 rfl (by decide) ?_
  refine z_fld_int (ci := 6) 36 8 dX6_init_31 dX6_init_33 rfl rfl (by decide) zw_110 ⟨by decide, by decide⟩ rfl zin_6 tyX6_ok nmX6 6 (by decide) zw_94 rfl rfl rfl (fun _ => ⟨rfl, rfl⟩) (by omega) (by omega) (by first | with_reducible assumption | with_reducible exact zup_same _ _ _) (Nat.le_of_ble_eq_true rfl) (fun hp31 n31 o31 r31 u31 => ?_)
  have hT : zTel hp31 t 0 0 0 (fun _ => 0) (fun _ => 0) (fun _ => 0) (fun _ => 0) := by
    refine ⟨h2, ?_, ?_, ?_, ?_, ?_⟩
    · rw [o31, n23, n15, n7, ht]; rfl
    · rw [u31 _ (by omega) (by omega), u23 _ (by omega) (by omega), u15 _ (by omega) (by omega), ← ht]; exact r7
    · rw [u31 _ (by omega) (by omega), u23 _ (by omega) (by omega), show t + 2 = hp7.2 by omega]; exact r15
    · rw [u31 _ (by omega) (by omega), show t + 3 = hp15.2 by omega]; exact r23
    · rw [show t + 4 = hp23.2 by omega]; exact r31
  have hm : ∀ a, a < t → hp31.1 a = h.1 a := fun a ha => by rw [u31 _ (by omega) (by omega), u23 _ (by omega) (by omega), u15 _ (by omega) (by omega), u7 _ (by omega) (by omega)]
  have hs : hp31.2 = t + 5 := by omega
  clear o31 r31 u31 o23 r23 u23 o15 r15 u15 o7 r7 u7
  have zh0 := hT.2.1
  refine z_aload_n 37 dX6_init_36 rfl rfl ?_
  refine z_iconst 38 dX6_init_37 rfl ?_
  refine z_putf (ci := 6) 41 dX6_init_38 rfl rfl zin_6 tyX6_ok nmX6 0 (by decide) zw_88 rfl (fun _ => ⟨rfl, rfl⟩) (by omega) (by first | with_reducible assumption | with_reducible exact zup_same _ _ _) (Nat.le_of_ble_eq_true rfl) ?_
  change Z _ _ _ _ _ _ (zup hp31 t (zO 6 [vI 1, vI 0, vI 0, vR (t + 1), vR (t + 2), vR (t + 3), vR (t + 4)])) _
  have hT := hT.fd 1 0 0
  have zh0 := hT.2.1
  refine z_aload_n 42 dX6_init_41 rfl rfl ?_
  refine z_iconst 43 dX6_init_42 rfl ?_
  refine z_putf (ci := 6) 46 dX6_init_43 rfl rfl zin_6 tyX6_ok nmX6 1 (by decide) zw_89 rfl (fun _ => ⟨rfl, rfl⟩) (by omega) (by first | with_reducible assumption | with_reducible exact zup_same _ _ _) (Nat.le_of_ble_eq_true rfl) ?_
  rw [zup_zup]
  change Z _ _ _ _ _ _ (zup hp31 t (zO 6 [vI 1, vI 1, vI 0, vR (t + 1), vR (t + 2), vR (t + 3), vR (t + 4)])) _
  have hT := hT.fd 1 1 0
  rw [zup_zup] at hT
  have zh0 := hT.2.1
  have zh1 := hT.2.2.1
  refine z_aload_n 47 dX6_init_46 rfl rfl ?_
  refine z_getf (ci := 6) 50 dX6_init_47 rfl rfl zin_6 3 (by decide) zw_91 (by first | with_reducible assumption | with_reducible exact zup_same _ _ _) rfl ?_
  refine z_iconst 51 dX6_init_50 rfl ?_
  refine z_iconst 52 dX6_init_51 rfl ?_
  refine z_iast 53 dX6_init_52 rfl (by omega) (by first | with_reducible assumption | with_reducible exact zup_same _ _ _) (by omega) (by first | omega | exact zr_b _ | exact zr_and _ _ | exact zr_or _ _ | exact zr_shl _ _) ?_
  have hT := hT.dl (zst (fun _ => 0) 0 1)
  have zh0 := hT.2.1
  have zh1 := hT.2.2.2.1
  refine z_aload_n 54 dX6_init_53 rfl rfl ?_
  refine z_getf (ci := 6) 57 dX6_init_54 rfl rfl zin_6 4 (by decide) zw_92 (by first | with_reducible assumption | with_reducible exact zup_same _ _ _) rfl ?_
  refine z_iconst 58 dX6_init_57 rfl ?_
  refine z_iconst 59 dX6_init_58 rfl ?_
  refine z_iast 60 dX6_init_59 rfl (by omega) (by first | with_reducible assumption | with_reducible exact zup_same _ _ _) (by omega) (by first | omega | exact zr_b _ | exact zr_and _ _ | exact zr_or _ _ | exact zr_shl _ _) ?_
  have hT := hT.gp (zst (fun _ => 0) 0 1)
  have zh0 := hT.2.1
  have zh1 := hT.2.2.2.2.1
  refine z_aload_n 61 dX6_init_60 rfl rfl ?_
  refine z_getf (ci := 6) 64 dX6_init_61 rfl rfl zin_6 5 (by decide) zw_93 (by first | with_reducible assumption | with_reducible exact zup_same _ _ _) rfl ?_
  refine z_iconst 65 dX6_init_64 rfl ?_
  refine z_bipush 67 dX6_init_65 rfl (by decide) ?_
  refine z_iast 68 dX6_init_67 rfl (by omega) (by first | with_reducible assumption | with_reducible exact zup_same _ _ _) (by omega) (by first | omega | exact zr_b _ | exact zr_and _ _ | exact zr_or _ _ | exact zr_shl _ _) ?_
  refine z_vret dX6_init_68 (by first | exact True.intro | exact Or.inl rfl | exact Or.inr rfl | exact zb_01 _ | assumption | (show _ ∨ _; omega)) ⟨by decide, by decide⟩ ?_
  exact hQ _ (hT.tl (zst (fun _ => 0) 0 (-9))) hs (fun a ha => by rw [zup_ne _ _ (by omega), zup_ne _ _ (by omega), zup_ne _ _ (by omega), zup_ne _ _ (by omega)]; exact hm a ha)
theorem c_X8_init (ht : h.2 = t + 1) (h2 : 2 ≤ t) (hob : h.1 t = some (zO 8 [vN, vN])) (hQ : ∀ h' : zH, zTim h' t (fun _ => 0) (fun _ => 0) → h'.2 = t + 3 → (∀ a, a < t → h'.1 a = h.1 a) → Q none h') : zC (d + 1) mX8_init 2 32 [vR t] h Q := by
  refine zC.of zpl_X8 (Nat.le_of_ble_eq_true rfl) ?_
  refine z_aload_n 1 dX8_init_0 rfl rfl ?_
  refine z_objInit 4 dX8_init_1 rfl zw_116 zw_80 zw_81 (Nat.le_of_ble_eq_true rfl) ?_
  refine z_aload_n 5 dX8_init_4 rfl rfl ?_
  refine z_bipush 7 dX8_init_5 rfl (by decide) ?_
  refine z_fld_int (ci := 8) 12 24 dX8_init_7 dX8_init_9 rfl rfl (by decide) zw_110 ⟨by decide, by decide⟩ rfl zin_8 tyX8_ok nmX8 0 (by decide) zw_117 rfl rfl rfl (fun _ => ⟨rfl, rfl⟩) (by omega) (by omega) (by first | with_reducible assumption | with_reducible exact zup_same _ _ _) (Nat.le_of_ble_eq_true rfl) (fun hp7 n7 o7 r7 u7 => ?_)
  refine z_aload_n 13 dX8_init_12 rfl rfl ?_
  refine z_bipush 15 dX8_init_13 rfl (by decide) ?_
  refine z_fld_int (ci := 8) 20 8 dX8_init_15 dX8_init_17 rfl rfl (by decide) zw_110 ⟨by decide, by decide⟩ rfl zin_8 tyX8_ok nmX8 1 (by decide) zw_118 rfl rfl rfl (fun _ => ⟨rfl, rfl⟩) (by omega) (by omega) (by first | with_reducible assumption | with_reducible exact zup_same _ _ _) (Nat.le_of_ble_eq_true rfl) (fun hp15 n15 o15 r15 u15 => ?_)
  refine z_vret dX8_init_20 (by first | exact True.intro | exact Or.inl rfl | exact Or.inr rfl | exact zb_01 _ | assumption | (show _ ∨ _; omega)) ⟨by decide, by decide⟩ ?_
  refine hQ _ ⟨h2, ?_, ?_, ?_⟩ (by omega) (fun a ha => ?_)
  · rw [o15, n7, ht]; rfl
  · rw [u15 _ (by omega) (by omega), ← ht]; exact r7
  · rw [show t + 2 = hp7.2 by omega]; exact r15
  · rw [u15 _ (by omega) (by omega), u7 _ (by omega) (by omega)]
theorem c_X5_init (ht : h.2 = t + 1) (h2 : 2 ≤ t) (hob : h.1 t = some (zO 5 [vN, vI 0])) (hQ : ∀ h' : zH, zTlr h' t (fun _ => 0) 0 → h'.2 = t + 2 → (∀ a, a < t → h'.1 a = h.1 a) → Q none h') : zC (d + 1) mX5_init 1 8 [vR t] h Q := by
  refine zC.of zpl_X5 (Nat.le_of_ble_eq_true rfl) ?_
  refine z_aload_n 1 dX5_init_0 rfl rfl ?_
  refine z_objInit 4 dX5_init_1 rfl zw_129 zw_80 zw_81 (Nat.le_of_ble_eq_true rfl) ?_
  refine z_aload_n 5 dX5_init_4 rfl rfl ?_
  refine z_bipush 7 dX5_init_5 rfl (by decide) ?_
  refine z_fld_int (ci := 5) 12 8 dX5_init_7 dX5_init_9 rfl rfl (by decide) zw_110 ⟨by decide, by decide⟩ rfl zin_5 tyX5_ok nmX5 0 (by decide) zw_130 rfl rfl rfl (fun _ => ⟨rfl, rfl⟩) (by omega) (by omega) (by first | with_reducible assumption | with_reducible exact zup_same _ _ _) (Nat.le_of_ble_eq_true rfl) (fun hp7 n7 o7 r7 u7 => ?_)
  refine z_vret dX5_init_12 (by first | exact True.intro | exact Or.inl rfl | exact Or.inr rfl | exact zb_01 _ | assumption | (show _ ∨ _; omega)) ⟨by decide, by decide⟩ ?_
  refine hQ _ ⟨h2, ?_, ?_⟩ (by omega) (fun a ha => ?_)
  · rw [o7, ht]; rfl
  · rw [← ht]; exact r7
  · rw [u7 _ (by omega) (by omega)]
theorem c_X1_init (ht : h.2 = t + 1) (h2 : 2 ≤ t) (hob : h.1 t = some (zO 1 [vN])) (hQ : ∀ h' : zH, zNum h' t (fun _ => 0) → h'.2 = t + 2 → (∀ a, a < t → h'.1 a = h.1 a) → Q none h') : zC (d + 1) mX1_init 1 61 [vR t] h Q := by
  refine zC.of zpl_X1 (Nat.le_of_ble_eq_true rfl) ?_
  refine z_aload_n 1 dX1_init_0 rfl rfl ?_
  refine z_objInit 4 dX1_init_1 rfl zw_142 zw_80 zw_81 (Nat.le_of_ble_eq_true rfl) ?_
  refine z_aload_n 5 dX1_init_4 rfl rfl ?_
  refine z_bipush 7 dX1_init_5 rfl (by decide) ?_
  refine z_fld_long (ci := 1) 12 61 dX1_init_7 dX1_init_9 rfl rfl (by decide) zw_147 ⟨by decide, by decide⟩ rfl zin_1 tyX1_ok nmX1 0 (by decide) zw_143 rfl rfl rfl (fun _ => ⟨rfl, rfl⟩) (by omega) (by omega) (by first | with_reducible assumption | with_reducible exact zup_same _ _ _) (Nat.le_of_ble_eq_true rfl) (fun hp7 n7 o7 r7 u7 => ?_)
  refine z_vret dX1_init_12 (by first | exact True.intro | exact Or.inl rfl | exact Or.inr rfl | exact zb_01 _ | assumption | (show _ ∨ _; omega)) ⟨by decide, by decide⟩ ?_
  refine hQ _ ⟨h2, ?_, ?_⟩ (by omega) (fun a ha => ?_)
  · rw [o7, ht]; rfl
  · rw [← ht]; exact r7
  · rw [u7 _ (by omega) (by omega)]
theorem c_X7_init (ht : h.2 = t + 1) (h2 : 2 ≤ t) (hob : h.1 t = some (zO 7 [vN, vI 0])) (hQ : ∀ h' : zH, zTxt h' t (fun _ => 0) 0 → h'.2 = t + 2 → (∀ a, a < t → h'.1 a = h.1 a) → Q none h') : zC (d + 1) mX7_init 1 60 [vR t] h Q := by
  refine zC.of zpl_X7 (Nat.le_of_ble_eq_true rfl) ?_
  refine z_aload_n 1 dX7_init_0 rfl rfl ?_
  refine z_objInit 4 dX7_init_1 rfl zw_153 zw_80 zw_81 (Nat.le_of_ble_eq_true rfl) ?_
  refine z_aload_n 5 dX7_init_4 rfl rfl ?_
  refine z_bipush 7 dX7_init_5 rfl (by decide) ?_
  refine z_fld_int (ci := 7) 12 60 dX7_init_7 dX7_init_9 rfl rfl (by decide) zw_110 ⟨by decide, by decide⟩ rfl zin_7 tyX7_ok nmX7 0 (by decide) zw_154 rfl rfl rfl (fun _ => ⟨rfl, rfl⟩) (by omega) (by omega) (by first | with_reducible assumption | with_reducible exact zup_same _ _ _) (Nat.le_of_ble_eq_true rfl) (fun hp7 n7 o7 r7 u7 => ?_)
  refine z_vret dX7_init_12 (by first | exact True.intro | exact Or.inl rfl | exact Or.inr rfl | exact zb_01 _ | assumption | (show _ ∨ _; omega)) ⟨by decide, by decide⟩ ?_
  refine hQ _ ⟨h2, ?_, ?_⟩ (by omega) (fun a ha => ?_)
  · rw [o7, ht]; rfl
  · rw [← ht]; exact r7
  · rw [u7 _ (by omega) (by omega)]
theorem c_X2_init (ht : h.2 = t + 1) (h2 : 2 ≤ t) (hob : h.1 t = some (zO 2 [vN, vN, vI 0])) (hQ : ∀ h' : zH, zSee h' t (fun _ => 0) (fun _ => 0) 0 → h'.2 = t + 3 → (∀ a, a < t → h'.1 a = h.1 a) → Q none h') : zC (d + 1) mX2_init 2 12 [vR t] h Q := by
  refine zC.of zpl_X2 (Nat.le_of_ble_eq_true rfl) ?_
  refine z_aload_n 1 dX2_init_0 rfl rfl ?_
  refine z_objInit 4 dX2_init_1 rfl zw_213 zw_80 zw_81 (Nat.le_of_ble_eq_true rfl) ?_
  refine z_aload_n 5 dX2_init_4 rfl rfl ?_
  refine z_bipush 7 dX2_init_5 rfl (by decide) ?_
  refine z_fld_int (ci := 2) 12 6 dX2_init_7 dX2_init_9 rfl rfl (by decide) zw_110 ⟨by decide, by decide⟩ rfl zin_2 tyX2_ok nmX2 0 (by decide) zw_214 rfl rfl rfl (fun _ => ⟨rfl, rfl⟩) (by omega) (by omega) (by first | with_reducible assumption | with_reducible exact zup_same _ _ _) (Nat.le_of_ble_eq_true rfl) (fun hp7 n7 o7 r7 u7 => ?_)
  refine z_aload_n 13 dX2_init_12 rfl rfl ?_
  refine z_bipush 15 dX2_init_13 rfl (by decide) ?_
  refine z_fld_int (ci := 2) 20 6 dX2_init_15 dX2_init_17 rfl rfl (by decide) zw_110 ⟨by decide, by decide⟩ rfl zin_2 tyX2_ok nmX2 1 (by decide) zw_215 rfl rfl rfl (fun _ => ⟨rfl, rfl⟩) (by omega) (by omega) (by first | with_reducible assumption | with_reducible exact zup_same _ _ _) (Nat.le_of_ble_eq_true rfl) (fun hp15 n15 o15 r15 u15 => ?_)
  refine z_vret dX2_init_20 (by first | exact True.intro | exact Or.inl rfl | exact Or.inr rfl | exact zb_01 _ | assumption | (show _ ∨ _; omega)) ⟨by decide, by decide⟩ ?_
  refine hQ _ ⟨h2, ?_, ?_, ?_⟩ (by omega) (fun a ha => ?_)
  · rw [o15, n7, ht]; rfl
  · rw [u15 _ (by omega) (by omega), ← ht]; exact r7
  · rw [show t + 2 = hp7.2 by omega]; exact r15
  · rw [u15 _ (by omega) (by omega), u7 _ (by omega) (by omega)]
end CTOR
