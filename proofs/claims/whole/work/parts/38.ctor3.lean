/-! CONSTRUCTOR of LateLetters (gen_38.py) -/
section CTOR3
variable {d : Nat} {h : zH} {Q : Option zV → zH → Prop}
set_option maxHeartbeats 4000000 in
theorem c_X9_init (ht : h.2 = 3) (hob : h.1 2 = some (zO 9 [vN, vN, vN, vN, vN, vN, vN, vN, vN, vN, vJ 0])) (hf : h.1 1 = some (zJ 9 zfac)) (hQ : ∀ h' : zH, zCW h' zTD0 zTD0 (fun _ => 0) 0 0 0 (fun _ => zTD0) 0 (fun _ => zTD0) (fun _ => 0) (fun _ => 0) 0 0 (fun _ => 0) → h'.2 = 112 → (∀ a, a < 2 → h'.1 a = h.1 a) → Q none h') : zC (d + 4) mX9_init 109 912 [vR 2] h Q := by
  refine zC.of zpl_X9 (Nat.le_of_ble_eq_true rfl) ?_
  refine z_aload_n 1 dX9_init_0 rfl rfl ?_
  refine z_objInit 4 dX9_init_1 rfl zw_79 zw_80 zw_81 (Nat.le_of_ble_eq_true rfl) ?_
  refine z_aload_n 5 dX9_init_4 rfl rfl ?_
  refine z_new (ci := 6) 8 [vI 0, vI 0, vI 0, vN, vN, vN, vN] dX9_init_5 rfl rfl zin_6 tyX6_ok zw_82 zw_83 zw_61 (fun r j hj => zdef_6 r j hj) ⟨by decide, by decide⟩ ?_
  have n0 : (znew h (zO 6 [vI 0, vI 0, vI 0, vN, vN, vN, vN])).1 3 = some (zO 6 [vI 0, vI 0, vI 0, vN, vN, vN, vN]) := by rw [← ht]; exact znew_same _ _
  rw [ht]
  refine z_dup_a 9 dX9_init_8 rfl ?_
  refine z_callI0 (mc := 4) (ms := 32) 12 dX9_init_9 rfl kX6_init zw_84 (Nat.le_of_ble_eq_true rfl) ⟨by decide, by decide⟩ ?_
  refine c_X6_init (t := 3) (by show h.2 + 1 = _; rw [ht]) (by decide) n0 (fun h1 x1 z1 a1 => ?_)
  have b1 : h1.1 2 = some (zO 9 [vN, vN, vN, vN, vN, vN, vN, vN, vN, vN, vJ 0]) := by rw [a1 _ (by decide), znew_ne _ _ (by rw [ht]; decide)]; exact hob
  have v1 := x1.2.1
  have s1 : ∀ a, a < 3 → a ≠ 2 → h1.1 a = h.1 a := fun a q1 q2 => by rw [a1 a q1, znew_ne _ _ (by rw [ht]; omega)]
  refine z_putF (ci := 9) 15 dX9_init_12 rfl rfl zin_9 tyX9_ok nmX9 0 (by decide) zw_224 rfl rfl rfl (fun _ => ⟨rfl, rfl⟩) (by omega) (by first | with_reducible assumption | with_reducible exact zup_same _ _ _) (Nat.le_of_ble_eq_true rfl) ?_
  change Z _ _ _ _ _ _ (zup h1 2 (zO 9 [vR 3, vN, vN, vN, vN, vN, vN, vN, vN, vN, vJ 0])) _
  have e1 : (zup h1 2 (zO 9 [vR 3, vN, vN, vN, vN, vN, vN, vN, vN, vN, vJ 0])).2 = 8 := z1
  refine z_aload_n 16 dX9_init_15 rfl rfl ?_
  refine z_new (ci := 6) 19 [vI 0, vI 0, vI 0, vN, vN, vN, vN] dX9_init_16 rfl rfl zin_6 tyX6_ok zw_82 zw_83 zw_61 (fun r j hj => zdef_6 r j hj) ⟨by decide, by decide⟩ ?_
  have n1 : (znew (zup h1 2 (zO 9 [vR 3, vN, vN, vN, vN, vN, vN, vN, vN, vN, vJ 0])) (zO 6 [vI 0, vI 0, vI 0, vN, vN, vN, vN])).1 8 = some (zO 6 [vI 0, vI 0, vI 0, vN, vN, vN, vN]) := by rw [← e1]; exact znew_same _ _
  rw [e1]
  refine z_dup_a 20 dX9_init_19 rfl ?_
  refine z_callI0 (mc := 4) (ms := 32) 23 dX9_init_20 rfl kX6_init zw_84 (Nat.le_of_ble_eq_true rfl) ⟨by decide, by decide⟩ ?_
  refine c_X6_init (t := 8) (by show (zup h1 2 (zO 9 [vR 3, vN, vN, vN, vN, vN, vN, vN, vN, vN, vJ 0])).2 + 1 = _; rw [e1]) (by decide) n1 (fun h2 x2 z2 a2 => ?_)
  have b2 : h2.1 2 = some (zO 9 [vR 3, vN, vN, vN, vN, vN, vN, vN, vN, vN, vJ 0]) := by rw [a2 _ (by decide), znew_ne _ _ (by rw [e1]; decide)]; exact zup_same _ _ _
  have v2 := x2.2.1
  have s2 : ∀ a, a < 8 → a ≠ 2 → h2.1 a = h1.1 a := fun a q1 q2 => by rw [a2 a q1, znew_ne _ _ (by rw [e1]; omega), zup_ne _ _ q2]
  refine z_putF (ci := 9) 26 dX9_init_23 rfl rfl zin_9 tyX9_ok nmX9 1 (by decide) zw_225 rfl rfl rfl (fun _ => ⟨rfl, rfl⟩) (by omega) (by first | with_reducible assumption | with_reducible exact zup_same _ _ _) (Nat.le_of_ble_eq_true rfl) ?_
  change Z _ _ _ _ _ _ (zup h2 2 (zO 9 [vR 3, vR 8, vN, vN, vN, vN, vN, vN, vN, vN, vJ 0])) _
  have e2 : (zup h2 2 (zO 9 [vR 3, vR 8, vN, vN, vN, vN, vN, vN, vN, vN, vJ 0])).2 = 13 := z2
  refine z_aload_n 27 dX9_init_26 rfl rfl ?_
  refine z_new (ci := 8) 30 [vN, vN] dX9_init_27 rfl rfl zin_8 tyX8_ok zw_111 zw_112 zw_62 (fun r j hj => zdef_8 r j hj) ⟨by decide, by decide⟩ ?_
  have n2 : (znew (zup h2 2 (zO 9 [vR 3, vR 8, vN, vN, vN, vN, vN, vN, vN, vN, vJ 0])) (zO 8 [vN, vN])).1 13 = some (zO 8 [vN, vN]) := by rw [← e2]; exact znew_same _ _
  rw [e2]
  refine z_dup_a 31 dX9_init_30 rfl ?_
  refine z_callIN0 (mc := 2) (ms := 32) 34 dX9_init_31 rfl kX8_init zn_113 (Nat.le_of_ble_eq_true rfl) ⟨by decide, by decide⟩ ?_
  refine c_X8_init (t := 13) (by show (zup h2 2 (zO 9 [vR 3, vR 8, vN, vN, vN, vN, vN, vN, vN, vN, vJ 0])).2 + 1 = _; rw [e2]) (by decide) n2 (fun h3 x3 z3 a3 => ?_)
  have b3 : h3.1 2 = some (zO 9 [vR 3, vR 8, vN, vN, vN, vN, vN, vN, vN, vN, vJ 0]) := by rw [a3 _ (by decide), znew_ne _ _ (by rw [e2]; decide)]; exact zup_same _ _ _
  have v3 := x3.2.1
  have s3 : ∀ a, a < 13 → a ≠ 2 → h3.1 a = h2.1 a := fun a q1 q2 => by rw [a3 a q1, znew_ne _ _ (by rw [e2]; omega), zup_ne _ _ q2]
  refine z_putF (ci := 9) 37 dX9_init_34 rfl rfl zin_9 tyX9_ok nmX9 2 (by decide) zw_226 rfl rfl rfl (fun _ => ⟨rfl, rfl⟩) (by omega) (by first | with_reducible assumption | with_reducible exact zup_same _ _ _) (Nat.le_of_ble_eq_true rfl) ?_
  change Z _ _ _ _ _ _ (zup h3 2 (zO 9 [vR 3, vR 8, vR 13, vN, vN, vN, vN, vN, vN, vN, vJ 0])) _
  have e3 : (zup h3 2 (zO 9 [vR 3, vR 8, vR 13, vN, vN, vN, vN, vN, vN, vN, vJ 0])).2 = 16 := z3
  refine z_aload_n 38 dX9_init_37 rfl rfl ?_
  refine z_new (ci := 5) 41 [vN, vI 0] dX9_init_38 rfl rfl zin_5 tyX5_ok zw_124 zw_125 zw_63 (fun r j hj => zdef_5 r j hj) ⟨by decide, by decide⟩ ?_
  have n3 : (znew (zup h3 2 (zO 9 [vR 3, vR 8, vR 13, vN, vN, vN, vN, vN, vN, vN, vJ 0])) (zO 5 [vN, vI 0])).1 16 = some (zO 5 [vN, vI 0]) := by rw [← e3]; exact znew_same _ _
  rw [e3]
  refine z_dup_a 42 dX9_init_41 rfl ?_
  refine z_callIN0 (mc := 1) (ms := 8) 45 dX9_init_42 rfl kX5_init zn_126 (Nat.le_of_ble_eq_true rfl) ⟨by decide, by decide⟩ ?_
  refine c_X5_init (t := 16) (by show (zup h3 2 (zO 9 [vR 3, vR 8, vR 13, vN, vN, vN, vN, vN, vN, vN, vJ 0])).2 + 1 = _; rw [e3]) (by decide) n3 (fun h4 x4 z4 a4 => ?_)
  have b4 : h4.1 2 = some (zO 9 [vR 3, vR 8, vR 13, vN, vN, vN, vN, vN, vN, vN, vJ 0]) := by rw [a4 _ (by decide), znew_ne _ _ (by rw [e3]; decide)]; exact zup_same _ _ _
  have v4 := x4.2.1
  have s4 : ∀ a, a < 16 → a ≠ 2 → h4.1 a = h3.1 a := fun a q1 q2 => by rw [a4 a q1, znew_ne _ _ (by rw [e3]; omega), zup_ne _ _ q2]
  refine z_putF (ci := 9) 48 dX9_init_45 rfl rfl zin_9 tyX9_ok nmX9 3 (by decide) zw_227 rfl rfl rfl (fun _ => ⟨rfl, rfl⟩) (by omega) (by first | with_reducible assumption | with_reducible exact zup_same _ _ _) (Nat.le_of_ble_eq_true rfl) ?_
  change Z _ _ _ _ _ _ (zup h4 2 (zO 9 [vR 3, vR 8, vR 13, vR 16, vN, vN, vN, vN, vN, vN, vJ 0])) _
  have e4 : (zup h4 2 (zO 9 [vR 3, vR 8, vR 13, vR 16, vN, vN, vN, vN, vN, vN, vJ 0])).2 = 18 := z4
  refine z_aload_n 49 dX9_init_48 rfl rfl ?_
  refine z_new (ci := 1) 52 [vN] dX9_init_49 rfl rfl zin_1 tyX1_ok zw_137 zw_138 zw_64 (fun r j hj => zdef_1 r j hj) ⟨by decide, by decide⟩ ?_
  have n4 : (znew (zup h4 2 (zO 9 [vR 3, vR 8, vR 13, vR 16, vN, vN, vN, vN, vN, vN, vJ 0])) (zO 1 [vN])).1 18 = some (zO 1 [vN]) := by rw [← e4]; exact znew_same _ _
  rw [e4]
  refine z_dup_a 53 dX9_init_52 rfl ?_
  refine z_callIN0 (mc := 1) (ms := 61) 56 dX9_init_53 rfl kX1_init zn_139 (Nat.le_of_ble_eq_true rfl) ⟨by decide, by decide⟩ ?_
  refine c_X1_init (t := 18) (by show (zup h4 2 (zO 9 [vR 3, vR 8, vR 13, vR 16, vN, vN, vN, vN, vN, vN, vJ 0])).2 + 1 = _; rw [e4]) (by decide) n4 (fun h5 x5 z5 a5 => ?_)
  have b5 : h5.1 2 = some (zO 9 [vR 3, vR 8, vR 13, vR 16, vN, vN, vN, vN, vN, vN, vJ 0]) := by rw [a5 _ (by decide), znew_ne _ _ (by rw [e4]; decide)]; exact zup_same _ _ _
  have v5 := x5.2.1
  have s5 : ∀ a, a < 18 → a ≠ 2 → h5.1 a = h4.1 a := fun a q1 q2 => by rw [a5 a q1, znew_ne _ _ (by rw [e4]; omega), zup_ne _ _ q2]
  refine z_putF (ci := 9) 59 dX9_init_56 rfl rfl zin_9 tyX9_ok nmX9 4 (by decide) zw_228 rfl rfl rfl (fun _ => ⟨rfl, rfl⟩) (by omega) (by first | with_reducible assumption | with_reducible exact zup_same _ _ _) (Nat.le_of_ble_eq_true rfl) ?_
  change Z _ _ _ _ _ _ (zup h5 2 (zO 9 [vR 3, vR 8, vR 13, vR 16, vR 18, vN, vN, vN, vN, vN, vJ 0])) _
  have e5 : (zup h5 2 (zO 9 [vR 3, vR 8, vR 13, vR 16, vR 18, vN, vN, vN, vN, vN, vJ 0])).2 = 20 := z5
  refine z_aload_n 60 dX9_init_59 rfl rfl ?_
  refine z_new (ci := 7) 63 [vN, vI 0] dX9_init_60 rfl rfl zin_7 tyX7_ok zw_148 zw_149 zw_65 (fun r j hj => zdef_7 r j hj) ⟨by decide, by decide⟩ ?_
  have n5 : (znew (zup h5 2 (zO 9 [vR 3, vR 8, vR 13, vR 16, vR 18, vN, vN, vN, vN, vN, vJ 0])) (zO 7 [vN, vI 0])).1 20 = some (zO 7 [vN, vI 0]) := by rw [← e5]; exact znew_same _ _
  rw [e5]
  refine z_dup_a 64 dX9_init_63 rfl ?_
  refine z_callIN0 (mc := 1) (ms := 60) 67 dX9_init_64 rfl kX7_init zn_150 (Nat.le_of_ble_eq_true rfl) ⟨by decide, by decide⟩ ?_
  refine c_X7_init (t := 20) (by show (zup h5 2 (zO 9 [vR 3, vR 8, vR 13, vR 16, vR 18, vN, vN, vN, vN, vN, vJ 0])).2 + 1 = _; rw [e5]) (by decide) n5 (fun h6 x6 z6 a6 => ?_)
  have b6 : h6.1 2 = some (zO 9 [vR 3, vR 8, vR 13, vR 16, vR 18, vN, vN, vN, vN, vN, vJ 0]) := by rw [a6 _ (by decide), znew_ne _ _ (by rw [e5]; decide)]; exact zup_same _ _ _
  have v6 := x6.2.1
  have s6 : ∀ a, a < 20 → a ≠ 2 → h6.1 a = h5.1 a := fun a q1 q2 => by rw [a6 a q1, znew_ne _ _ (by rw [e5]; omega), zup_ne _ _ q2]
  refine z_putF (ci := 9) 70 dX9_init_67 rfl rfl zin_9 tyX9_ok nmX9 5 (by decide) zw_229 rfl rfl rfl (fun _ => ⟨rfl, rfl⟩) (by omega) (by first | with_reducible assumption | with_reducible exact zup_same _ _ _) (Nat.le_of_ble_eq_true rfl) ?_
  change Z _ _ _ _ _ _ (zup h6 2 (zO 9 [vR 3, vR 8, vR 13, vR 16, vR 18, vR 20, vN, vN, vN, vN, vJ 0])) _
  have e6 : (zup h6 2 (zO 9 [vR 3, vR 8, vR 13, vR 16, vR 18, vR 20, vN, vN, vN, vN, vJ 0])).2 = 22 := z6
  refine z_aload_n 71 dX9_init_70 rfl rfl ?_
  refine z_new (ci := 0) 74 [vN, vI 0, vI 0] dX9_init_71 rfl rfl zin_0 tyX0_ok zw_161 zw_162 zw_66 (fun r j hj => zdef_0 r j hj) ⟨by decide, by decide⟩ ?_
  have n6 : (znew (zup h6 2 (zO 9 [vR 3, vR 8, vR 13, vR 16, vR 18, vR 20, vN, vN, vN, vN, vJ 0])) (zO 0 [vN, vI 0, vI 0])).1 22 = some (zO 0 [vN, vI 0, vI 0]) := by rw [← e6]; exact znew_same _ _
  rw [e6]
  refine z_dup_a 75 dX9_init_74 rfl ?_
  refine z_callIN0 (mc := 72) (ms := 561) 78 dX9_init_75 rfl kX0_init zn_163 (Nat.le_of_ble_eq_true rfl) ⟨by decide, by decide⟩ ?_
  refine c_X0_init (t := 22) (by show (zup h6 2 (zO 9 [vR 3, vR 8, vR 13, vR 16, vR 18, vR 20, vN, vN, vN, vN, vJ 0])).2 + 1 = _; rw [e6]) (by decide) n6 (fun h7 x7 y7 w7 z7 a7 => ?_)
  have b7 : h7.1 2 = some (zO 9 [vR 3, vR 8, vR 13, vR 16, vR 18, vR 20, vN, vN, vN, vN, vJ 0]) := by rw [a7 _ (by decide), znew_ne _ _ (by rw [e6]; decide)]; exact zup_same _ _ _
  have s7 : ∀ a, a < 22 → a ≠ 2 → h7.1 a = h6.1 a := fun a q1 q2 => by rw [a7 a q1, znew_ne _ _ (by rw [e6]; omega), zup_ne _ _ q2]
  refine z_putF (ci := 9) 81 dX9_init_78 rfl rfl zin_9 tyX9_ok nmX9 6 (by decide) zw_230 rfl rfl rfl (fun _ => ⟨rfl, rfl⟩) (by omega) (by first | with_reducible assumption | with_reducible exact zup_same _ _ _) (Nat.le_of_ble_eq_true rfl) ?_
  change Z _ _ _ _ _ _ (zup h7 2 (zO 9 [vR 3, vR 8, vR 13, vR 16, vR 18, vR 20, vR 22, vN, vN, vN, vJ 0])) _
  have e7 : (zup h7 2 (zO 9 [vR 3, vR 8, vR 13, vR 16, vR 18, vR 20, vR 22, vN, vN, vN, vJ 0])).2 = 95 := z7
  refine z_aload_n 82 dX9_init_81 rfl rfl ?_
  refine z_new (ci := 4) 85 [vN, vI 0] dX9_init_82 rfl rfl zin_4 tyX4_ok zw_193 zw_194 zw_69 (fun r j hj => zdef_4 r j hj) ⟨by decide, by decide⟩ ?_
  have n7 : (znew (zup h7 2 (zO 9 [vR 3, vR 8, vR 13, vR 16, vR 18, vR 20, vR 22, vN, vN, vN, vJ 0])) (zO 4 [vN, vI 0])).1 95 = some (zO 4 [vN, vI 0]) := by rw [← e7]; exact znew_same _ _
  rw [e7]
  refine z_dup_a 86 dX9_init_85 rfl ?_
  refine z_callIN0 (mc := 12) (ms := 81) 89 dX9_init_86 rfl kX4_init zn_195 (Nat.le_of_ble_eq_true rfl) ⟨by decide, by decide⟩ ?_
  refine c_X4_init (t := 95) (by show (zup h7 2 (zO 9 [vR 3, vR 8, vR 13, vR 16, vR 18, vR 20, vR 22, vN, vN, vN, vJ 0])).2 + 1 = _; rw [e7]) (by decide) n7 (fun h8 x8 y8 w8 z8 a8 => ?_)
  have b8 : h8.1 2 = some (zO 9 [vR 3, vR 8, vR 13, vR 16, vR 18, vR 20, vR 22, vN, vN, vN, vJ 0]) := by rw [a8 _ (by decide), znew_ne _ _ (by rw [e7]; decide)]; exact zup_same _ _ _
  have s8 : ∀ a, a < 95 → a ≠ 2 → h8.1 a = h7.1 a := fun a q1 q2 => by rw [a8 a q1, znew_ne _ _ (by rw [e7]; omega), zup_ne _ _ q2]
  refine z_putF (ci := 9) 92 dX9_init_89 rfl rfl zin_9 tyX9_ok nmX9 7 (by decide) zw_231 rfl rfl rfl (fun _ => ⟨rfl, rfl⟩) (by omega) (by first | with_reducible assumption | with_reducible exact zup_same _ _ _) (Nat.le_of_ble_eq_true rfl) ?_
  change Z _ _ _ _ _ _ (zup h8 2 (zO 9 [vR 3, vR 8, vR 13, vR 16, vR 18, vR 20, vR 22, vR 95, vN, vN, vJ 0])) _
  have e8 : (zup h8 2 (zO 9 [vR 3, vR 8, vR 13, vR 16, vR 18, vR 20, vR 22, vR 95, vN, vN, vJ 0])).2 = 108 := z8
  refine z_aload_n 93 dX9_init_92 rfl rfl ?_
  refine z_new (ci := 2) 96 [vN, vN, vI 0] dX9_init_93 rfl rfl zin_2 tyX2_ok zw_208 zw_209 zw_70 (fun r j hj => zdef_2 r j hj) ⟨by decide, by decide⟩ ?_
  have n8 : (znew (zup h8 2 (zO 9 [vR 3, vR 8, vR 13, vR 16, vR 18, vR 20, vR 22, vR 95, vN, vN, vJ 0])) (zO 2 [vN, vN, vI 0])).1 108 = some (zO 2 [vN, vN, vI 0]) := by rw [← e8]; exact znew_same _ _
  rw [e8]
  refine z_dup_a 97 dX9_init_96 rfl ?_
  refine z_callIN0 (mc := 2) (ms := 12) 100 dX9_init_97 rfl kX2_init zn_210 (Nat.le_of_ble_eq_true rfl) ⟨by decide, by decide⟩ ?_
  refine c_X2_init (t := 108) (by show (zup h8 2 (zO 9 [vR 3, vR 8, vR 13, vR 16, vR 18, vR 20, vR 22, vR 95, vN, vN, vJ 0])).2 + 1 = _; rw [e8]) (by decide) n8 (fun h9 x9 z9 a9 => ?_)
  have b9 : h9.1 2 = some (zO 9 [vR 3, vR 8, vR 13, vR 16, vR 18, vR 20, vR 22, vR 95, vN, vN, vJ 0]) := by rw [a9 _ (by decide), znew_ne _ _ (by rw [e8]; decide)]; exact zup_same _ _ _
  have v9 := x9.2.1
  have s9 : ∀ a, a < 108 → a ≠ 2 → h9.1 a = h8.1 a := fun a q1 q2 => by rw [a9 a q1, znew_ne _ _ (by rw [e8]; omega), zup_ne _ _ q2]
  refine z_putF (ci := 9) 103 dX9_init_100 rfl rfl zin_9 tyX9_ok nmX9 8 (by decide) zw_232 rfl rfl rfl (fun _ => ⟨rfl, rfl⟩) (by omega) (by first | with_reducible assumption | with_reducible exact zup_same _ _ _) (Nat.le_of_ble_eq_true rfl) ?_
  change Z _ _ _ _ _ _ (zup h9 2 (zO 9 [vR 3, vR 8, vR 13, vR 16, vR 18, vR 20, vR 22, vR 95, vR 108, vN, vJ 0])) _
  have e9 : (zup h9 2 (zO 9 [vR 3, vR 8, vR 13, vR 16, vR 18, vR 20, vR 22, vR 95, vR 108, vN, vJ 0])).2 = 111 := z9
  refine z_aload_n 104 dX9_init_103 rfl rfl ?_
  refine z_iconst 105 dX9_init_104 rfl ?_
  refine z_fld_int (ci := 9) 110 4 dX9_init_105 dX9_init_107 rfl rfl (by decide) zw_110 ⟨by decide, by decide⟩ rfl zin_9 tyX9_ok nmX9 9 (by decide) zw_233 rfl rfl rfl (fun _ => ⟨rfl, rfl⟩) (by omega) (by rw [e9]; decide) (by first | with_reducible assumption | with_reducible exact zup_same _ _ _) (Nat.le_of_ble_eq_true rfl) (fun hp105 n105 o105 r105 u105 => ?_)
  refine z_vret dX9_init_110 (by first | exact True.intro | exact Or.inl rfl | exact Or.inr rfl | exact zb_01 _ | assumption | (show _ ∨ _; omega)) ⟨by decide, by decide⟩ ?_
  have f9 : ∀ a, a < 111 → a ≠ 2 → hp105.1 a = h9.1 a := fun a q1 q2 => by rw [u105 a q2 (by rw [e9]; omega), zup_ne _ _ q2]
  have f8 : ∀ a, a < 108 → a ≠ 2 → hp105.1 a = h8.1 a := fun a q1 q2 => (f9 a (by omega) q2).trans (s9 a q1 q2)
  have f7 : ∀ a, a < 95 → a ≠ 2 → hp105.1 a = h7.1 a := fun a q1 q2 => (f8 a (by omega) q2).trans (s8 a q1 q2)
  have f6 : ∀ a, a < 22 → a ≠ 2 → hp105.1 a = h6.1 a := fun a q1 q2 => (f7 a (by omega) q2).trans (s7 a q1 q2)
  have f5 : ∀ a, a < 20 → a ≠ 2 → hp105.1 a = h5.1 a := fun a q1 q2 => (f6 a (by omega) q2).trans (s6 a q1 q2)
  have f4 : ∀ a, a < 18 → a ≠ 2 → hp105.1 a = h4.1 a := fun a q1 q2 => (f5 a (by omega) q2).trans (s5 a q1 q2)
  have f3 : ∀ a, a < 16 → a ≠ 2 → hp105.1 a = h3.1 a := fun a q1 q2 => (f4 a (by omega) q2).trans (s4 a q1 q2)
  have f2 : ∀ a, a < 13 → a ≠ 2 → hp105.1 a = h2.1 a := fun a q1 q2 => (f3 a (by omega) q2).trans (s3 a q1 q2)
  have f1 : ∀ a, a < 8 → a ≠ 2 → hp105.1 a = h1.1 a := fun a q1 q2 => (f2 a (by omega) q2).trans (s2 a q1 q2)
  have f0 : ∀ a, a < 3 → a ≠ 2 → hp105.1 a = h.1 a := fun a q1 q2 => (f1 a (by omega) q2).trans (s1 a q1 q2)
  refine hQ _ ⟨by rw [o105, e9]; rfl, x1.eq (fun a _ _ => f1 a (by omega) (by omega)), x2.eq (fun a _ _ => f2 a (by omega) (by omega)), ⟨_, _, ⟨by decide, by rw [f3 _ (by decide) (by decide)]; exact x3.2.1, by rw [f3 _ (by decide) (by decide)]; exact x3.2.2.1, by rw [f3 _ (by decide) (by decide)]; exact x3.2.2.2⟩, rfl, rfl, rfl⟩, ⟨_, _, by decide, by rw [f4 _ (by decide) (by decide)]; exact x4.2.1, by rw [f4 _ (by decide) (by decide)]; exact x4.2.2⟩, ⟨_, by decide, by rw [f5 _ (by decide) (by decide)]; exact x5.2.1, by rw [f5 _ (by decide) (by decide)]; exact x5.2.2⟩, ⟨by decide, by rw [f6 _ (by decide) (by decide)]; exact x6.2.1, by rw [f6 _ (by decide) (by decide)]; exact x6.2.2⟩, by rw [f7 _ (by decide) (by decide)]; exact x7, ?_, fun i hi => (w7 i hi).eq (fun a _ _ => f7 a (by omega) (by omega)), by rw [f8 _ (by decide) (by decide)]; exact x8, ?_, fun i hi => (w8 i hi).eq (fun a _ _ => f8 a (by omega) (by omega)), ⟨by decide, by rw [f9 _ (by decide) (by decide)]; exact x9.2.1, by rw [f9 _ (by decide) (by decide)]; exact x9.2.2.1, by rw [f9 _ (by decide) (by decide)]; exact x9.2.2.2⟩, by rw [← e9]; exact r105, by rw [f0 _ (by decide) (by decide)]; exact hf⟩ (by rw [n105, e9]) (fun a ha => f0 a (by omega) (by omega))
  · obtain ⟨g0, g1, f, g2, g3⟩ := y7
    exact ⟨g0, by rw [f7 _ (by decide) (by decide)]; exact g1, f, by rw [f7 _ (by decide) (by decide)]; exact g2, g3⟩
  · obtain ⟨g0, g1, f, g2, g3⟩ := y8
    exact ⟨g0, by rw [f8 _ (by decide) (by decide)]; exact g1, f, by rw [f8 _ (by decide) (by decide)]; exact g2, g3⟩
end CTOR3
