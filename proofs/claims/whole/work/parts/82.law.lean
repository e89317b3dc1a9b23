/-! THE LAW: case by case -/
abbrev mL (nm : String) : zM := (⟨RL, nm, "([I)Z"⟩, cL_law, 4, some .boolean)
abbrev zml : zK := (126, 2014, 126, 2014)
def zn (a : Int) : Int := (Int64.ofInt a).toInt
theorem zn_r (a : Int) : -9223372036854775808 ≤ zn a ∧ zn a ≤ 9223372036854775807 := ⟨Int64.le_toInt _, by have := Int64.toInt_lt (Int64.ofInt a); unfold zn; omega⟩
theorem zlor_r (a b : Int) : -9223372036854775808 ≤ zlor a b ∧ zlor a b ≤ 9223372036854775807 := ⟨Int64.le_toInt _, by have := Int64.toInt_lt (Int64.ofInt a ||| Int64.ofInt b); unfold zlor; omega⟩
theorem zcmp_s (a : Int) : zcmp a a = 0 := by unfold zcmp; rw [if_neg (by omega), if_pos rfl]
section LAWN
variable {d : Nat} {M : zM} {mr : zK} {pc : Nat} {L : List (Option zV)} {st : List zV} {h : zH} {Q : Option zV → zH → Prop}
theorem z_norm2 {a c : Int} (k : Z d M mr pc L (vJ (zn a) :: vJ (zn c) :: st) h Q) : Z d M mr pc L (vJ a :: vJ c :: st) h Q := by
  intro p l e R s m args below meth cc D r G H locs ls C0 hG hL hR hS
  have K := k p l e R s m args below meth cc D r G H locs ls C0 hG hL hR hS
  have e : ∀ x : Int, zv r (vJ (zn x)) = zv r (vJ x) := fun x => by
    show Value.long (Int64.ofInt (Int64.ofInt x).toInt) = Value.long (Int64.ofInt x)
    rw [Int64.ofInt_toInt]
  rw [List.map_cons, List.map_cons, e, e] at K
  rw [List.map_cons, List.map_cons]
  exact K
end LAWN
section LAWC
variable {nm : String} {d : Nat} {L : Nat} {f : Int → Int} {i : Int} {h : zH} {Q : Option zV → zH → Prop}
theorem zINV.ob2 (hI : zINV L f h) : ∃ fs : List zV, h.1 2 = some (zO 9 fs) := by
  obtain ⟨hs, N, M, D, G, E, P, U, C, l, fi, ct, S, fl, Kp, W, Kt, c, sd, O, R, DI, nx, KP, IK, hW, hm, hT, hl, hA, hSl, hc⟩ := hI
  exact ⟨_, hW.ob⟩
theorem lc_write (hI : zINV L f h) (hi : 0 ≤ i ∧ i + 4 ≤ (L : Int)) (hL : L ≤ 2048) (hf : ∀ j : Int, 0 ≤ j → j < L → -2147483648 ≤ f j ∧ f j ≤ 2147483647) (k : ∀ h2 : zH, zINV L f h2 → Z (d + 15) (mL nm) zml 941 [some (vR 0), some (vR 2), some (vR 112), some (vI i)] [] h2 Q) : Z (d + 15) (mL nm) zml 156 [some (vR 0), some (vR 2), some (vR 112), some (vI i)] [] h Q := by
  have hs := hI.1
  obtain ⟨fs0, ho2⟩ := hI.ob2
  have r1 := hf (i + 1) (by omega) (by omega)
  have r2 := hf (i + 2) (by omega) (by omega)
  have r3 := hf (i + 3) (by omega) (by omega)
  refine z_aload_n 157 dL_law_156 rfl rfl ?_
  refine z_aload_n 158 dL_law_157 rfl rfl ?_
  refine z_iload_n 159 dL_law_158 rfl rfl ?_
  refine z_iconst 160 dL_law_159 rfl ?_
  refine z_iadd 161 dL_law_160 rfl ?_
  refine z_iald 162 dL_law_161 rfl (by first | with_reducible assumption | with_reducible exact zup_same _ _ _) (by omega) (by first | omega | exact zr_b _ | exact zr_and _ _ | exact zr_or _ _ | exact zr_shl _ _) ?_
  refine z_cV1 165 dL_law_162 rfl kX9_write zw_258 (Nat.le_of_ble_eq_true rfl) ⟨Nat.le_refl _, Nat.le_refl _⟩ (by first | with_reducible assumption | with_reducible exact zup_same _ _ _) ?_
  refine p_write hI r1 _ (fun a h1 fs1 ra hs1 ho1 mc => ?_)
  refine z_aload_n 166 dL_law_165 rfl rfl ?_
  refine z_aload_n 167 dL_law_166 rfl rfl ?_
  refine z_iload_n 168 dL_law_167 rfl rfl ?_
  refine z_iconst 169 dL_law_168 rfl ?_
  refine z_iadd 170 dL_law_169 rfl ?_
  refine z_iald 171 dL_law_170 rfl (by first | with_reducible assumption | with_reducible exact zup_same _ _ _) (by omega) (by first | omega | exact zr_b _ | exact zr_and _ _ | exact zr_or _ _ | exact zr_shl _ _) ?_
  refine z_cV1 174 dL_law_171 rfl kX10_write zw_841 (Nat.le_of_ble_eq_true rfl) ⟨Nat.le_refl _, Nat.le_refl _⟩ (by first | with_reducible assumption | with_reducible exact zup_same _ _ _) ?_
  refine mc _ (fun h2 hI2 => ?_)
  refine z_icmp_eq 941 177 dL_law_174 (by decide) rfl (by first | omega | exact zr_b _ | exact zr_and _ _ | exact zr_or _ _ | exact zr_shl _ _) (by first | omega | exact zr_b _ | exact zr_and _ _ | exact zr_or _ _ | exact zr_shl _ _) (fun c174 => ?_) (fun c174 => ?_)
  · exact k h2 hI2
  · exact absurd rfl c174
theorem lc_wipe (hI : zINV L f h) (hi : 0 ≤ i ∧ i + 4 ≤ (L : Int)) (hL : L ≤ 2048) (hf : ∀ j : Int, 0 ≤ j → j < L → -2147483648 ≤ f j ∧ f j ≤ 2147483647) (k : ∀ h2 : zH, zINV L f h2 → Z (d + 15) (mL nm) zml 941 [some (vR 0), some (vR 2), some (vR 112), some (vI i)] [] h2 Q) : Z (d + 15) (mL nm) zml 179 [some (vR 0), some (vR 2), some (vR 112), some (vI i)] [] h Q := by
  have hs := hI.1
  obtain ⟨fs0, ho2⟩ := hI.ob2
  have r1 := hf (i + 1) (by omega) (by omega)
  have r2 := hf (i + 2) (by omega) (by omega)
  have r3 := hf (i + 3) (by omega) (by omega)
  refine z_aload_n 180 dL_law_179 rfl rfl ?_
  refine z_cV0 183 dL_law_180 rfl kX9_wipe zw_273 (Nat.le_of_ble_eq_true rfl) ⟨Nat.le_refl _, Nat.le_refl _⟩ (by first | with_reducible assumption | with_reducible exact zup_same _ _ _) ?_
  refine p_wipe hI _ (fun a h1 fs1 ra hs1 ho1 mc => ?_)
  refine z_aload_n 184 dL_law_183 rfl rfl ?_
  refine z_cV0 187 dL_law_184 rfl kX10_wipe zw_849 (Nat.le_of_ble_eq_true rfl) ⟨Nat.le_refl _, Nat.le_refl _⟩ (by first | with_reducible assumption | with_reducible exact zup_same _ _ _) ?_
  refine mc _ (fun h2 hI2 => ?_)
  refine z_icmp_eq 941 190 dL_law_187 (by decide) rfl (by first | omega | exact zr_b _ | exact zr_and _ _ | exact zr_or _ _ | exact zr_shl _ _) (by first | omega | exact zr_b _ | exact zr_and _ _ | exact zr_or _ _ | exact zr_shl _ _) (fun c187 => ?_) (fun c187 => ?_)
  · exact k h2 hI2
  · exact absurd rfl c187
theorem lc_fault (hI : zINV L f h) (hi : 0 ≤ i ∧ i + 4 ≤ (L : Int)) (hL : L ≤ 2048) (hf : ∀ j : Int, 0 ≤ j → j < L → -2147483648 ≤ f j ∧ f j ≤ 2147483647) (k : ∀ h2 : zH, zINV L f h2 → Z (d + 15) (mL nm) zml 941 [some (vR 0), some (vR 2), some (vR 112), some (vI i)] [] h2 Q) : Z (d + 15) (mL nm) zml 192 [some (vR 0), some (vR 2), some (vR 112), some (vI i)] [] h Q := by
  have hs := hI.1
  obtain ⟨fs0, ho2⟩ := hI.ob2
  have r1 := hf (i + 1) (by omega) (by omega)
  have r2 := hf (i + 2) (by omega) (by omega)
  have r3 := hf (i + 3) (by omega) (by omega)
  refine z_aload_n 193 dL_law_192 rfl rfl ?_
  refine z_cV0 196 dL_law_193 rfl kX9_fault zw_281 (Nat.le_of_ble_eq_true rfl) ⟨Nat.le_refl _, Nat.le_refl _⟩ (by first | with_reducible assumption | with_reducible exact zup_same _ _ _) ?_
  refine p_fault hI _ (fun a h1 fs1 ra hs1 ho1 mc => ?_)
  refine z_aload_n 197 dL_law_196 rfl rfl ?_
  refine z_cV0 200 dL_law_197 rfl kX10_fault zw_853 (Nat.le_of_ble_eq_true rfl) ⟨Nat.le_refl _, Nat.le_refl _⟩ (by first | with_reducible assumption | with_reducible exact zup_same _ _ _) ?_
  refine mc _ (fun h2 hI2 => ?_)
  refine z_icmp_eq 941 203 dL_law_200 (by decide) rfl (by first | omega | exact zr_b _ | exact zr_and _ _ | exact zr_or _ _ | exact zr_shl _ _) (by first | omega | exact zr_b _ | exact zr_and _ _ | exact zr_or _ _ | exact zr_shl _ _) (fun c200 => ?_) (fun c200 => ?_)
  · exact k h2 hI2
  · exact absurd rfl c200
theorem lc_telling (hI : zINV L f h) (hi : 0 ≤ i ∧ i + 4 ≤ (L : Int)) (hL : L ≤ 2048) (hf : ∀ j : Int, 0 ≤ j → j < L → -2147483648 ≤ f j ∧ f j ≤ 2147483647) (k : ∀ h2 : zH, zINV L f h2 → Z (d + 15) (mL nm) zml 941 [some (vR 0), some (vR 2), some (vR 112), some (vI i)] [] h2 Q) : Z (d + 15) (mL nm) zml 205 [some (vR 0), some (vR 2), some (vR 112), some (vI i)] [] h Q := by
  have hs := hI.1
  obtain ⟨fs0, ho2⟩ := hI.ob2
  have r1 := hf (i + 1) (by omega) (by omega)
  have r2 := hf (i + 2) (by omega) (by omega)
  have r3 := hf (i + 3) (by omega) (by omega)
  refine z_aload_n 206 dL_law_205 rfl rfl ?_
  refine z_cV0 209 dL_law_206 rfl kX9_telling zw_324 (Nat.le_of_ble_eq_true rfl) ⟨Nat.le_refl _, Nat.le_refl _⟩ (by first | with_reducible assumption | with_reducible exact zup_same _ _ _) ?_
  refine p_telling hI _ (fun a h1 fs1 ra hs1 ho1 mc => ?_)
  refine z_aload_n 210 dL_law_209 rfl rfl ?_
  refine z_cV0 213 dL_law_210 rfl kX10_telling zw_876 (Nat.le_of_ble_eq_true rfl) ⟨Nat.le_refl _, Nat.le_refl _⟩ (by first | with_reducible assumption | with_reducible exact zup_same _ _ _) ?_
  refine mc _ (fun h2 hI2 => ?_)
  refine z_icmp_eq 941 216 dL_law_213 (by decide) rfl (by first | omega | exact zr_b _ | exact zr_and _ _ | exact zr_or _ _ | exact zr_shl _ _) (by first | omega | exact zr_b _ | exact zr_and _ _ | exact zr_or _ _ | exact zr_shl _ _) (fun c213 => ?_) (fun c213 => ?_)
  · exact k h2 hI2
  · exact absurd rfl c213
theorem lc_about (hI : zINV L f h) (hi : 0 ≤ i ∧ i + 4 ≤ (L : Int)) (hL : L ≤ 2048) (hf : ∀ j : Int, 0 ≤ j → j < L → -2147483648 ≤ f j ∧ f j ≤ 2147483647) (k : ∀ h2 : zH, zINV L f h2 → Z (d + 15) (mL nm) zml 941 [some (vR 0), some (vR 2), some (vR 112), some (vI i)] [] h2 Q) : Z (d + 15) (mL nm) zml 218 [some (vR 0), some (vR 2), some (vR 112), some (vI i)] [] h Q := by
  have hs := hI.1
  obtain ⟨fs0, ho2⟩ := hI.ob2
  have r1 := hf (i + 1) (by omega) (by omega)
  have r2 := hf (i + 2) (by omega) (by omega)
  have r3 := hf (i + 3) (by omega) (by omega)
  refine z_aload_n 219 dL_law_218 rfl rfl ?_
  refine z_aload_n 220 dL_law_219 rfl rfl ?_
  refine z_iload_n 221 dL_law_220 rfl rfl ?_
  refine z_iconst 222 dL_law_221 rfl ?_
  refine z_iadd 223 dL_law_222 rfl ?_
  refine z_iald 224 dL_law_223 rfl (by first | with_reducible assumption | with_reducible exact zup_same _ _ _) (by omega) (by first | omega | exact zr_b _ | exact zr_and _ _ | exact zr_or _ _ | exact zr_shl _ _) ?_
  refine z_cV1 227 dL_law_224 rfl kX9_about zw_397 (Nat.le_of_ble_eq_true rfl) ⟨Nat.le_refl _, Nat.le_refl _⟩ (by first | with_reducible assumption | with_reducible exact zup_same _ _ _) ?_
  refine p_about hI r1 _ (fun a h1 fs1 ra hs1 ho1 mc => ?_)
  refine z_aload_n 228 dL_law_227 rfl rfl ?_
  refine z_aload_n 229 dL_law_228 rfl rfl ?_
  refine z_iload_n 230 dL_law_229 rfl rfl ?_
  refine z_iconst 231 dL_law_230 rfl ?_
  refine z_iadd 232 dL_law_231 rfl ?_
  refine z_iald 233 dL_law_232 rfl (by first | with_reducible assumption | with_reducible exact zup_same _ _ _) (by omega) (by first | omega | exact zr_b _ | exact zr_and _ _ | exact zr_or _ _ | exact zr_shl _ _) ?_
  refine z_cV1 236 dL_law_233 rfl kX10_about zw_899 (Nat.le_of_ble_eq_true rfl) ⟨Nat.le_refl _, Nat.le_refl _⟩ (by first | with_reducible assumption | with_reducible exact zup_same _ _ _) ?_
  refine mc _ (fun h2 hI2 => ?_)
  refine z_icmp_eq 941 239 dL_law_236 (by decide) rfl (by first | omega | exact zr_b _ | exact zr_and _ _ | exact zr_or _ _ | exact zr_shl _ _) (by first | omega | exact zr_b _ | exact zr_and _ _ | exact zr_or _ _ | exact zr_shl _ _) (fun c236 => ?_) (fun c236 => ?_)
  · exact k h2 hI2
  · exact absurd rfl c236
theorem lc_person (hI : zINV L f h) (hi : 0 ≤ i ∧ i + 4 ≤ (L : Int)) (hL : L ≤ 2048) (hf : ∀ j : Int, 0 ≤ j → j < L → -2147483648 ≤ f j ∧ f j ≤ 2147483647) (k : ∀ h2 : zH, zINV L f h2 → Z (d + 15) (mL nm) zml 941 [some (vR 0), some (vR 2), some (vR 112), some (vI i)] [] h2 Q) : Z (d + 15) (mL nm) zml 241 [some (vR 0), some (vR 2), some (vR 112), some (vI i)] [] h Q := by
  have hs := hI.1
  obtain ⟨fs0, ho2⟩ := hI.ob2
  have r1 := hf (i + 1) (by omega) (by omega)
  have r2 := hf (i + 2) (by omega) (by omega)
  have r3 := hf (i + 3) (by omega) (by omega)
  refine z_aload_n 242 dL_law_241 rfl rfl ?_
  refine z_aload_n 243 dL_law_242 rfl rfl ?_
  refine z_iload_n 244 dL_law_243 rfl rfl ?_
  refine z_iconst 245 dL_law_244 rfl ?_
  refine z_iadd 246 dL_law_245 rfl ?_
  refine z_iald 247 dL_law_246 rfl (by first | with_reducible assumption | with_reducible exact zup_same _ _ _) (by omega) (by first | omega | exact zr_b _ | exact zr_and _ _ | exact zr_or _ _ | exact zr_shl _ _) ?_
  refine z_aload_n 248 dL_law_247 rfl rfl ?_
  refine z_iload_n 249 dL_law_248 rfl rfl ?_
  refine z_iconst 250 dL_law_249 rfl ?_
  refine z_iadd 251 dL_law_250 rfl ?_
  refine z_iald 252 dL_law_251 rfl (by first | with_reducible assumption | with_reducible exact zup_same _ _ _) (by omega) (by first | omega | exact zr_b _ | exact zr_and _ _ | exact zr_or _ _ | exact zr_shl _ _) ?_
  refine z_cV2 255 dL_law_252 rfl kX9_person zw_478 (Nat.le_of_ble_eq_true rfl) ⟨Nat.le_refl _, Nat.le_refl _⟩ (by first | with_reducible assumption | with_reducible exact zup_same _ _ _) ?_
  refine p_person hI r1 r2 _ (fun a h1 fs1 ra hs1 ho1 mc => ?_)
  refine z_aload_n 256 dL_law_255 rfl rfl ?_
  refine z_aload_n 257 dL_law_256 rfl rfl ?_
  refine z_iload_n 258 dL_law_257 rfl rfl ?_
  refine z_iconst 259 dL_law_258 rfl ?_
  refine z_iadd 260 dL_law_259 rfl ?_
  refine z_iald 261 dL_law_260 rfl (by first | with_reducible assumption | with_reducible exact zup_same _ _ _) (by omega) (by first | omega | exact zr_b _ | exact zr_and _ _ | exact zr_or _ _ | exact zr_shl _ _) ?_
  refine z_aload_n 262 dL_law_261 rfl rfl ?_
  refine z_iload_n 263 dL_law_262 rfl rfl ?_
  refine z_iconst 264 dL_law_263 rfl ?_
  refine z_iadd 265 dL_law_264 rfl ?_
  refine z_iald 266 dL_law_265 rfl (by first | with_reducible assumption | with_reducible exact zup_same _ _ _) (by omega) (by first | omega | exact zr_b _ | exact zr_and _ _ | exact zr_or _ _ | exact zr_shl _ _) ?_
  refine z_cV2 269 dL_law_266 rfl kX10_person zw_935 (Nat.le_of_ble_eq_true rfl) ⟨Nat.le_refl _, Nat.le_refl _⟩ (by first | with_reducible assumption | with_reducible exact zup_same _ _ _) ?_
  refine mc _ (fun h2 hI2 => ?_)
  refine z_icmp_eq 941 272 dL_law_269 (by decide) rfl (by first | omega | exact zr_b _ | exact zr_and _ _ | exact zr_or _ _ | exact zr_shl _ _) (by first | omega | exact zr_b _ | exact zr_and _ _ | exact zr_or _ _ | exact zr_shl _ _) (fun c269 => ?_) (fun c269 => ?_)
  · exact k h2 hI2
  · exact absurd rfl c269
theorem lc_plan (hI : zINV L f h) (hi : 0 ≤ i ∧ i + 4 ≤ (L : Int)) (hL : L ≤ 2048) (hf : ∀ j : Int, 0 ≤ j → j < L → -2147483648 ≤ f j ∧ f j ≤ 2147483647) (k : ∀ h2 : zH, zINV L f h2 → Z (d + 15) (mL nm) zml 941 [some (vR 0), some (vR 2), some (vR 112), some (vI i)] [] h2 Q) : Z (d + 15) (mL nm) zml 274 [some (vR 0), some (vR 2), some (vR 112), some (vI i)] [] h Q := by
  have hs := hI.1
  obtain ⟨fs0, ho2⟩ := hI.ob2
  have r1 := hf (i + 1) (by omega) (by omega)
  have r2 := hf (i + 2) (by omega) (by omega)
  have r3 := hf (i + 3) (by omega) (by omega)
  refine z_aload_n 275 dL_law_274 rfl rfl ?_
  refine z_aload_n 276 dL_law_275 rfl rfl ?_
  refine z_iload_n 277 dL_law_276 rfl rfl ?_
  refine z_iconst 278 dL_law_277 rfl ?_
  refine z_iadd 279 dL_law_278 rfl ?_
  refine z_iald 280 dL_law_279 rfl (by first | with_reducible assumption | with_reducible exact zup_same _ _ _) (by omega) (by first | omega | exact zr_b _ | exact zr_and _ _ | exact zr_or _ _ | exact zr_shl _ _) ?_
  refine z_cV1 283 dL_law_280 rfl kX9_plan zw_509 (Nat.le_of_ble_eq_true rfl) ⟨Nat.le_refl _, Nat.le_refl _⟩ (by first | with_reducible assumption | with_reducible exact zup_same _ _ _) ?_
  refine p_plan hI r1 _ (fun a h1 fs1 ra hs1 ho1 mc => ?_)
  refine z_aload_n 284 dL_law_283 rfl rfl ?_
  refine z_aload_n 285 dL_law_284 rfl rfl ?_
  refine z_iload_n 286 dL_law_285 rfl rfl ?_
  refine z_iconst 287 dL_law_286 rfl ?_
  refine z_iadd 288 dL_law_287 rfl ?_
  refine z_iald 289 dL_law_288 rfl (by first | with_reducible assumption | with_reducible exact zup_same _ _ _) (by omega) (by first | omega | exact zr_b _ | exact zr_and _ _ | exact zr_or _ _ | exact zr_shl _ _) ?_
  refine z_cV1 292 dL_law_289 rfl kX10_plan zw_959 (Nat.le_of_ble_eq_true rfl) ⟨Nat.le_refl _, Nat.le_refl _⟩ (by first | with_reducible assumption | with_reducible exact zup_same _ _ _) ?_
  refine mc _ (fun h2 hI2 => ?_)
  refine z_icmp_eq 941 295 dL_law_292 (by decide) rfl (by first | omega | exact zr_b _ | exact zr_and _ _ | exact zr_or _ _ | exact zr_shl _ _) (by first | omega | exact zr_b _ | exact zr_and _ _ | exact zr_or _ _ | exact zr_shl _ _) (fun c292 => ?_) (fun c292 => ?_)
  · exact k h2 hI2
  · exact absurd rfl c292
theorem lc_knows (hI : zINV L f h) (hi : 0 ≤ i ∧ i + 4 ≤ (L : Int)) (hL : L ≤ 2048) (hf : ∀ j : Int, 0 ≤ j → j < L → -2147483648 ≤ f j ∧ f j ≤ 2147483647) (k : ∀ h2 : zH, zINV L f h2 → Z (d + 15) (mL nm) zml 941 [some (vR 0), some (vR 2), some (vR 112), some (vI i)] [] h2 Q) : Z (d + 15) (mL nm) zml 297 [some (vR 0), some (vR 2), some (vR 112), some (vI i)] [] h Q := by
  have hs := hI.1
  obtain ⟨fs0, ho2⟩ := hI.ob2
  have r1 := hf (i + 1) (by omega) (by omega)
  have r2 := hf (i + 2) (by omega) (by omega)
  have r3 := hf (i + 3) (by omega) (by omega)
  refine z_aload_n 298 dL_law_297 rfl rfl ?_
  refine z_aload_n 299 dL_law_298 rfl rfl ?_
  refine z_iload_n 300 dL_law_299 rfl rfl ?_
  refine z_iconst 301 dL_law_300 rfl ?_
  refine z_iadd 302 dL_law_301 rfl ?_
  refine z_iald 303 dL_law_302 rfl (by first | with_reducible assumption | with_reducible exact zup_same _ _ _) (by omega) (by first | omega | exact zr_b _ | exact zr_and _ _ | exact zr_or _ _ | exact zr_shl _ _) ?_
  refine z_aload_n 304 dL_law_303 rfl rfl ?_
  refine z_iload_n 305 dL_law_304 rfl rfl ?_
  refine z_iconst 306 dL_law_305 rfl ?_
  refine z_iadd 307 dL_law_306 rfl ?_
  refine z_iald 308 dL_law_307 rfl (by first | with_reducible assumption | with_reducible exact zup_same _ _ _) (by omega) (by first | omega | exact zr_b _ | exact zr_and _ _ | exact zr_or _ _ | exact zr_shl _ _) ?_
  refine z_cV2 311 dL_law_308 rfl kX9_knows zw_518 (Nat.le_of_ble_eq_true rfl) ⟨Nat.le_refl _, Nat.le_refl _⟩ (by first | with_reducible assumption | with_reducible exact zup_same _ _ _) ?_
  refine p_knows hI r1 r2 _ (fun a h1 fs1 ra hs1 ho1 mc => ?_)
  refine z_aload_n 312 dL_law_311 rfl rfl ?_
  refine z_aload_n 313 dL_law_312 rfl rfl ?_
  refine z_iload_n 314 dL_law_313 rfl rfl ?_
  refine z_iconst 315 dL_law_314 rfl ?_
  refine z_iadd 316 dL_law_315 rfl ?_
  refine z_iald 317 dL_law_316 rfl (by first | with_reducible assumption | with_reducible exact zup_same _ _ _) (by omega) (by first | omega | exact zr_b _ | exact zr_and _ _ | exact zr_or _ _ | exact zr_shl _ _) ?_
  refine z_aload_n 318 dL_law_317 rfl rfl ?_
  refine z_iload_n 319 dL_law_318 rfl rfl ?_
  refine z_iconst 320 dL_law_319 rfl ?_
  refine z_iadd 321 dL_law_320 rfl ?_
  refine z_iald 322 dL_law_321 rfl (by first | with_reducible assumption | with_reducible exact zup_same _ _ _) (by omega) (by first | omega | exact zr_b _ | exact zr_and _ _ | exact zr_or _ _ | exact zr_shl _ _) ?_
  refine z_cV2 325 dL_law_322 rfl kX10_knows zw_963 (Nat.le_of_ble_eq_true rfl) ⟨Nat.le_refl _, Nat.le_refl _⟩ (by first | with_reducible assumption | with_reducible exact zup_same _ _ _) ?_
  refine mc _ (fun h2 hI2 => ?_)
  refine z_icmp_eq 941 328 dL_law_325 (by decide) rfl (by first | omega | exact zr_b _ | exact zr_and _ _ | exact zr_or _ _ | exact zr_shl _ _) (by first | omega | exact zr_b _ | exact zr_and _ _ | exact zr_or _ _ | exact zr_shl _ _) (fun c325 => ?_) (fun c325 => ?_)
  · exact k h2 hI2
  · exact absurd rfl c325
theorem lc_last (hI : zINV L f h) (hi : 0 ≤ i ∧ i + 4 ≤ (L : Int)) (hL : L ≤ 2048) (hf : ∀ j : Int, 0 ≤ j → j < L → -2147483648 ≤ f j ∧ f j ≤ 2147483647) (k : ∀ h2 : zH, zINV L f h2 → Z (d + 15) (mL nm) zml 941 [some (vR 0), some (vR 2), some (vR 112), some (vI i)] [] h2 Q) : Z (d + 15) (mL nm) zml 330 [some (vR 0), some (vR 2), some (vR 112), some (vI i)] [] h Q := by
  have hs := hI.1
  obtain ⟨fs0, ho2⟩ := hI.ob2
  have r1 := hf (i + 1) (by omega) (by omega)
  have r2 := hf (i + 2) (by omega) (by omega)
  have r3 := hf (i + 3) (by omega) (by omega)
  refine z_aload_n 331 dL_law_330 rfl rfl ?_
  refine z_aload_n 332 dL_law_331 rfl rfl ?_
  refine z_iload_n 333 dL_law_332 rfl rfl ?_
  refine z_iconst 334 dL_law_333 rfl ?_
  refine z_iadd 335 dL_law_334 rfl ?_
  refine z_iald 336 dL_law_335 rfl (by first | with_reducible assumption | with_reducible exact zup_same _ _ _) (by omega) (by first | omega | exact zr_b _ | exact zr_and _ _ | exact zr_or _ _ | exact zr_shl _ _) ?_
  refine z_cV1 339 dL_law_336 rfl kX9_last zw_526 (Nat.le_of_ble_eq_true rfl) ⟨Nat.le_refl _, Nat.le_refl _⟩ (by first | with_reducible assumption | with_reducible exact zup_same _ _ _) ?_
  refine p_last hI r1 _ (fun a h1 fs1 ra hs1 ho1 mc => ?_)
  refine z_aload_n 340 dL_law_339 rfl rfl ?_
  refine z_aload_n 341 dL_law_340 rfl rfl ?_
  refine z_iload_n 342 dL_law_341 rfl rfl ?_
  refine z_iconst 343 dL_law_342 rfl ?_
  refine z_iadd 344 dL_law_343 rfl ?_
  refine z_iald 345 dL_law_344 rfl (by first | with_reducible assumption | with_reducible exact zup_same _ _ _) (by omega) (by first | omega | exact zr_b _ | exact zr_and _ _ | exact zr_or _ _ | exact zr_shl _ _) ?_
  refine z_cV1 348 dL_law_345 rfl kX10_last zw_967 (Nat.le_of_ble_eq_true rfl) ⟨Nat.le_refl _, Nat.le_refl _⟩ (by first | with_reducible assumption | with_reducible exact zup_same _ _ _) ?_
  refine mc _ (fun h2 hI2 => ?_)
  refine z_icmp_eq 941 351 dL_law_348 (by decide) rfl (by first | omega | exact zr_b _ | exact zr_and _ _ | exact zr_or _ _ | exact zr_shl _ _) (by first | omega | exact zr_b _ | exact zr_and _ _ | exact zr_or _ _ | exact zr_shl _ _) (fun c348 => ?_) (fun c348 => ?_)
  · exact k h2 hI2
  · exact absurd rfl c348
theorem lc_move (hI : zINV L f h) (hi : 0 ≤ i ∧ i + 4 ≤ (L : Int)) (hL : L ≤ 2048) (hf : ∀ j : Int, 0 ≤ j → j < L → -2147483648 ≤ f j ∧ f j ≤ 2147483647) (k : ∀ h2 : zH, zINV L f h2 → Z (d + 15) (mL nm) zml 941 [some (vR 0), some (vR 2), some (vR 112), some (vI i)] [] h2 Q) : Z (d + 15) (mL nm) zml 353 [some (vR 0), some (vR 2), some (vR 112), some (vI i)] [] h Q := by
  have hs := hI.1
  obtain ⟨fs0, ho2⟩ := hI.ob2
  have r1 := hf (i + 1) (by omega) (by omega)
  have r2 := hf (i + 2) (by omega) (by omega)
  have r3 := hf (i + 3) (by omega) (by omega)
  refine z_aload_n 354 dL_law_353 rfl rfl ?_
  refine z_aload_n 355 dL_law_354 rfl rfl ?_
  refine z_iload_n 356 dL_law_355 rfl rfl ?_
  refine z_iconst 357 dL_law_356 rfl ?_
  refine z_iadd 358 dL_law_357 rfl ?_
  refine z_iald 359 dL_law_358 rfl (by first | with_reducible assumption | with_reducible exact zup_same _ _ _) (by omega) (by first | omega | exact zr_b _ | exact zr_and _ _ | exact zr_or _ _ | exact zr_shl _ _) ?_
  refine z_aload_n 360 dL_law_359 rfl rfl ?_
  refine z_iload_n 361 dL_law_360 rfl rfl ?_
  refine z_iconst 362 dL_law_361 rfl ?_
  refine z_iadd 363 dL_law_362 rfl ?_
  refine z_iald 364 dL_law_363 rfl (by first | with_reducible assumption | with_reducible exact zup_same _ _ _) (by omega) (by first | omega | exact zr_b _ | exact zr_and _ _ | exact zr_or _ _ | exact zr_shl _ _) ?_
  refine z_cV2 367 dL_law_364 rfl kX9_move zw_531 (Nat.le_of_ble_eq_true rfl) ⟨Nat.le_refl _, Nat.le_refl _⟩ (by first | with_reducible assumption | with_reducible exact zup_same _ _ _) ?_
  refine p_move hI r1 r2 _ (fun a h1 fs1 ra hs1 ho1 mc => ?_)
  refine z_aload_n 368 dL_law_367 rfl rfl ?_
  refine z_aload_n 369 dL_law_368 rfl rfl ?_
  refine z_iload_n 370 dL_law_369 rfl rfl ?_
  refine z_iconst 371 dL_law_370 rfl ?_
  refine z_iadd 372 dL_law_371 rfl ?_
  refine z_iald 373 dL_law_372 rfl (by first | with_reducible assumption | with_reducible exact zup_same _ _ _) (by omega) (by first | omega | exact zr_b _ | exact zr_and _ _ | exact zr_or _ _ | exact zr_shl _ _) ?_
  refine z_aload_n 374 dL_law_373 rfl rfl ?_
  refine z_iload_n 375 dL_law_374 rfl rfl ?_
  refine z_iconst 376 dL_law_375 rfl ?_
  refine z_iadd 377 dL_law_376 rfl ?_
  refine z_iald 378 dL_law_377 rfl (by first | with_reducible assumption | with_reducible exact zup_same _ _ _) (by omega) (by first | omega | exact zr_b _ | exact zr_and _ _ | exact zr_or _ _ | exact zr_shl _ _) ?_
  refine z_cV2 381 dL_law_378 rfl kX10_move zw_971 (Nat.le_of_ble_eq_true rfl) ⟨Nat.le_refl _, Nat.le_refl _⟩ (by first | with_reducible assumption | with_reducible exact zup_same _ _ _) ?_
  refine mc _ (fun h2 hI2 => ?_)
  refine z_icmp_eq 941 384 dL_law_381 (by decide) rfl (by first | omega | exact zr_b _ | exact zr_and _ _ | exact zr_or _ _ | exact zr_shl _ _) (by first | omega | exact zr_b _ | exact zr_and _ _ | exact zr_or _ _ | exact zr_shl _ _) (fun c381 => ?_) (fun c381 => ?_)
  · exact k h2 hI2
  · exact absurd rfl c381
theorem lc_change (hI : zINV L f h) (hi : 0 ≤ i ∧ i + 4 ≤ (L : Int)) (hL : L ≤ 2048) (hf : ∀ j : Int, 0 ≤ j → j < L → -2147483648 ≤ f j ∧ f j ≤ 2147483647) (k : ∀ h2 : zH, zINV L f h2 → Z (d + 15) (mL nm) zml 941 [some (vR 0), some (vR 2), some (vR 112), some (vI i)] [] h2 Q) : Z (d + 15) (mL nm) zml 386 [some (vR 0), some (vR 2), some (vR 112), some (vI i)] [] h Q := by
  have hs := hI.1
  obtain ⟨fs0, ho2⟩ := hI.ob2
  have r1 := hf (i + 1) (by omega) (by omega)
  have r2 := hf (i + 2) (by omega) (by omega)
  have r3 := hf (i + 3) (by omega) (by omega)
  refine z_aload_n 387 dL_law_386 rfl rfl ?_
  refine z_aload_n 388 dL_law_387 rfl rfl ?_
  refine z_iload_n 389 dL_law_388 rfl rfl ?_
  refine z_iconst 390 dL_law_389 rfl ?_
  refine z_iadd 391 dL_law_390 rfl ?_
  refine z_iald 392 dL_law_391 rfl (by first | with_reducible assumption | with_reducible exact zup_same _ _ _) (by omega) (by first | omega | exact zr_b _ | exact zr_and _ _ | exact zr_or _ _ | exact zr_shl _ _) ?_
  refine z_cV1 395 dL_law_392 rfl kX9_change zw_564 (Nat.le_of_ble_eq_true rfl) ⟨Nat.le_refl _, Nat.le_refl _⟩ (by first | with_reducible assumption | with_reducible exact zup_same _ _ _) ?_
  refine p_change hI r1 _ (fun a h1 fs1 ra hs1 ho1 mc => ?_)
  refine z_aload_n 396 dL_law_395 rfl rfl ?_
  refine z_aload_n 397 dL_law_396 rfl rfl ?_
  refine z_iload_n 398 dL_law_397 rfl rfl ?_
  refine z_iconst 399 dL_law_398 rfl ?_
  refine z_iadd 400 dL_law_399 rfl ?_
  refine z_iald 401 dL_law_400 rfl (by first | with_reducible assumption | with_reducible exact zup_same _ _ _) (by omega) (by first | omega | exact zr_b _ | exact zr_and _ _ | exact zr_or _ _ | exact zr_shl _ _) ?_
  refine z_cV1 404 dL_law_401 rfl kX10_change zw_991 (Nat.le_of_ble_eq_true rfl) ⟨Nat.le_refl _, Nat.le_refl _⟩ (by first | with_reducible assumption | with_reducible exact zup_same _ _ _) ?_
  refine mc _ (fun h2 hI2 => ?_)
  refine z_icmp_eq 941 407 dL_law_404 (by decide) rfl (by first | omega | exact zr_b _ | exact zr_and _ _ | exact zr_or _ _ | exact zr_shl _ _) (by first | omega | exact zr_b _ | exact zr_and _ _ | exact zr_or _ _ | exact zr_shl _ _) (fun c404 => ?_) (fun c404 => ?_)
  · exact k h2 hI2
  · exact absurd rfl c404
theorem lc_quicken (hI : zINV L f h) (hi : 0 ≤ i ∧ i + 4 ≤ (L : Int)) (hL : L ≤ 2048) (hf : ∀ j : Int, 0 ≤ j → j < L → -2147483648 ≤ f j ∧ f j ≤ 2147483647) (k : ∀ h2 : zH, zINV L f h2 → Z (d + 15) (mL nm) zml 941 [some (vR 0), some (vR 2), some (vR 112), some (vI i)] [] h2 Q) : Z (d + 15) (mL nm) zml 409 [some (vR 0), some (vR 2), some (vR 112), some (vI i)] [] h Q := by
  have hs := hI.1
  obtain ⟨fs0, ho2⟩ := hI.ob2
  have r1 := hf (i + 1) (by omega) (by omega)
  have r2 := hf (i + 2) (by omega) (by omega)
  have r3 := hf (i + 3) (by omega) (by omega)
  refine z_aload_n 410 dL_law_409 rfl rfl ?_
  refine z_cV0 413 dL_law_410 rfl kX9_quicken zw_575 (Nat.le_of_ble_eq_true rfl) ⟨Nat.le_refl _, Nat.le_refl _⟩ (by first | with_reducible assumption | with_reducible exact zup_same _ _ _) ?_
  refine p_quicken hI _ (fun a h1 fs1 ra hs1 ho1 mc => ?_)
  refine z_aload_n 414 dL_law_413 rfl rfl ?_
  refine z_cV0 417 dL_law_414 rfl kX10_quicken zw_1005 (Nat.le_of_ble_eq_true rfl) ⟨Nat.le_refl _, Nat.le_refl _⟩ (by first | with_reducible assumption | with_reducible exact zup_same _ _ _) ?_
  refine mc _ (fun h2 hI2 => ?_)
  refine z_icmp_eq 941 420 dL_law_417 (by decide) rfl (by first | omega | exact zr_b _ | exact zr_and _ _ | exact zr_or _ _ | exact zr_shl _ _) (by first | omega | exact zr_b _ | exact zr_and _ _ | exact zr_or _ _ | exact zr_shl _ _) (fun c417 => ?_) (fun c417 => ?_)
  · exact k h2 hI2
  · exact absurd rfl c417
theorem lc_set (hI : zINV L f h) (hi : 0 ≤ i ∧ i + 4 ≤ (L : Int)) (hL : L ≤ 2048) (hf : ∀ j : Int, 0 ≤ j → j < L → -2147483648 ≤ f j ∧ f j ≤ 2147483647) (k : ∀ h2 : zH, zINV L f h2 → Z (d + 15) (mL nm) zml 941 [some (vR 0), some (vR 2), some (vR 112), some (vI i)] [] h2 Q) : Z (d + 15) (mL nm) zml 422 [some (vR 0), some (vR 2), some (vR 112), some (vI i)] [] h Q := by
  have hs := hI.1
  obtain ⟨fs0, ho2⟩ := hI.ob2
  have r1 := hf (i + 1) (by omega) (by omega)
  have r2 := hf (i + 2) (by omega) (by omega)
  have r3 := hf (i + 3) (by omega) (by omega)
  refine z_aload_n 423 dL_law_422 rfl rfl ?_
  refine z_aload_n 424 dL_law_423 rfl rfl ?_
  refine z_iload_n 425 dL_law_424 rfl rfl ?_
  refine z_iconst 426 dL_law_425 rfl ?_
  refine z_iadd 427 dL_law_426 rfl ?_
  refine z_iald 428 dL_law_427 rfl (by first | with_reducible assumption | with_reducible exact zup_same _ _ _) (by omega) (by first | omega | exact zr_b _ | exact zr_and _ _ | exact zr_or _ _ | exact zr_shl _ _) ?_
  refine z_aload_n 429 dL_law_428 rfl rfl ?_
  refine z_iload_n 430 dL_law_429 rfl rfl ?_
  refine z_iconst 431 dL_law_430 rfl ?_
  refine z_iadd 432 dL_law_431 rfl ?_
  refine z_iald 433 dL_law_432 rfl (by first | with_reducible assumption | with_reducible exact zup_same _ _ _) (by omega) (by first | omega | exact zr_b _ | exact zr_and _ _ | exact zr_or _ _ | exact zr_shl _ _) ?_
  refine z_aload_n 434 dL_law_433 rfl rfl ?_
  refine z_iload_n 435 dL_law_434 rfl rfl ?_
  refine z_iconst 436 dL_law_435 rfl ?_
  refine z_iadd 437 dL_law_436 rfl ?_
  refine z_iald 438 dL_law_437 rfl (by first | with_reducible assumption | with_reducible exact zup_same _ _ _) (by omega) (by first | omega | exact zr_b _ | exact zr_and _ _ | exact zr_or _ _ | exact zr_shl _ _) ?_
  refine z_cV3 441 dL_law_438 rfl kX9_set zw_579 (Nat.le_of_ble_eq_true rfl) ⟨Nat.le_refl _, Nat.le_refl _⟩ (by first | with_reducible assumption | with_reducible exact zup_same _ _ _) ?_
  refine p_set hI r1 r2 r3 _ (fun a h1 fs1 ra hs1 ho1 mc => ?_)
  refine z_aload_n 442 dL_law_441 rfl rfl ?_
  refine z_aload_n 443 dL_law_442 rfl rfl ?_
  refine z_iload_n 444 dL_law_443 rfl rfl ?_
  refine z_iconst 445 dL_law_444 rfl ?_
  refine z_iadd 446 dL_law_445 rfl ?_
  refine z_iald 447 dL_law_446 rfl (by first | with_reducible assumption | with_reducible exact zup_same _ _ _) (by omega) (by first | omega | exact zr_b _ | exact zr_and _ _ | exact zr_or _ _ | exact zr_shl _ _) ?_
  refine z_aload_n 448 dL_law_447 rfl rfl ?_
  refine z_iload_n 449 dL_law_448 rfl rfl ?_
  refine z_iconst 450 dL_law_449 rfl ?_
  refine z_iadd 451 dL_law_450 rfl ?_
  refine z_iald 452 dL_law_451 rfl (by first | with_reducible assumption | with_reducible exact zup_same _ _ _) (by omega) (by first | omega | exact zr_b _ | exact zr_and _ _ | exact zr_or _ _ | exact zr_shl _ _) ?_
  refine z_aload_n 453 dL_law_452 rfl rfl ?_
  refine z_iload_n 454 dL_law_453 rfl rfl ?_
  refine z_iconst 455 dL_law_454 rfl ?_
  refine z_iadd 456 dL_law_455 rfl ?_
  refine z_iald 457 dL_law_456 rfl (by first | with_reducible assumption | with_reducible exact zup_same _ _ _) (by omega) (by first | omega | exact zr_b _ | exact zr_and _ _ | exact zr_or _ _ | exact zr_shl _ _) ?_
  refine z_cV3 460 dL_law_457 rfl kX10_set zw_1009 (Nat.le_of_ble_eq_true rfl) ⟨Nat.le_refl _, Nat.le_refl _⟩ (by first | with_reducible assumption | with_reducible exact zup_same _ _ _) ?_
  refine mc _ (fun h2 hI2 => ?_)
  refine z_icmp_eq 941 463 dL_law_460 (by decide) rfl (by first | omega | exact zr_b _ | exact zr_and _ _ | exact zr_or _ _ | exact zr_shl _ _) (by first | omega | exact zr_b _ | exact zr_and _ _ | exact zr_or _ _ | exact zr_shl _ _) (fun c460 => ?_) (fun c460 => ?_)
  · exact k h2 hI2
  · exact absurd rfl c460
theorem lc_undo (hI : zINV L f h) (hi : 0 ≤ i ∧ i + 4 ≤ (L : Int)) (hL : L ≤ 2048) (hf : ∀ j : Int, 0 ≤ j → j < L → -2147483648 ≤ f j ∧ f j ≤ 2147483647) (k : ∀ h2 : zH, zINV L f h2 → Z (d + 15) (mL nm) zml 941 [some (vR 0), some (vR 2), some (vR 112), some (vI i)] [] h2 Q) : Z (d + 15) (mL nm) zml 465 [some (vR 0), some (vR 2), some (vR 112), some (vI i)] [] h Q := by
  have hs := hI.1
  obtain ⟨fs0, ho2⟩ := hI.ob2
  have r1 := hf (i + 1) (by omega) (by omega)
  have r2 := hf (i + 2) (by omega) (by omega)
  have r3 := hf (i + 3) (by omega) (by omega)
  refine z_aload_n 466 dL_law_465 rfl rfl ?_
  refine z_cV0 469 dL_law_466 rfl kX9_undo zw_594 (Nat.le_of_ble_eq_true rfl) ⟨Nat.le_refl _, Nat.le_refl _⟩ (by first | with_reducible assumption | with_reducible exact zup_same _ _ _) ?_
  refine p_undo hI _ (fun a h1 fs1 ra hs1 ho1 mc => ?_)
  refine z_aload_n 470 dL_law_469 rfl rfl ?_
  refine z_cV0 473 dL_law_470 rfl kX10_undo zw_1014 (Nat.le_of_ble_eq_true rfl) ⟨Nat.le_refl _, Nat.le_refl _⟩ (by first | with_reducible assumption | with_reducible exact zup_same _ _ _) ?_
  refine mc _ (fun h2 hI2 => ?_)
  refine z_icmp_eq 941 476 dL_law_473 (by decide) rfl (by first | omega | exact zr_b _ | exact zr_and _ _ | exact zr_or _ _ | exact zr_shl _ _) (by first | omega | exact zr_b _ | exact zr_and _ _ | exact zr_or _ _ | exact zr_shl _ _) (fun c473 => ?_) (fun c473 => ?_)
  · exact k h2 hI2
  · exact absurd rfl c473
theorem lc_number (hI : zINV L f h) (hi : 0 ≤ i ∧ i + 4 ≤ (L : Int)) (hL : L ≤ 2048) (hf : ∀ j : Int, 0 ≤ j → j < L → -2147483648 ≤ f j ∧ f j ≤ 2147483647) (k : ∀ h2 : zH, zINV L f h2 → Z (d + 15) (mL nm) zml 941 [some (vR 0), some (vR 2), some (vR 112), some (vI i)] [] h2 Q) : Z (d + 15) (mL nm) zml 478 [some (vR 0), some (vR 2), some (vR 112), some (vI i)] [] h Q := by
  have hs := hI.1
  obtain ⟨fs0, ho2⟩ := hI.ob2
  have r1 := hf (i + 1) (by omega) (by omega)
  have r2 := hf (i + 2) (by omega) (by omega)
  have r3 := hf (i + 3) (by omega) (by omega)
  refine z_aload_n 479 dL_law_478 rfl rfl ?_
  refine z_aload_n 480 dL_law_479 rfl rfl ?_
  refine z_iload_n 481 dL_law_480 rfl rfl ?_
  refine z_iconst 482 dL_law_481 rfl ?_
  refine z_iadd 483 dL_law_482 rfl ?_
  refine z_iald 484 dL_law_483 rfl (by first | with_reducible assumption | with_reducible exact zup_same _ _ _) (by omega) (by first | omega | exact zr_b _ | exact zr_and _ _ | exact zr_or _ _ | exact zr_shl _ _) ?_
  refine z_aload_n 485 dL_law_484 rfl rfl ?_
  refine z_iload_n 486 dL_law_485 rfl rfl ?_
  refine z_iconst 487 dL_law_486 rfl ?_
  refine z_iadd 488 dL_law_487 rfl ?_
  refine z_iald 489 dL_law_488 rfl (by first | with_reducible assumption | with_reducible exact zup_same _ _ _) (by omega) (by first | omega | exact zr_b _ | exact zr_and _ _ | exact zr_or _ _ | exact zr_shl _ _) ?_
  refine z_cV2 492 dL_law_489 rfl kX9_number zw_606 (Nat.le_of_ble_eq_true rfl) ⟨Nat.le_refl _, Nat.le_refl _⟩ (by first | with_reducible assumption | with_reducible exact zup_same _ _ _) ?_
  refine p_number hI r1 r2 _ (fun a h1 fs1 hs1 ho1 mc => ?_)
  refine z_aload_n 493 dL_law_492 rfl rfl ?_
  refine z_aload_n 494 dL_law_493 rfl rfl ?_
  refine z_iload_n 495 dL_law_494 rfl rfl ?_
  refine z_iconst 496 dL_law_495 rfl ?_
  refine z_iadd 497 dL_law_496 rfl ?_
  refine z_iald 498 dL_law_497 rfl (by first | with_reducible assumption | with_reducible exact zup_same _ _ _) (by omega) (by first | omega | exact zr_b _ | exact zr_and _ _ | exact zr_or _ _ | exact zr_shl _ _) ?_
  refine z_aload_n 499 dL_law_498 rfl rfl ?_
  refine z_iload_n 500 dL_law_499 rfl rfl ?_
  refine z_iconst 501 dL_law_500 rfl ?_
  refine z_iadd 502 dL_law_501 rfl ?_
  refine z_iald 503 dL_law_502 rfl (by first | with_reducible assumption | with_reducible exact zup_same _ _ _) (by omega) (by first | omega | exact zr_b _ | exact zr_and _ _ | exact zr_or _ _ | exact zr_shl _ _) ?_
  refine z_cV2 506 dL_law_503 rfl kX10_number zw_1018 (Nat.le_of_ble_eq_true rfl) ⟨Nat.le_refl _, Nat.le_refl _⟩ (by first | with_reducible assumption | with_reducible exact zup_same _ _ _) ?_
  refine mc _ (fun h2 hI2 => ?_)
  refine z_norm2 ?_
  refine z_lcmp 507 dL_law_506 rfl (by exact zn_r _) (by exact zn_r _) ?_
  refine z_if_eq 941 510 dL_law_507 (by decide) rfl (by exact zcmp_r _ _) (fun c507 => ?_) (fun c507 => ?_)
  · try replace c507 := zb_0 c507
    exact k h2 hI2
  · exact absurd (zcmp_s _) c507
theorem lc_soon (hI : zINV L f h) (hi : 0 ≤ i ∧ i + 4 ≤ (L : Int)) (hL : L ≤ 2048) (hf : ∀ j : Int, 0 ≤ j → j < L → -2147483648 ≤ f j ∧ f j ≤ 2147483647) (k : ∀ h2 : zH, zINV L f h2 → Z (d + 15) (mL nm) zml 941 [some (vR 0), some (vR 2), some (vR 112), some (vI i)] [] h2 Q) : Z (d + 15) (mL nm) zml 512 [some (vR 0), some (vR 2), some (vR 112), some (vI i)] [] h Q := by
  have hs := hI.1
  obtain ⟨fs0, ho2⟩ := hI.ob2
  have r1 := hf (i + 1) (by omega) (by omega)
  have r2 := hf (i + 2) (by omega) (by omega)
  have r3 := hf (i + 3) (by omega) (by omega)
  refine z_aload_n 513 dL_law_512 rfl rfl ?_
  refine z_aload_n 514 dL_law_513 rfl rfl ?_
  refine z_iload_n 515 dL_law_514 rfl rfl ?_
  refine z_iconst 516 dL_law_515 rfl ?_
  refine z_iadd 517 dL_law_516 rfl ?_
  refine z_iald 518 dL_law_517 rfl (by first | with_reducible assumption | with_reducible exact zup_same _ _ _) (by omega) (by first | omega | exact zr_b _ | exact zr_and _ _ | exact zr_or _ _ | exact zr_shl _ _) ?_
  refine z_aload_n 519 dL_law_518 rfl rfl ?_
  refine z_iload_n 520 dL_law_519 rfl rfl ?_
  refine z_iconst 521 dL_law_520 rfl ?_
  refine z_iadd 522 dL_law_521 rfl ?_
  refine z_iald 523 dL_law_522 rfl (by first | with_reducible assumption | with_reducible exact zup_same _ _ _) (by omega) (by first | omega | exact zr_b _ | exact zr_and _ _ | exact zr_or _ _ | exact zr_shl _ _) ?_
  refine z_cV2 526 dL_law_523 rfl kX9_soon zw_621 (Nat.le_of_ble_eq_true rfl) ⟨Nat.le_refl _, Nat.le_refl _⟩ (by first | with_reducible assumption | with_reducible exact zup_same _ _ _) ?_
  refine p_soon hI r1 r2 _ (fun a h1 fs1 ra hs1 ho1 mc => ?_)
  refine z_aload_n 527 dL_law_526 rfl rfl ?_
  refine z_aload_n 528 dL_law_527 rfl rfl ?_
  refine z_iload_n 529 dL_law_528 rfl rfl ?_
  refine z_iconst 530 dL_law_529 rfl ?_
  refine z_iadd 531 dL_law_530 rfl ?_
  refine z_iald 532 dL_law_531 rfl (by first | with_reducible assumption | with_reducible exact zup_same _ _ _) (by omega) (by first | omega | exact zr_b _ | exact zr_and _ _ | exact zr_or _ _ | exact zr_shl _ _) ?_
  refine z_aload_n 533 dL_law_532 rfl rfl ?_
  refine z_iload_n 534 dL_law_533 rfl rfl ?_
  refine z_iconst 535 dL_law_534 rfl ?_
  refine z_iadd 536 dL_law_535 rfl ?_
  refine z_iald 537 dL_law_536 rfl (by first | with_reducible assumption | with_reducible exact zup_same _ _ _) (by omega) (by first | omega | exact zr_b _ | exact zr_and _ _ | exact zr_or _ _ | exact zr_shl _ _) ?_
  refine z_cV2 540 dL_law_537 rfl kX10_soon zw_1029 (Nat.le_of_ble_eq_true rfl) ⟨Nat.le_refl _, Nat.le_refl _⟩ (by first | with_reducible assumption | with_reducible exact zup_same _ _ _) ?_
  refine mc _ (fun h2 hI2 => ?_)
  refine z_icmp_eq 941 543 dL_law_540 (by decide) rfl (by first | omega | exact zr_b _ | exact zr_and _ _ | exact zr_or _ _ | exact zr_shl _ _) (by first | omega | exact zr_b _ | exact zr_and _ _ | exact zr_or _ _ | exact zr_shl _ _) (fun c540 => ?_) (fun c540 => ?_)
  · exact k h2 hI2
  · exact absurd rfl c540
theorem lc_knowers (hI : zINV L f h) (hi : 0 ≤ i ∧ i + 4 ≤ (L : Int)) (hL : L ≤ 2048) (hf : ∀ j : Int, 0 ≤ j → j < L → -2147483648 ≤ f j ∧ f j ≤ 2147483647) (k : ∀ h2 : zH, zINV L f h2 → Z (d + 15) (mL nm) zml 941 [some (vR 0), some (vR 2), some (vR 112), some (vI i)] [] h2 Q) : Z (d + 15) (mL nm) zml 545 [some (vR 0), some (vR 2), some (vR 112), some (vI i)] [] h Q := by
  have hs := hI.1
  obtain ⟨fs0, ho2⟩ := hI.ob2
  have r1 := hf (i + 1) (by omega) (by omega)
  have r2 := hf (i + 2) (by omega) (by omega)
  have r3 := hf (i + 3) (by omega) (by omega)
  refine z_aload_n 546 dL_law_545 rfl rfl ?_
  refine z_aload_n 547 dL_law_546 rfl rfl ?_
  refine z_iload_n 548 dL_law_547 rfl rfl ?_
  refine z_iconst 549 dL_law_548 rfl ?_
  refine z_iadd 550 dL_law_549 rfl ?_
  refine z_iald 551 dL_law_550 rfl (by first | with_reducible assumption | with_reducible exact zup_same _ _ _) (by omega) (by first | omega | exact zr_b _ | exact zr_and _ _ | exact zr_or _ _ | exact zr_shl _ _) ?_
  refine z_aload_n 552 dL_law_551 rfl rfl ?_
  refine z_iload_n 553 dL_law_552 rfl rfl ?_
  refine z_iconst 554 dL_law_553 rfl ?_
  refine z_iadd 555 dL_law_554 rfl ?_
  refine z_iald 556 dL_law_555 rfl (by first | with_reducible assumption | with_reducible exact zup_same _ _ _) (by omega) (by first | omega | exact zr_b _ | exact zr_and _ _ | exact zr_or _ _ | exact zr_shl _ _) ?_
  refine z_cV2 559 dL_law_556 rfl kX9_knowers zw_626 (Nat.le_of_ble_eq_true rfl) ⟨Nat.le_refl _, Nat.le_refl _⟩ (by first | with_reducible assumption | with_reducible exact zup_same _ _ _) ?_
  refine p_knowers hI r1 r2 _ (fun a h1 fs1 ra hs1 ho1 mc => ?_)
  refine z_aload_n 560 dL_law_559 rfl rfl ?_
  refine z_aload_n 561 dL_law_560 rfl rfl ?_
  refine z_iload_n 562 dL_law_561 rfl rfl ?_
  refine z_iconst 563 dL_law_562 rfl ?_
  refine z_iadd 564 dL_law_563 rfl ?_
  refine z_iald 565 dL_law_564 rfl (by first | with_reducible assumption | with_reducible exact zup_same _ _ _) (by omega) (by first | omega | exact zr_b _ | exact zr_and _ _ | exact zr_or _ _ | exact zr_shl _ _) ?_
  refine z_aload_n 566 dL_law_565 rfl rfl ?_
  refine z_iload_n 567 dL_law_566 rfl rfl ?_
  refine z_iconst 568 dL_law_567 rfl ?_
  refine z_iadd 569 dL_law_568 rfl ?_
  refine z_iald 570 dL_law_569 rfl (by first | with_reducible assumption | with_reducible exact zup_same _ _ _) (by omega) (by first | omega | exact zr_b _ | exact zr_and _ _ | exact zr_or _ _ | exact zr_shl _ _) ?_
  refine z_cV2 573 dL_law_570 rfl kX10_knowers zw_1034 (Nat.le_of_ble_eq_true rfl) ⟨Nat.le_refl _, Nat.le_refl _⟩ (by first | with_reducible assumption | with_reducible exact zup_same _ _ _) ?_
  refine mc _ (fun h2 hI2 => ?_)
  refine z_icmp_eq 941 576 dL_law_573 (by decide) rfl (by first | omega | exact zr_b _ | exact zr_and _ _ | exact zr_or _ _ | exact zr_shl _ _) (by first | omega | exact zr_b _ | exact zr_and _ _ | exact zr_or _ _ | exact zr_shl _ _) (fun c573 => ?_) (fun c573 => ?_)
  · exact k h2 hI2
  · exact absurd rfl c573
theorem lc_judge (hI : zINV L f h) (hi : 0 ≤ i ∧ i + 4 ≤ (L : Int)) (hL : L ≤ 2048) (hf : ∀ j : Int, 0 ≤ j → j < L → -2147483648 ≤ f j ∧ f j ≤ 2147483647) (k : ∀ h2 : zH, zINV L f h2 → Z (d + 15) (mL nm) zml 941 [some (vR 0), some (vR 2), some (vR 112), some (vI i)] [] h2 Q) : Z (d + 15) (mL nm) zml 578 [some (vR 0), some (vR 2), some (vR 112), some (vI i)] [] h Q := by
  have hs := hI.1
  obtain ⟨fs0, ho2⟩ := hI.ob2
  have r1 := hf (i + 1) (by omega) (by omega)
  have r2 := hf (i + 2) (by omega) (by omega)
  have r3 := hf (i + 3) (by omega) (by omega)
  refine z_aload_n 579 dL_law_578 rfl rfl ?_
  refine z_aload_n 580 dL_law_579 rfl rfl ?_
  refine z_iload_n 581 dL_law_580 rfl rfl ?_
  refine z_iconst 582 dL_law_581 rfl ?_
  refine z_iadd 583 dL_law_582 rfl ?_
  refine z_iald 584 dL_law_583 rfl (by first | with_reducible assumption | with_reducible exact zup_same _ _ _) (by omega) (by first | omega | exact zr_b _ | exact zr_and _ _ | exact zr_or _ _ | exact zr_shl _ _) ?_
  refine z_aload_n 585 dL_law_584 rfl rfl ?_
  refine z_iload_n 586 dL_law_585 rfl rfl ?_
  refine z_iconst 587 dL_law_586 rfl ?_
  refine z_iadd 588 dL_law_587 rfl ?_
  refine z_iald 589 dL_law_588 rfl (by first | with_reducible assumption | with_reducible exact zup_same _ _ _) (by omega) (by first | omega | exact zr_b _ | exact zr_and _ _ | exact zr_or _ _ | exact zr_shl _ _) ?_
  refine z_i2l 590 dL_law_589 rfl (by first | omega | exact zr_b _ | exact zr_and _ _ | exact zr_or _ _ | exact zr_shl _ _) ?_
  refine z_bipush 592 dL_law_590 rfl (by decide) ?_
  refine z_lshl 593 dL_law_592 rfl ?_
  refine z_aload_n 594 dL_law_593 rfl rfl ?_
  refine z_iload_n 595 dL_law_594 rfl rfl ?_
  refine z_iconst 596 dL_law_595 rfl ?_
  refine z_iadd 597 dL_law_596 rfl ?_
  refine z_iald 598 dL_law_597 rfl (by first | with_reducible assumption | with_reducible exact zup_same _ _ _) (by omega) (by first | omega | exact zr_b _ | exact zr_and _ _ | exact zr_or _ _ | exact zr_shl _ _) ?_
  refine z_i2l 599 dL_law_598 rfl (by first | omega | exact zr_b _ | exact zr_and _ _ | exact zr_or _ _ | exact zr_shl _ _) ?_
  refine z_ldc2 (x := 4294967295) 602 dL_law_599 rfl zw_1113 ?_
  refine z_land 603 dL_law_602 rfl ?_
  refine z_lor 604 dL_law_603 rfl ?_
  refine z_cV2 607 dL_law_604 rfl kX9_judge zw_630 (Nat.le_of_ble_eq_true rfl) ⟨Nat.le_refl _, Nat.le_refl _⟩ (by first | with_reducible assumption | with_reducible exact zup_same _ _ _) ?_
  refine p_judge hI r1 (zlor_r _ _) _ (fun a h1 fs1 ra hs1 ho1 mc => ?_)
  refine z_aload_n 608 dL_law_607 rfl rfl ?_
  refine z_aload_n 609 dL_law_608 rfl rfl ?_
  refine z_iload_n 610 dL_law_609 rfl rfl ?_
  refine z_iconst 611 dL_law_610 rfl ?_
  refine z_iadd 612 dL_law_611 rfl ?_
  refine z_iald 613 dL_law_612 rfl (by first | with_reducible assumption | with_reducible exact zup_same _ _ _) (by omega) (by first | omega | exact zr_b _ | exact zr_and _ _ | exact zr_or _ _ | exact zr_shl _ _) ?_
  refine z_aload_n 614 dL_law_613 rfl rfl ?_
  refine z_iload_n 615 dL_law_614 rfl rfl ?_
  refine z_iconst 616 dL_law_615 rfl ?_
  refine z_iadd 617 dL_law_616 rfl ?_
  refine z_iald 618 dL_law_617 rfl (by first | with_reducible assumption | with_reducible exact zup_same _ _ _) (by omega) (by first | omega | exact zr_b _ | exact zr_and _ _ | exact zr_or _ _ | exact zr_shl _ _) ?_
  refine z_i2l 619 dL_law_618 rfl (by first | omega | exact zr_b _ | exact zr_and _ _ | exact zr_or _ _ | exact zr_shl _ _) ?_
  refine z_bipush 621 dL_law_619 rfl (by decide) ?_
  refine z_lshl 622 dL_law_621 rfl ?_
  refine z_aload_n 623 dL_law_622 rfl rfl ?_
  refine z_iload_n 624 dL_law_623 rfl rfl ?_
  refine z_iconst 625 dL_law_624 rfl ?_
  refine z_iadd 626 dL_law_625 rfl ?_
  refine z_iald 627 dL_law_626 rfl (by first | with_reducible assumption | with_reducible exact zup_same _ _ _) (by omega) (by first | omega | exact zr_b _ | exact zr_and _ _ | exact zr_or _ _ | exact zr_shl _ _) ?_
  refine z_i2l 628 dL_law_627 rfl (by first | omega | exact zr_b _ | exact zr_and _ _ | exact zr_or _ _ | exact zr_shl _ _) ?_
  refine z_ldc2 (x := 4294967295) 631 dL_law_628 rfl zw_1113 ?_
  refine z_land 632 dL_law_631 rfl ?_
  refine z_lor 633 dL_law_632 rfl ?_
  refine z_cV2 636 dL_law_633 rfl kX10_judge zw_1039 (Nat.le_of_ble_eq_true rfl) ⟨Nat.le_refl _, Nat.le_refl _⟩ (by first | with_reducible assumption | with_reducible exact zup_same _ _ _) ?_
  refine mc _ (fun h2 hI2 => ?_)
  refine z_icmp_eq 941 639 dL_law_636 (by decide) rfl (by first | omega | exact zr_b _ | exact zr_and _ _ | exact zr_or _ _ | exact zr_shl _ _) (by first | omega | exact zr_b _ | exact zr_and _ _ | exact zr_or _ _ | exact zr_shl _ _) (fun c636 => ?_) (fun c636 => ?_)
  · exact k h2 hI2
  · exact absurd rfl c636
theorem lc_see (hI : zINV L f h) (hi : 0 ≤ i ∧ i + 4 ≤ (L : Int)) (hL : L ≤ 2048) (hf : ∀ j : Int, 0 ≤ j → j < L → -2147483648 ≤ f j ∧ f j ≤ 2147483647) (k : ∀ h2 : zH, zINV L f h2 → Z (d + 15) (mL nm) zml 941 [some (vR 0), some (vR 2), some (vR 112), some (vI i)] [] h2 Q) : Z (d + 15) (mL nm) zml 641 [some (vR 0), some (vR 2), some (vR 112), some (vI i)] [] h Q := by
  have hs := hI.1
  obtain ⟨fs0, ho2⟩ := hI.ob2
  have r1 := hf (i + 1) (by omega) (by omega)
  have r2 := hf (i + 2) (by omega) (by omega)
  have r3 := hf (i + 3) (by omega) (by omega)
  refine z_aload_n 642 dL_law_641 rfl rfl ?_
  refine z_aload_n 643 dL_law_642 rfl rfl ?_
  refine z_iload_n 644 dL_law_643 rfl rfl ?_
  refine z_iconst 645 dL_law_644 rfl ?_
  refine z_iadd 646 dL_law_645 rfl ?_
  refine z_iald 647 dL_law_646 rfl (by first | with_reducible assumption | with_reducible exact zup_same _ _ _) (by omega) (by first | omega | exact zr_b _ | exact zr_and _ _ | exact zr_or _ _ | exact zr_shl _ _) ?_
  refine z_aload_n 648 dL_law_647 rfl rfl ?_
  refine z_iload_n 649 dL_law_648 rfl rfl ?_
  refine z_iconst 650 dL_law_649 rfl ?_
  refine z_iadd 651 dL_law_650 rfl ?_
  refine z_iald 652 dL_law_651 rfl (by first | with_reducible assumption | with_reducible exact zup_same _ _ _) (by omega) (by first | omega | exact zr_b _ | exact zr_and _ _ | exact zr_or _ _ | exact zr_shl _ _) ?_
  refine z_cV2 655 dL_law_652 rfl kX9_see zw_657 (Nat.le_of_ble_eq_true rfl) ⟨Nat.le_refl _, Nat.le_refl _⟩ (by first | with_reducible assumption | with_reducible exact zup_same _ _ _) ?_
  refine p_see hI r1 r2 _ (fun a h1 fs1 ra hs1 ho1 mc => ?_)
  refine z_aload_n 656 dL_law_655 rfl rfl ?_
  refine z_aload_n 657 dL_law_656 rfl rfl ?_
  refine z_iload_n 658 dL_law_657 rfl rfl ?_
  refine z_iconst 659 dL_law_658 rfl ?_
  refine z_iadd 660 dL_law_659 rfl ?_
  refine z_iald 661 dL_law_660 rfl (by first | with_reducible assumption | with_reducible exact zup_same _ _ _) (by omega) (by first | omega | exact zr_b _ | exact zr_and _ _ | exact zr_or _ _ | exact zr_shl _ _) ?_
  refine z_aload_n 662 dL_law_661 rfl rfl ?_
  refine z_iload_n 663 dL_law_662 rfl rfl ?_
  refine z_iconst 664 dL_law_663 rfl ?_
  refine z_iadd 665 dL_law_664 rfl ?_
  refine z_iald 666 dL_law_665 rfl (by first | with_reducible assumption | with_reducible exact zup_same _ _ _) (by omega) (by first | omega | exact zr_b _ | exact zr_and _ _ | exact zr_or _ _ | exact zr_shl _ _) ?_
  refine z_cV2 669 dL_law_666 rfl kX10_see zw_1052 (Nat.le_of_ble_eq_true rfl) ⟨Nat.le_refl _, Nat.le_refl _⟩ (by first | with_reducible assumption | with_reducible exact zup_same _ _ _) ?_
  refine mc _ (fun h2 hI2 => ?_)
  refine z_icmp_eq 941 672 dL_law_669 (by decide) rfl (by first | omega | exact zr_b _ | exact zr_and _ _ | exact zr_or _ _ | exact zr_shl _ _) (by first | omega | exact zr_b _ | exact zr_and _ _ | exact zr_or _ _ | exact zr_shl _ _) (fun c669 => ?_) (fun c669 => ?_)
  · exact k h2 hI2
  · exact absurd rfl c669
theorem lc_unsee (hI : zINV L f h) (hi : 0 ≤ i ∧ i + 4 ≤ (L : Int)) (hL : L ≤ 2048) (hf : ∀ j : Int, 0 ≤ j → j < L → -2147483648 ≤ f j ∧ f j ≤ 2147483647) (k : ∀ h2 : zH, zINV L f h2 → Z (d + 15) (mL nm) zml 941 [some (vR 0), some (vR 2), some (vR 112), some (vI i)] [] h2 Q) : Z (d + 15) (mL nm) zml 674 [some (vR 0), some (vR 2), some (vR 112), some (vI i)] [] h Q := by
  have hs := hI.1
  obtain ⟨fs0, ho2⟩ := hI.ob2
  have r1 := hf (i + 1) (by omega) (by omega)
  have r2 := hf (i + 2) (by omega) (by omega)
  have r3 := hf (i + 3) (by omega) (by omega)
  refine z_aload_n 675 dL_law_674 rfl rfl ?_
  refine z_cV0 678 dL_law_675 rfl kX9_unsee zw_666 (Nat.le_of_ble_eq_true rfl) ⟨Nat.le_refl _, Nat.le_refl _⟩ (by first | with_reducible assumption | with_reducible exact zup_same _ _ _) ?_
  refine p_unsee hI _ (fun a h1 fs1 ra hs1 ho1 mc => ?_)
  refine z_aload_n 679 dL_law_678 rfl rfl ?_
  refine z_cV0 682 dL_law_679 rfl kX10_unsee zw_1057 (Nat.le_of_ble_eq_true rfl) ⟨Nat.le_refl _, Nat.le_refl _⟩ (by first | with_reducible assumption | with_reducible exact zup_same _ _ _) ?_
  refine mc _ (fun h2 hI2 => ?_)
  refine z_icmp_eq 941 685 dL_law_682 (by decide) rfl (by first | omega | exact zr_b _ | exact zr_and _ _ | exact zr_or _ _ | exact zr_shl _ _) (by first | omega | exact zr_b _ | exact zr_and _ _ | exact zr_or _ _ | exact zr_shl _ _) (fun c682 => ?_) (fun c682 => ?_)
  · exact k h2 hI2
  · exact absurd rfl c682
theorem lc_which (hI : zINV L f h) (hi : 0 ≤ i ∧ i + 4 ≤ (L : Int)) (hL : L ≤ 2048) (hf : ∀ j : Int, 0 ≤ j → j < L → -2147483648 ≤ f j ∧ f j ≤ 2147483647) (k : ∀ h2 : zH, zINV L f h2 → Z (d + 15) (mL nm) zml 941 [some (vR 0), some (vR 2), some (vR 112), some (vI i)] [] h2 Q) : Z (d + 15) (mL nm) zml 687 [some (vR 0), some (vR 2), some (vR 112), some (vI i)] [] h Q := by
  have hs := hI.1
  obtain ⟨fs0, ho2⟩ := hI.ob2
  have r1 := hf (i + 1) (by omega) (by omega)
  have r2 := hf (i + 2) (by omega) (by omega)
  have r3 := hf (i + 3) (by omega) (by omega)
  refine z_aload_n 688 dL_law_687 rfl rfl ?_
  refine z_aload_n 689 dL_law_688 rfl rfl ?_
  refine z_iload_n 690 dL_law_689 rfl rfl ?_
  refine z_iconst 691 dL_law_690 rfl ?_
  refine z_iadd 692 dL_law_691 rfl ?_
  refine z_iald 693 dL_law_692 rfl (by first | with_reducible assumption | with_reducible exact zup_same _ _ _) (by omega) (by first | omega | exact zr_b _ | exact zr_and _ _ | exact zr_or _ _ | exact zr_shl _ _) ?_
  refine z_cV1 696 dL_law_693 rfl kX9_which zw_674 (Nat.le_of_ble_eq_true rfl) ⟨Nat.le_refl _, Nat.le_refl _⟩ (by first | with_reducible assumption | with_reducible exact zup_same _ _ _) ?_
  refine p_which hI r1 _ (fun a h1 fs1 ra hs1 ho1 mc => ?_)
  refine z_aload_n 697 dL_law_696 rfl rfl ?_
  refine z_aload_n 698 dL_law_697 rfl rfl ?_
  refine z_iload_n 699 dL_law_698 rfl rfl ?_
  refine z_iconst 700 dL_law_699 rfl ?_
  refine z_iadd 701 dL_law_700 rfl ?_
  refine z_iald 702 dL_law_701 rfl (by first | with_reducible assumption | with_reducible exact zup_same _ _ _) (by omega) (by first | omega | exact zr_b _ | exact zr_and _ _ | exact zr_or _ _ | exact zr_shl _ _) ?_
  refine z_cV1 705 dL_law_702 rfl kX10_which zw_1061 (Nat.le_of_ble_eq_true rfl) ⟨Nat.le_refl _, Nat.le_refl _⟩ (by first | with_reducible assumption | with_reducible exact zup_same _ _ _) ?_
  refine mc _ (fun h2 hI2 => ?_)
  refine z_icmp_eq 941 708 dL_law_705 (by decide) rfl (by first | omega | exact zr_b _ | exact zr_and _ _ | exact zr_or _ _ | exact zr_shl _ _) (by first | omega | exact zr_b _ | exact zr_and _ _ | exact zr_or _ _ | exact zr_shl _ _) (fun c705 => ?_) (fun c705 => ?_)
  · exact k h2 hI2
  · exact absurd rfl c705
theorem lc_share (hI : zINV L f h) (hi : 0 ≤ i ∧ i + 4 ≤ (L : Int)) (hL : L ≤ 2048) (hf : ∀ j : Int, 0 ≤ j → j < L → -2147483648 ≤ f j ∧ f j ≤ 2147483647) (k : ∀ h2 : zH, zINV L f h2 → Z (d + 15) (mL nm) zml 941 [some (vR 0), some (vR 2), some (vR 112), some (vI i)] [] h2 Q) : Z (d + 15) (mL nm) zml 710 [some (vR 0), some (vR 2), some (vR 112), some (vI i)] [] h Q := by
  have hs := hI.1
  obtain ⟨fs0, ho2⟩ := hI.ob2
  have r1 := hf (i + 1) (by omega) (by omega)
  have r2 := hf (i + 2) (by omega) (by omega)
  have r3 := hf (i + 3) (by omega) (by omega)
  by_cases e : f (i + 2) = 0
  · skip
    refine z_aload_n 711 dL_law_710 rfl rfl ?_
    refine z_aload_n 712 dL_law_711 rfl rfl ?_
    refine z_iload_n 713 dL_law_712 rfl rfl ?_
    refine z_iconst 714 dL_law_713 rfl ?_
    refine z_iadd 715 dL_law_714 rfl ?_
    refine z_iald 716 dL_law_715 rfl (by first | with_reducible assumption | with_reducible exact zup_same _ _ _) (by omega) (by first | omega | exact zr_b _ | exact zr_and _ _ | exact zr_or _ _ | exact zr_shl _ _) ?_
    refine z_aload_n 717 dL_law_716 rfl rfl ?_
    refine z_iload_n 718 dL_law_717 rfl rfl ?_
    refine z_iconst 719 dL_law_718 rfl ?_
    refine z_iadd 720 dL_law_719 rfl ?_
    refine z_iald 721 dL_law_720 rfl (by first | with_reducible assumption | with_reducible exact zup_same _ _ _) (by omega) (by first | omega | exact zr_b _ | exact zr_and _ _ | exact zr_or _ _ | exact zr_shl _ _) ?_
    refine z_if_eq 728 724 dL_law_721 (by decide) rfl (by first | omega | exact zr_b _ | exact zr_and _ _ | exact zr_or _ _ | exact zr_shl _ _) (fun c721 => ?_) (fun c721 => ?_)
    · try replace c721 := zb_0 c721
      refine z_iconst 729 dL_law_728 rfl ?_
      refine z_cV2 732 dL_law_729 rfl kX9_share zw_685 (Nat.le_of_ble_eq_true rfl) ⟨Nat.le_refl _, Nat.le_refl _⟩ (by first | with_reducible assumption | with_reducible exact zup_same _ _ _) ?_
      refine p_share hI r1 (Or.inl rfl) _ (fun a h1 fs1 ra hs1 ho1 mc => ?_)
      refine z_aload_n 733 dL_law_732 rfl rfl ?_
      refine z_aload_n 734 dL_law_733 rfl rfl ?_
      refine z_iload_n 735 dL_law_734 rfl rfl ?_
      refine z_iconst 736 dL_law_735 rfl ?_
      refine z_iadd 737 dL_law_736 rfl ?_
      refine z_iald 738 dL_law_737 rfl (by first | with_reducible assumption | with_reducible exact zup_same _ _ _) (by omega) (by first | omega | exact zr_b _ | exact zr_and _ _ | exact zr_or _ _ | exact zr_shl _ _) ?_
      refine z_aload_n 739 dL_law_738 rfl rfl ?_
      refine z_iload_n 740 dL_law_739 rfl rfl ?_
      refine z_iconst 741 dL_law_740 rfl ?_
      refine z_iadd 742 dL_law_741 rfl ?_
      refine z_iald 743 dL_law_742 rfl (by first | with_reducible assumption | with_reducible exact zup_same _ _ _) (by omega) (by first | omega | exact zr_b _ | exact zr_and _ _ | exact zr_or _ _ | exact zr_shl _ _) ?_
      refine z_if_eq 750 746 dL_law_743 (by decide) rfl (by first | omega | exact zr_b _ | exact zr_and _ _ | exact zr_or _ _ | exact zr_shl _ _) (fun c743 => ?_) (fun c743 => ?_)
      · try replace c743 := zb_0 c743
        refine z_iconst 751 dL_law_750 rfl ?_
        refine z_cV2 754 dL_law_751 rfl kX10_share zw_1065 (Nat.le_of_ble_eq_true rfl) ⟨Nat.le_refl _, Nat.le_refl _⟩ (by first | with_reducible assumption | with_reducible exact zup_same _ _ _) ?_
        refine mc _ (fun h2 hI2 => ?_)
        refine z_icmp_eq 941 757 dL_law_754 (by decide) rfl (by first | omega | exact zr_b _ | exact zr_and _ _ | exact zr_or _ _ | exact zr_shl _ _) (by first | omega | exact zr_b _ | exact zr_and _ _ | exact zr_or _ _ | exact zr_shl _ _) (fun c754 => ?_) (fun c754 => ?_)
        · exact k h2 hI2
        · exact absurd rfl c754
      · exact absurd e c743
    · exact absurd e c721
  · skip
    refine z_aload_n 711 dL_law_710 rfl rfl ?_
    refine z_aload_n 712 dL_law_711 rfl rfl ?_
    refine z_iload_n 713 dL_law_712 rfl rfl ?_
    refine z_iconst 714 dL_law_713 rfl ?_
    refine z_iadd 715 dL_law_714 rfl ?_
    refine z_iald 716 dL_law_715 rfl (by first | with_reducible assumption | with_reducible exact zup_same _ _ _) (by omega) (by first | omega | exact zr_b _ | exact zr_and _ _ | exact zr_or _ _ | exact zr_shl _ _) ?_
    refine z_aload_n 717 dL_law_716 rfl rfl ?_
    refine z_iload_n 718 dL_law_717 rfl rfl ?_
    refine z_iconst 719 dL_law_718 rfl ?_
    refine z_iadd 720 dL_law_719 rfl ?_
    refine z_iald 721 dL_law_720 rfl (by first | with_reducible assumption | with_reducible exact zup_same _ _ _) (by omega) (by first | omega | exact zr_b _ | exact zr_and _ _ | exact zr_or _ _ | exact zr_shl _ _) ?_
    refine z_if_eq 728 724 dL_law_721 (by decide) rfl (by first | omega | exact zr_b _ | exact zr_and _ _ | exact zr_or _ _ | exact zr_shl _ _) (fun c721 => ?_) (fun c721 => ?_)
    · exact absurd c721 e
    · try replace c721 := zb_1 c721
      refine z_iconst 725 dL_law_724 rfl ?_
      refine z_goto 729 dL_law_725 (by decide) ?_
      refine z_cV2 732 dL_law_729 rfl kX9_share zw_685 (Nat.le_of_ble_eq_true rfl) ⟨Nat.le_refl _, Nat.le_refl _⟩ (by first | with_reducible assumption | with_reducible exact zup_same _ _ _) ?_
      refine p_share hI r1 (Or.inr rfl) _ (fun a h1 fs1 ra hs1 ho1 mc => ?_)
      refine z_aload_n 733 dL_law_732 rfl rfl ?_
      refine z_aload_n 734 dL_law_733 rfl rfl ?_
      refine z_iload_n 735 dL_law_734 rfl rfl ?_
      refine z_iconst 736 dL_law_735 rfl ?_
      refine z_iadd 737 dL_law_736 rfl ?_
      refine z_iald 738 dL_law_737 rfl (by first | with_reducible assumption | with_reducible exact zup_same _ _ _) (by omega) (by first | omega | exact zr_b _ | exact zr_and _ _ | exact zr_or _ _ | exact zr_shl _ _) ?_
      refine z_aload_n 739 dL_law_738 rfl rfl ?_
      refine z_iload_n 740 dL_law_739 rfl rfl ?_
      refine z_iconst 741 dL_law_740 rfl ?_
      refine z_iadd 742 dL_law_741 rfl ?_
      refine z_iald 743 dL_law_742 rfl (by first | with_reducible assumption | with_reducible exact zup_same _ _ _) (by omega) (by first | omega | exact zr_b _ | exact zr_and _ _ | exact zr_or _ _ | exact zr_shl _ _) ?_
      refine z_if_eq 750 746 dL_law_743 (by decide) rfl (by first | omega | exact zr_b _ | exact zr_and _ _ | exact zr_or _ _ | exact zr_shl _ _) (fun c743 => ?_) (fun c743 => ?_)
      · exact absurd c743 e
      · try replace c743 := zb_1 c743
        refine z_iconst 747 dL_law_746 rfl ?_
        refine z_goto 751 dL_law_747 (by decide) ?_
        refine z_cV2 754 dL_law_751 rfl kX10_share zw_1065 (Nat.le_of_ble_eq_true rfl) ⟨Nat.le_refl _, Nat.le_refl _⟩ (by first | with_reducible assumption | with_reducible exact zup_same _ _ _) ?_
        refine mc _ (fun h2 hI2 => ?_)
        refine z_icmp_eq 941 757 dL_law_754 (by decide) rfl (by first | omega | exact zr_b _ | exact zr_and _ _ | exact zr_or _ _ | exact zr_shl _ _) (by first | omega | exact zr_b _ | exact zr_and _ _ | exact zr_or _ _ | exact zr_shl _ _) (fun c754 => ?_) (fun c754 => ?_)
        · exact k h2 hI2
        · exact absurd rfl c754
theorem lc_chance (hI : zINV L f h) (hi : 0 ≤ i ∧ i + 4 ≤ (L : Int)) (hL : L ≤ 2048) (hf : ∀ j : Int, 0 ≤ j → j < L → -2147483648 ≤ f j ∧ f j ≤ 2147483647) (k : ∀ h2 : zH, zINV L f h2 → Z (d + 15) (mL nm) zml 941 [some (vR 0), some (vR 2), some (vR 112), some (vI i)] [] h2 Q) : Z (d + 15) (mL nm) zml 759 [some (vR 0), some (vR 2), some (vR 112), some (vI i)] [] h Q := by
  have hs := hI.1
  obtain ⟨fs0, ho2⟩ := hI.ob2
  have r1 := hf (i + 1) (by omega) (by omega)
  have r2 := hf (i + 2) (by omega) (by omega)
  have r3 := hf (i + 3) (by omega) (by omega)
  by_cases e : f (i + 3) = 0
  · skip
    refine z_aload_n 760 dL_law_759 rfl rfl ?_
    refine z_aload_n 761 dL_law_760 rfl rfl ?_
    refine z_iload_n 762 dL_law_761 rfl rfl ?_
    refine z_iconst 763 dL_law_762 rfl ?_
    refine z_iadd 764 dL_law_763 rfl ?_
    refine z_iald 765 dL_law_764 rfl (by first | with_reducible assumption | with_reducible exact zup_same _ _ _) (by omega) (by first | omega | exact zr_b _ | exact zr_and _ _ | exact zr_or _ _ | exact zr_shl _ _) ?_
    refine z_aload_n 766 dL_law_765 rfl rfl ?_
    refine z_iload_n 767 dL_law_766 rfl rfl ?_
    refine z_iconst 768 dL_law_767 rfl ?_
    refine z_iadd 769 dL_law_768 rfl ?_
    refine z_iald 770 dL_law_769 rfl (by first | with_reducible assumption | with_reducible exact zup_same _ _ _) (by omega) (by first | omega | exact zr_b _ | exact zr_and _ _ | exact zr_or _ _ | exact zr_shl _ _) ?_
    refine z_aload_n 771 dL_law_770 rfl rfl ?_
    refine z_iload_n 772 dL_law_771 rfl rfl ?_
    refine z_iconst 773 dL_law_772 rfl ?_
    refine z_iadd 774 dL_law_773 rfl ?_
    refine z_iald 775 dL_law_774 rfl (by first | with_reducible assumption | with_reducible exact zup_same _ _ _) (by omega) (by first | omega | exact zr_b _ | exact zr_and _ _ | exact zr_or _ _ | exact zr_shl _ _) ?_
    refine z_if_eq 782 778 dL_law_775 (by decide) rfl (by first | omega | exact zr_b _ | exact zr_and _ _ | exact zr_or _ _ | exact zr_shl _ _) (fun c775 => ?_) (fun c775 => ?_)
    · try replace c775 := zb_0 c775
      refine z_iconst 783 dL_law_782 rfl ?_
      refine z_cV3 786 dL_law_783 rfl kX9_chance zw_717 (Nat.le_of_ble_eq_true rfl) ⟨Nat.le_refl _, Nat.le_refl _⟩ (by first | with_reducible assumption | with_reducible exact zup_same _ _ _) ?_
      refine p_chance hI r1 r2 (Or.inl rfl) _ (fun a h1 fs1 ra hs1 ho1 mc => ?_)
      refine z_aload_n 787 dL_law_786 rfl rfl ?_
      refine z_aload_n 788 dL_law_787 rfl rfl ?_
      refine z_iload_n 789 dL_law_788 rfl rfl ?_
      refine z_iconst 790 dL_law_789 rfl ?_
      refine z_iadd 791 dL_law_790 rfl ?_
      refine z_iald 792 dL_law_791 rfl (by first | with_reducible assumption | with_reducible exact zup_same _ _ _) (by omega) (by first | omega | exact zr_b _ | exact zr_and _ _ | exact zr_or _ _ | exact zr_shl _ _) ?_
      refine z_aload_n 793 dL_law_792 rfl rfl ?_
      refine z_iload_n 794 dL_law_793 rfl rfl ?_
      refine z_iconst 795 dL_law_794 rfl ?_
      refine z_iadd 796 dL_law_795 rfl ?_
      refine z_iald 797 dL_law_796 rfl (by first | with_reducible assumption | with_reducible exact zup_same _ _ _) (by omega) (by first | omega | exact zr_b _ | exact zr_and _ _ | exact zr_or _ _ | exact zr_shl _ _) ?_
      refine z_aload_n 798 dL_law_797 rfl rfl ?_
      refine z_iload_n 799 dL_law_798 rfl rfl ?_
      refine z_iconst 800 dL_law_799 rfl ?_
      refine z_iadd 801 dL_law_800 rfl ?_
      refine z_iald 802 dL_law_801 rfl (by first | with_reducible assumption | with_reducible exact zup_same _ _ _) (by omega) (by first | omega | exact zr_b _ | exact zr_and _ _ | exact zr_or _ _ | exact zr_shl _ _) ?_
      refine z_if_eq 809 805 dL_law_802 (by decide) rfl (by first | omega | exact zr_b _ | exact zr_and _ _ | exact zr_or _ _ | exact zr_shl _ _) (fun c802 => ?_) (fun c802 => ?_)
      · try replace c802 := zb_0 c802
        refine z_iconst 810 dL_law_809 rfl ?_
        refine z_cV3 813 dL_law_810 rfl kX10_chance zw_1082 (Nat.le_of_ble_eq_true rfl) ⟨Nat.le_refl _, Nat.le_refl _⟩ (by first | with_reducible assumption | with_reducible exact zup_same _ _ _) ?_
        refine mc _ (fun h2 hI2 => ?_)
        refine z_icmp_eq 941 816 dL_law_813 (by decide) rfl (by first | omega | exact zr_b _ | exact zr_and _ _ | exact zr_or _ _ | exact zr_shl _ _) (by first | omega | exact zr_b _ | exact zr_and _ _ | exact zr_or _ _ | exact zr_shl _ _) (fun c813 => ?_) (fun c813 => ?_)
        · exact k h2 hI2
        · exact absurd rfl c813
      · exact absurd e c802
    · exact absurd e c775
  · skip
    refine z_aload_n 760 dL_law_759 rfl rfl ?_
    refine z_aload_n 761 dL_law_760 rfl rfl ?_
    refine z_iload_n 762 dL_law_761 rfl rfl ?_
    refine z_iconst 763 dL_law_762 rfl ?_
    refine z_iadd 764 dL_law_763 rfl ?_
    refine z_iald 765 dL_law_764 rfl (by first | with_reducible assumption | with_reducible exact zup_same _ _ _) (by omega) (by first | omega | exact zr_b _ | exact zr_and _ _ | exact zr_or _ _ | exact zr_shl _ _) ?_
    refine z_aload_n 766 dL_law_765 rfl rfl ?_
    refine z_iload_n 767 dL_law_766 rfl rfl ?_
    refine z_iconst 768 dL_law_767 rfl ?_
    refine z_iadd 769 dL_law_768 rfl ?_
    refine z_iald 770 dL_law_769 rfl (by first | with_reducible assumption | with_reducible exact zup_same _ _ _) (by omega) (by first | omega | exact zr_b _ | exact zr_and _ _ | exact zr_or _ _ | exact zr_shl _ _) ?_
    refine z_aload_n 771 dL_law_770 rfl rfl ?_
    refine z_iload_n 772 dL_law_771 rfl rfl ?_
    refine z_iconst 773 dL_law_772 rfl ?_
    refine z_iadd 774 dL_law_773 rfl ?_
    refine z_iald 775 dL_law_774 rfl (by first | with_reducible assumption | with_reducible exact zup_same _ _ _) (by omega) (by first | omega | exact zr_b _ | exact zr_and _ _ | exact zr_or _ _ | exact zr_shl _ _) ?_
    refine z_if_eq 782 778 dL_law_775 (by decide) rfl (by first | omega | exact zr_b _ | exact zr_and _ _ | exact zr_or _ _ | exact zr_shl _ _) (fun c775 => ?_) (fun c775 => ?_)
    · exact absurd c775 e
    · try replace c775 := zb_1 c775
      refine z_iconst 779 dL_law_778 rfl ?_
      refine z_goto 783 dL_law_779 (by decide) ?_
      refine z_cV3 786 dL_law_783 rfl kX9_chance zw_717 (Nat.le_of_ble_eq_true rfl) ⟨Nat.le_refl _, Nat.le_refl _⟩ (by first | with_reducible assumption | with_reducible exact zup_same _ _ _) ?_
      refine p_chance hI r1 r2 (Or.inr rfl) _ (fun a h1 fs1 ra hs1 ho1 mc => ?_)
      refine z_aload_n 787 dL_law_786 rfl rfl ?_
      refine z_aload_n 788 dL_law_787 rfl rfl ?_
      refine z_iload_n 789 dL_law_788 rfl rfl ?_
      refine z_iconst 790 dL_law_789 rfl ?_
      refine z_iadd 791 dL_law_790 rfl ?_
      refine z_iald 792 dL_law_791 rfl (by first | with_reducible assumption | with_reducible exact zup_same _ _ _) (by omega) (by first | omega | exact zr_b _ | exact zr_and _ _ | exact zr_or _ _ | exact zr_shl _ _) ?_
      refine z_aload_n 793 dL_law_792 rfl rfl ?_
      refine z_iload_n 794 dL_law_793 rfl rfl ?_
      refine z_iconst 795 dL_law_794 rfl ?_
      refine z_iadd 796 dL_law_795 rfl ?_
      refine z_iald 797 dL_law_796 rfl (by first | with_reducible assumption | with_reducible exact zup_same _ _ _) (by omega) (by first | omega | exact zr_b _ | exact zr_and _ _ | exact zr_or _ _ | exact zr_shl _ _) ?_
      refine z_aload_n 798 dL_law_797 rfl rfl ?_
      refine z_iload_n 799 dL_law_798 rfl rfl ?_
      refine z_iconst 800 dL_law_799 rfl ?_
      refine z_iadd 801 dL_law_800 rfl ?_
      refine z_iald 802 dL_law_801 rfl (by first | with_reducible assumption | with_reducible exact zup_same _ _ _) (by omega) (by first | omega | exact zr_b _ | exact zr_and _ _ | exact zr_or _ _ | exact zr_shl _ _) ?_
      refine z_if_eq 809 805 dL_law_802 (by decide) rfl (by first | omega | exact zr_b _ | exact zr_and _ _ | exact zr_or _ _ | exact zr_shl _ _) (fun c802 => ?_) (fun c802 => ?_)
      · exact absurd c802 e
      · try replace c802 := zb_1 c802
        refine z_iconst 806 dL_law_805 rfl ?_
        refine z_goto 810 dL_law_806 (by decide) ?_
        refine z_cV3 813 dL_law_810 rfl kX10_chance zw_1082 (Nat.le_of_ble_eq_true rfl) ⟨Nat.le_refl _, Nat.le_refl _⟩ (by first | with_reducible assumption | with_reducible exact zup_same _ _ _) ?_
        refine mc _ (fun h2 hI2 => ?_)
        refine z_icmp_eq 941 816 dL_law_813 (by decide) rfl (by first | omega | exact zr_b _ | exact zr_and _ _ | exact zr_or _ _ | exact zr_shl _ _) (by first | omega | exact zr_b _ | exact zr_and _ _ | exact zr_or _ _ | exact zr_shl _ _) (fun c813 => ?_) (fun c813 => ?_)
        · exact k h2 hI2
        · exact absurd rfl c813
theorem lc_seed (hI : zINV L f h) (hi : 0 ≤ i ∧ i + 4 ≤ (L : Int)) (hL : L ≤ 2048) (hf : ∀ j : Int, 0 ≤ j → j < L → -2147483648 ≤ f j ∧ f j ≤ 2147483647) (k : ∀ h2 : zH, zINV L f h2 → Z (d + 15) (mL nm) zml 941 [some (vR 0), some (vR 2), some (vR 112), some (vI i)] [] h2 Q) : Z (d + 15) (mL nm) zml 818 [some (vR 0), some (vR 2), some (vR 112), some (vI i)] [] h Q := by
  have hs := hI.1
  obtain ⟨fs0, ho2⟩ := hI.ob2
  have r1 := hf (i + 1) (by omega) (by omega)
  have r2 := hf (i + 2) (by omega) (by omega)
  have r3 := hf (i + 3) (by omega) (by omega)
  refine z_aload_n 819 dL_law_818 rfl rfl ?_
  refine z_aload_n 820 dL_law_819 rfl rfl ?_
  refine z_iload_n 821 dL_law_820 rfl rfl ?_
  refine z_iconst 822 dL_law_821 rfl ?_
  refine z_iadd 823 dL_law_822 rfl ?_
  refine z_iald 824 dL_law_823 rfl (by first | with_reducible assumption | with_reducible exact zup_same _ _ _) (by omega) (by first | omega | exact zr_b _ | exact zr_and _ _ | exact zr_or _ _ | exact zr_shl _ _) ?_
  refine z_i2l 825 dL_law_824 rfl (by first | omega | exact zr_b _ | exact zr_and _ _ | exact zr_or _ _ | exact zr_shl _ _) ?_
  refine z_bipush 827 dL_law_825 rfl (by decide) ?_
  refine z_lshl 828 dL_law_827 rfl ?_
  refine z_aload_n 829 dL_law_828 rfl rfl ?_
  refine z_iload_n 830 dL_law_829 rfl rfl ?_
  refine z_iconst 831 dL_law_830 rfl ?_
  refine z_iadd 832 dL_law_831 rfl ?_
  refine z_iald 833 dL_law_832 rfl (by first | with_reducible assumption | with_reducible exact zup_same _ _ _) (by omega) (by first | omega | exact zr_b _ | exact zr_and _ _ | exact zr_or _ _ | exact zr_shl _ _) ?_
  refine z_i2l 834 dL_law_833 rfl (by first | omega | exact zr_b _ | exact zr_and _ _ | exact zr_or _ _ | exact zr_shl _ _) ?_
  refine z_ldc2 (x := 4294967295) 837 dL_law_834 rfl zw_1113 ?_
  refine z_land 838 dL_law_837 rfl ?_
  refine z_lor 839 dL_law_838 rfl ?_
  refine z_cV1 842 dL_law_839 rfl kX9_seed zw_726 (Nat.le_of_ble_eq_true rfl) ⟨Nat.le_refl _, Nat.le_refl _⟩ (by first | with_reducible assumption | with_reducible exact zup_same _ _ _) ?_
  refine p_seed hI _ (fun a h1 fs1 hs1 ho1 mc => ?_)
  refine z_aload_n 843 dL_law_842 rfl rfl ?_
  refine z_aload_n 844 dL_law_843 rfl rfl ?_
  refine z_iload_n 845 dL_law_844 rfl rfl ?_
  refine z_iconst 846 dL_law_845 rfl ?_
  refine z_iadd 847 dL_law_846 rfl ?_
  refine z_iald 848 dL_law_847 rfl (by first | with_reducible assumption | with_reducible exact zup_same _ _ _) (by omega) (by first | omega | exact zr_b _ | exact zr_and _ _ | exact zr_or _ _ | exact zr_shl _ _) ?_
  refine z_i2l 849 dL_law_848 rfl (by first | omega | exact zr_b _ | exact zr_and _ _ | exact zr_or _ _ | exact zr_shl _ _) ?_
  refine z_bipush 851 dL_law_849 rfl (by decide) ?_
  refine z_lshl 852 dL_law_851 rfl ?_
  refine z_aload_n 853 dL_law_852 rfl rfl ?_
  refine z_iload_n 854 dL_law_853 rfl rfl ?_
  refine z_iconst 855 dL_law_854 rfl ?_
  refine z_iadd 856 dL_law_855 rfl ?_
  refine z_iald 857 dL_law_856 rfl (by first | with_reducible assumption | with_reducible exact zup_same _ _ _) (by omega) (by first | omega | exact zr_b _ | exact zr_and _ _ | exact zr_or _ _ | exact zr_shl _ _) ?_
  refine z_i2l 858 dL_law_857 rfl (by first | omega | exact zr_b _ | exact zr_and _ _ | exact zr_or _ _ | exact zr_shl _ _) ?_
  refine z_ldc2 (x := 4294967295) 861 dL_law_858 rfl zw_1113 ?_
  refine z_land 862 dL_law_861 rfl ?_
  refine z_lor 863 dL_law_862 rfl ?_
  refine z_cV1 866 dL_law_863 rfl kX10_seed zw_1094 (Nat.le_of_ble_eq_true rfl) ⟨Nat.le_refl _, Nat.le_refl _⟩ (by first | with_reducible assumption | with_reducible exact zup_same _ _ _) ?_
  refine mc _ (fun h2 hI2 => ?_)
  refine z_norm2 ?_
  refine z_lcmp 867 dL_law_866 rfl (by exact zn_r _) (by exact zn_r _) ?_
  refine z_if_eq 941 870 dL_law_867 (by decide) rfl (by exact zcmp_r _ _) (fun c867 => ?_) (fun c867 => ?_)
  · try replace c867 := zb_0 c867
    exact k h2 hI2
  · exact absurd (zcmp_s _) c867
theorem lc_drawn (hI : zINV L f h) (hi : 0 ≤ i ∧ i + 4 ≤ (L : Int)) (hL : L ≤ 2048) (hf : ∀ j : Int, 0 ≤ j → j < L → -2147483648 ≤ f j ∧ f j ≤ 2147483647) (k : ∀ h2 : zH, zINV L f h2 → Z (d + 15) (mL nm) zml 941 [some (vR 0), some (vR 2), some (vR 112), some (vI i)] [] h2 Q) : Z (d + 15) (mL nm) zml 872 [some (vR 0), some (vR 2), some (vR 112), some (vI i)] [] h Q := by
  have hs := hI.1
  obtain ⟨fs0, ho2⟩ := hI.ob2
  have r1 := hf (i + 1) (by omega) (by omega)
  have r2 := hf (i + 2) (by omega) (by omega)
  have r3 := hf (i + 3) (by omega) (by omega)
  refine z_aload_n 873 dL_law_872 rfl rfl ?_
  refine z_aload_n 874 dL_law_873 rfl rfl ?_
  refine z_iload_n 875 dL_law_874 rfl rfl ?_
  refine z_iconst 876 dL_law_875 rfl ?_
  refine z_iadd 877 dL_law_876 rfl ?_
  refine z_iald 878 dL_law_877 rfl (by first | with_reducible assumption | with_reducible exact zup_same _ _ _) (by omega) (by first | omega | exact zr_b _ | exact zr_and _ _ | exact zr_or _ _ | exact zr_shl _ _) ?_
  refine z_cV1 881 dL_law_878 rfl kX9_drawn zw_730 (Nat.le_of_ble_eq_true rfl) ⟨Nat.le_refl _, Nat.le_refl _⟩ (by first | with_reducible assumption | with_reducible exact zup_same _ _ _) ?_
  refine p_drawn hI r1 _ (fun a h1 fs1 ra hs1 ho1 mc => ?_)
  refine z_aload_n 882 dL_law_881 rfl rfl ?_
  refine z_aload_n 883 dL_law_882 rfl rfl ?_
  refine z_iload_n 884 dL_law_883 rfl rfl ?_
  refine z_iconst 885 dL_law_884 rfl ?_
  refine z_iadd 886 dL_law_885 rfl ?_
  refine z_iald 887 dL_law_886 rfl (by first | with_reducible assumption | with_reducible exact zup_same _ _ _) (by omega) (by first | omega | exact zr_b _ | exact zr_and _ _ | exact zr_or _ _ | exact zr_shl _ _) ?_
  refine z_cV1 890 dL_law_887 rfl kX10_drawn zw_1098 (Nat.le_of_ble_eq_true rfl) ⟨Nat.le_refl _, Nat.le_refl _⟩ (by first | with_reducible assumption | with_reducible exact zup_same _ _ _) ?_
  refine mc _ (fun h2 hI2 => ?_)
  refine z_icmp_eq 941 893 dL_law_890 (by decide) rfl (by first | omega | exact zr_b _ | exact zr_and _ _ | exact zr_or _ _ | exact zr_shl _ _) (by first | omega | exact zr_b _ | exact zr_and _ _ | exact zr_or _ _ | exact zr_shl _ _) (fun c890 => ?_) (fun c890 => ?_)
  · exact k h2 hI2
  · exact absurd rfl c890
theorem lc_keep (hI : zINV L f h) (hi : 0 ≤ i ∧ i + 4 ≤ (L : Int)) (hL : L ≤ 2048) (hf : ∀ j : Int, 0 ≤ j → j < L → -2147483648 ≤ f j ∧ f j ≤ 2147483647) (k : ∀ h2 : zH, zINV L f h2 → Z (d + 15) (mL nm) zml 941 [some (vR 0), some (vR 2), some (vR 112), some (vI i)] [] h2 Q) : Z (d + 15) (mL nm) zml 895 [some (vR 0), some (vR 2), some (vR 112), some (vI i)] [] h Q := by
  have hs := hI.1
  obtain ⟨fs0, ho2⟩ := hI.ob2
  have r1 := hf (i + 1) (by omega) (by omega)
  have r2 := hf (i + 2) (by omega) (by omega)
  have r3 := hf (i + 3) (by omega) (by omega)
  refine z_aload_n 896 dL_law_895 rfl rfl ?_
  refine z_aload_n 897 dL_law_896 rfl rfl ?_
  refine z_iload_n 898 dL_law_897 rfl rfl ?_
  refine z_iconst 899 dL_law_898 rfl ?_
  refine z_iadd 900 dL_law_899 rfl ?_
  refine z_iald 901 dL_law_900 rfl (by first | with_reducible assumption | with_reducible exact zup_same _ _ _) (by omega) (by first | omega | exact zr_b _ | exact zr_and _ _ | exact zr_or _ _ | exact zr_shl _ _) ?_
  refine z_cV1 904 dL_law_901 rfl kX9_keep zw_740 (Nat.le_of_ble_eq_true rfl) ⟨Nat.le_refl _, Nat.le_refl _⟩ (by first | with_reducible assumption | with_reducible exact zup_same _ _ _) ?_
  refine p_keep hI r1 _ (fun a h1 fs1 ra hs1 ho1 mc => ?_)
  refine z_aload_n 905 dL_law_904 rfl rfl ?_
  refine z_aload_n 906 dL_law_905 rfl rfl ?_
  refine z_iload_n 907 dL_law_906 rfl rfl ?_
  refine z_iconst 908 dL_law_907 rfl ?_
  refine z_iadd 909 dL_law_908 rfl ?_
  refine z_iald 910 dL_law_909 rfl (by first | with_reducible assumption | with_reducible exact zup_same _ _ _) (by omega) (by first | omega | exact zr_b _ | exact zr_and _ _ | exact zr_or _ _ | exact zr_shl _ _) ?_
  refine z_cV1 913 dL_law_910 rfl kX10_keep zw_1105 (Nat.le_of_ble_eq_true rfl) ⟨Nat.le_refl _, Nat.le_refl _⟩ (by first | with_reducible assumption | with_reducible exact zup_same _ _ _) ?_
  refine mc _ (fun h2 hI2 => ?_)
  refine z_icmp_eq 941 916 dL_law_913 (by decide) rfl (by first | omega | exact zr_b _ | exact zr_and _ _ | exact zr_or _ _ | exact zr_shl _ _) (by first | omega | exact zr_b _ | exact zr_and _ _ | exact zr_or _ _ | exact zr_shl _ _) (fun c913 => ?_) (fun c913 => ?_)
  · exact k h2 hI2
  · exact absurd rfl c913
theorem lc_again (hI : zINV L f h) (hi : 0 ≤ i ∧ i + 4 ≤ (L : Int)) (hL : L ≤ 2048) (hf : ∀ j : Int, 0 ≤ j → j < L → -2147483648 ≤ f j ∧ f j ≤ 2147483647) (k : ∀ h2 : zH, zINV L f h2 → Z (d + 15) (mL nm) zml 941 [some (vR 0), some (vR 2), some (vR 112), some (vI i)] [] h2 Q) : Z (d + 15) (mL nm) zml 918 [some (vR 0), some (vR 2), some (vR 112), some (vI i)] [] h Q := by
  have hs := hI.1
  obtain ⟨fs0, ho2⟩ := hI.ob2
  have r1 := hf (i + 1) (by omega) (by omega)
  have r2 := hf (i + 2) (by omega) (by omega)
  have r3 := hf (i + 3) (by omega) (by omega)
  refine z_aload_n 919 dL_law_918 rfl rfl ?_
  refine z_aload_n 920 dL_law_919 rfl rfl ?_
  refine z_iload_n 921 dL_law_920 rfl rfl ?_
  refine z_iconst 922 dL_law_921 rfl ?_
  refine z_iadd 923 dL_law_922 rfl ?_
  refine z_iald 924 dL_law_923 rfl (by first | with_reducible assumption | with_reducible exact zup_same _ _ _) (by omega) (by first | omega | exact zr_b _ | exact zr_and _ _ | exact zr_or _ _ | exact zr_shl _ _) ?_
  refine z_cV1 927 dL_law_924 rfl kX9_again zw_749 (Nat.le_of_ble_eq_true rfl) ⟨Nat.le_refl _, Nat.le_refl _⟩ (by first | with_reducible assumption | with_reducible exact zup_same _ _ _) ?_
  refine p_again hI r1 _ (fun a h1 fs1 ra hs1 ho1 mc => ?_)
  refine z_aload_n 928 dL_law_927 rfl rfl ?_
  refine z_aload_n 929 dL_law_928 rfl rfl ?_
  refine z_iload_n 930 dL_law_929 rfl rfl ?_
  refine z_iconst 931 dL_law_930 rfl ?_
  refine z_iadd 932 dL_law_931 rfl ?_
  refine z_iald 933 dL_law_932 rfl (by first | with_reducible assumption | with_reducible exact zup_same _ _ _) (by omega) (by first | omega | exact zr_b _ | exact zr_and _ _ | exact zr_or _ _ | exact zr_shl _ _) ?_
  refine z_cV1 936 dL_law_933 rfl kX10_again zw_1109 (Nat.le_of_ble_eq_true rfl) ⟨Nat.le_refl _, Nat.le_refl _⟩ (by first | with_reducible assumption | with_reducible exact zup_same _ _ _) ?_
  refine mc _ (fun h2 hI2 => ?_)
  refine z_icmp_eq 941 939 dL_law_936 (by decide) rfl (by first | omega | exact zr_b _ | exact zr_and _ _ | exact zr_or _ _ | exact zr_shl _ _) (by first | omega | exact zr_b _ | exact zr_and _ _ | exact zr_or _ _ | exact zr_shl _ _) (fun c936 => ?_) (fun c936 => ?_)
  · exact k h2 hI2
  · exact absurd rfl c936
end LAWC
