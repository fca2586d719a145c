/-! ===== the law's loop ===== -/
theorem al.rf {A : Nat → Nat → Int32} {F : Nat → Int32} : al A A F F := ⟨fun _ _ => rfl, rfl, rfl, rfl⟩
theorem sc.al {A A2 : Nat → Nat → Int32} {F : Nat → Int32} (h : sc A A2) : al A A2 F F := by
  refine ⟨fun f hf => h f ?_ ?_, rfl, rfl, rfl⟩ <;> (intro e; subst e; exact absurd hf (by decide))
theorem se.al {A A2 : Nat → Nat → Int32} {F : Nat → Int32} (h : se A A2) : al A A2 F F := by
  refine ⟨fun f hf => h f ?_ ?_ ?_ ?_ ?_, rfl, rfl, rfl⟩ <;> (intro e; subst e; exact absurd hf (by decide))
theorem al_c {A : Nat → Nat → Int32} {F : Nat → Int32} (r q : Nat → Int32) : al (va_up A 294 q) (va_up (va_up A 314 r) 294 q) F F := by
  refine ⟨fun f hf => ?_, rfl, rfl, rfl⟩
  by_cases e : f = 294
  · subst e; rw [va_up_self, va_up_self]
  · rw [va_up_ne _ _ e, va_up_ne _ _ e, va_up_ne _ _ (by intro w; subst w; exact absurd hf (by decide))]
theorem al_t {A : Nat → Nat → Int32} {F F2 : Nat → Int32} (h1 : F2 301 = 0) (h2 : ∀ f, (f < 301 ∨ 311 < f) → F2 f = F f) : al A A (va_up F 301 0) F2 := ⟨fun _ _ => rfl, (h2 291 (by decide)).trans (va_up_ne _ _ (by decide)).symm, h1.trans (va_up_self _ _ _).symm, (h2 316 (by decide)).trans (va_up_ne _ _ (by decide)).symm⟩
theorem law_gt {N i : Nat} (hN : N < 2 ^ 29) (hi : i < 2 ^ 30) : nI N - 6 < nI i ↔ N < i + 6 := by
  have e : (nI N - 6).toInt = (N : Int) - 6 := by
    rw [Int32.toInt_sub, nI_toInt (by omega)]
    exact Int.bmod_eq_of_le (by show -(2 ^ 32 : Int) / 2 ≤ N - 6; omega) (by show (N : Int) - 6 < (2 ^ 32 + 1) / 2; omega)
  rw [Int32.lt_iff_toInt_lt, e, nI_toInt (by omega)]
  omega
set_option maxRecDepth 100000 in
set_option maxHeartbeats 40000000 in
theorem law_L {x : pX} {d : Nat} {Q : Int32 → pS → Prop} {cc m a N : Nat} {lv im tr ct as : Nat → Nat} {f : Nat → Value} {w : Nat → Int32} (hxA : XA x) (hxS : XS x) (hm : (FieldType.int, a, N, f) ∈ x.2.2.1) (hN : N < 2 ^ 29) (hf : ∀ k, k < N → f k = .int (w k)) (h : ∀ S, Q 1 S) : ∀ (c i : Nat) (S : pS) (A : Nat → Nat → Int32) (F : Nat → Int32) (n nt np : Nat) (b : Nat × Nat), N < i + 6 * (c + 1) → i ≤ N + 6 → 3 * c ≤ b.1 → 196 * c ≤ b.2 → IV S cc m lv im tr ct as A F n nt np → MR S m as A F → V x (d + 732) M_L_law (qi Q) b 18 [(0, .ref a), (1, .ref cc), (2, .ref m), (3, .int (nI i))] [] S := by
  intro c
  induction c with
  | zero =>
    intro i S A F n nt np b h1 h2 h3 h4 hI hR
    refine V_iln (pc := 18) dL_law_18 rfl rfl ?_
    refine V_aln (pc := 19) dL_law_19 rfl rfl ?_
    refine V_lenx (pc := 20) dL_law_20 hm ?_
    refine V_bipush (pc := 21) (v := 6) dL_law_21 (by decide) ?_
    refine V_isub (pc := 23) dL_law_23 ?_
    refine V_cgt (pc := 24) (t := 1468) dL_law_24 (by decide) (fun h24 => ?_) (fun h24 => ?_)
    · refine V_iconst (pc := 1468) (v := 1) dL_law_1468 (by decide) ?_
      refine V_iret (pc := 1469) dL_law_1469 rfl rfl ?_
      exact h S
    · exact absurd ((law_gt hN (by omega)).mpr (by omega)) h24
  | succ c ih =>
    intro i S A F n nt np b h1 h2 h3 h4 hI hR
    by_cases hx : N < i + 6
    · refine V_iln (pc := 18) dL_law_18 rfl rfl ?_
      refine V_aln (pc := 19) dL_law_19 rfl rfl ?_
      refine V_lenx (pc := 20) dL_law_20 hm ?_
      refine V_bipush (pc := 21) (v := 6) dL_law_21 (by decide) ?_
      refine V_isub (pc := 23) dL_law_23 ?_
      refine V_cgt (pc := 24) (t := 1468) dL_law_24 (by decide) (fun h24 => ?_) (fun h24 => ?_)
      · refine V_iconst (pc := 1468) (v := 1) dL_law_1468 (by decide) ?_
        refine V_iret (pc := 1469) dL_law_1469 rfl rfl ?_
        exact h S
      · exact absurd ((law_gt hN (by omega)).mpr hx) h24
    · have hMI := hI.2.2.1.2.2.1
      obtain ⟨L, h96, hL⟩ := hI.2.2.2.2.2.2.2.1
      obtain ⟨ww, hw60, hw⟩ := hI.2.2.2.2.2.2.1.1
      refine V_iln (pc := 18) dL_law_18 rfl rfl ?_
      refine V_aln (pc := 19) dL_law_19 rfl rfl ?_
      refine V_lenx (pc := 20) dL_law_20 hm ?_
      refine V_bipush (pc := 21) (v := 6) dL_law_21 (by decide) ?_
      refine V_isub (pc := 23) dL_law_23 ?_
      refine V_cgt (pc := 24) (t := 1468) dL_law_24 (by decide) (fun h24 => ?_) (fun h24 => ?_)
      · exact absurd ((law_gt hN (by omega)).mp h24) (by omega)
      · refine V_aln (pc := 27) dL_law_27 rfl rfl ?_
        refine V_iln (pc := 28) dL_law_28 rfl rfl ?_
        refine V_iax (pc := 29) (i) dL_law_29 hm (by omega) rfl (by omega) ?_
        rw [hf (i) (by omega)]
        refine V_bipush (pc := 30) (v := 63) dL_law_30 (by decide) ?_
        refine V_iand (pc := 32) dL_law_32 ?_
        refine V_tab (pc := 33) (t := 1462) [216, 249, 282, 315, 348, 381, 424, 447, 470, 513, 556, 579, 612, 625, 648, 681, 714, 747, 770, 793, 826, 849, 862, 885, 928, 951, 964, 997, 1020, 1063, 1106, 1129, 1162, 1225, 1268, 1301, 1334, 1367, 1390, 1413, 1426, 1439] dL_law_33 (by decide) (by decide) (by decide) (fun i33 q33 hq33 he33 => ?_) (fun ho33 => ?_)
        · match i33, hq33, he33 with
          | 0, hq, he => 
            cases hq
            refine V_aln (pc := 216) dL_law_216 rfl rfl ?_
            refine V_aln (pc := 217) dL_law_217 rfl rfl ?_
            refine V_iln (pc := 218) dL_law_218 rfl rfl ?_
            refine V_iconst (pc := 219) (v := 1) dL_law_219 (by decide) ?_
            refine V_iadd (pc := 220) dL_law_220 ?_
            refine V_iax (pc := 221) (i + 1) dL_law_221 hm (by omega) (by simp only [fa_lit, nI_add, pk_mul]) (by omega) ?_
            rw [hf (i + 1) (by omega)]
            refine V_aln (pc := 222) dL_law_222 rfl rfl ?_
            refine V_iln (pc := 223) dL_law_223 rfl rfl ?_
            refine V_iconst (pc := 224) (v := 2) dL_law_224 (by decide) ?_
            refine V_iadd (pc := 225) dL_law_225 ?_
            refine V_iax (pc := 226) (i + 2) dL_law_226 hm (by omega) (by simp only [fa_lit, nI_add, pk_mul]) (by omega) ?_
            rw [hf (i + 2) (by omega)]
            refine V_cVi0 (pc := 227) (jc_L_13 dL_law_227 rfl) rfl rfl (Nat.le_of_ble_eq_true rfl) hI.1.1 ?_
            refine C_weight hI (fun S2 n2 nt2 np2 h2 => ?_)
            have hM2 := h2.1.mf hI.2.1
            have e2 := (h2.1.mr hI.2.1 hR).eq
            refine V_aln (pc := 230) dL_law_230 rfl rfl ?_
            refine V_aln (pc := 231) dL_law_231 rfl rfl ?_
            refine V_iln (pc := 232) dL_law_232 rfl rfl ?_
            refine V_iconst (pc := 233) (v := 1) dL_law_233 (by decide) ?_
            refine V_iadd (pc := 234) dL_law_234 ?_
            refine V_iax (pc := 235) (i + 1) dL_law_235 hm (by omega) (by simp only [fa_lit, nI_add, pk_mul]) (by omega) ?_
            rw [hf (i + 1) (by omega)]
            refine V_aln (pc := 236) dL_law_236 rfl rfl ?_
            refine V_iln (pc := 237) dL_law_237 rfl rfl ?_
            refine V_iconst (pc := 238) (v := 2) dL_law_238 (by decide) ?_
            refine V_iadd (pc := 239) dL_law_239 ?_
            refine V_iax (pc := 240) (i + 2) dL_law_240 hm (by omega) (by simp only [fa_lit, nI_add, pk_mul]) (by omega) ?_
            rw [hf (i + 2) (by omega)]
            refine V_cVi0 (pc := 241) (jc_L_17 dL_law_241 rfl) rfl rfl (Nat.le_of_ble_eq_true rfl) hM2.1 ?_
            rw [← e2]
            refine M_weight hM2 hMI (fun A2 s2 => ?_)
            refine V_ceq (pc := 244) (t := 1462) dL_law_244 (by decide) (fun h244 => ?_) (fun h244 => ?_)
            · refine V_inc (pc := 1462) (fun y => [(0, .ref a), (1, .ref cc), (2, .ref m), (3, .int y)]) (w := 6) dL_law_1462 (by decide) (by decide) rfl (fun _ => rfl) (fun y1462 ey1462 => ?_)
              obtain rfl : y1462 = nI (i + 6) := by rw [ey1462]; simp only [fa_lit, nI_add]
              refine V_goto (pc := 1465) (t := 18) dL_law_1465 (by decide) ?_
              exact ih (i + 6) _ _ _ n2 nt2 np2 _ (by omega) (by omega) (by first | omega | (show 3 * c ≤ b.1 - 3; omega)) (by first | omega | (show 196 * c ≤ b.2 - 196; omega)) (h2.2.md s2.al _ _) (mP_MR hM2)
            · exact absurd rfl h244
          | 1, hq, he => 
            cases hq
            refine V_aln (pc := 249) dL_law_249 rfl rfl ?_
            refine V_aln (pc := 250) dL_law_250 rfl rfl ?_
            refine V_iln (pc := 251) dL_law_251 rfl rfl ?_
            refine V_iconst (pc := 252) (v := 1) dL_law_252 (by decide) ?_
            refine V_iadd (pc := 253) dL_law_253 ?_
            refine V_iax (pc := 254) (i + 1) dL_law_254 hm (by omega) (by simp only [fa_lit, nI_add, pk_mul]) (by omega) ?_
            rw [hf (i + 1) (by omega)]
            refine V_aln (pc := 255) dL_law_255 rfl rfl ?_
            refine V_iln (pc := 256) dL_law_256 rfl rfl ?_
            refine V_iconst (pc := 257) (v := 2) dL_law_257 (by decide) ?_
            refine V_iadd (pc := 258) dL_law_258 ?_
            refine V_iax (pc := 259) (i + 2) dL_law_259 hm (by omega) (by simp only [fa_lit, nI_add, pk_mul]) (by omega) ?_
            rw [hf (i + 2) (by omega)]
            refine V_cVi0 (pc := 260) (jc_L_18 dL_law_260 rfl) rfl rfl (Nat.le_of_ble_eq_true rfl) hI.1.1 ?_
            refine C_told hI (fun S2 n2 nt2 np2 h2 => ?_)
            have hM2 := h2.1.mf hI.2.1
            have e2 := (h2.1.mr hI.2.1 hR).eq
            refine V_aln (pc := 263) dL_law_263 rfl rfl ?_
            refine V_aln (pc := 264) dL_law_264 rfl rfl ?_
            refine V_iln (pc := 265) dL_law_265 rfl rfl ?_
            refine V_iconst (pc := 266) (v := 1) dL_law_266 (by decide) ?_
            refine V_iadd (pc := 267) dL_law_267 ?_
            refine V_iax (pc := 268) (i + 1) dL_law_268 hm (by omega) (by simp only [fa_lit, nI_add, pk_mul]) (by omega) ?_
            rw [hf (i + 1) (by omega)]
            refine V_aln (pc := 269) dL_law_269 rfl rfl ?_
            refine V_iln (pc := 270) dL_law_270 rfl rfl ?_
            refine V_iconst (pc := 271) (v := 2) dL_law_271 (by decide) ?_
            refine V_iadd (pc := 272) dL_law_272 ?_
            refine V_iax (pc := 273) (i + 2) dL_law_273 hm (by omega) (by simp only [fa_lit, nI_add, pk_mul]) (by omega) ?_
            rw [hf (i + 2) (by omega)]
            refine V_cVi0 (pc := 274) (jc_L_21 dL_law_274 rfl) rfl rfl (Nat.le_of_ble_eq_true rfl) hM2.1 ?_
            rw [← e2]
            refine M_told hM2 hMI (fun A2 s2 => ?_)
            refine V_ceq (pc := 277) (t := 1462) dL_law_277 (by decide) (fun h277 => ?_) (fun h277 => ?_)
            · refine V_inc (pc := 1462) (fun y => [(0, .ref a), (1, .ref cc), (2, .ref m), (3, .int y)]) (w := 6) dL_law_1462 (by decide) (by decide) rfl (fun _ => rfl) (fun y1462 ey1462 => ?_)
              obtain rfl : y1462 = nI (i + 6) := by rw [ey1462]; simp only [fa_lit, nI_add]
              refine V_goto (pc := 1465) (t := 18) dL_law_1465 (by decide) ?_
              exact ih (i + 6) _ _ _ n2 nt2 np2 _ (by omega) (by omega) (by first | omega | (show 3 * c ≤ b.1 - 3; omega)) (by first | omega | (show 196 * c ≤ b.2 - 196; omega)) (h2.2.md s2.al _ _) (mP_MR hM2)
            · exact absurd rfl h277
          | 2, hq, he => 
            cases hq
            refine V_aln (pc := 282) dL_law_282 rfl rfl ?_
            refine V_aln (pc := 283) dL_law_283 rfl rfl ?_
            refine V_iln (pc := 284) dL_law_284 rfl rfl ?_
            refine V_iconst (pc := 285) (v := 1) dL_law_285 (by decide) ?_
            refine V_iadd (pc := 286) dL_law_286 ?_
            refine V_iax (pc := 287) (i + 1) dL_law_287 hm (by omega) (by simp only [fa_lit, nI_add, pk_mul]) (by omega) ?_
            rw [hf (i + 1) (by omega)]
            refine V_aln (pc := 288) dL_law_288 rfl rfl ?_
            refine V_iln (pc := 289) dL_law_289 rfl rfl ?_
            refine V_iconst (pc := 290) (v := 2) dL_law_290 (by decide) ?_
            refine V_iadd (pc := 291) dL_law_291 ?_
            refine V_iax (pc := 292) (i + 2) dL_law_292 hm (by omega) (by simp only [fa_lit, nI_add, pk_mul]) (by omega) ?_
            rw [hf (i + 2) (by omega)]
            refine V_cVi0 (pc := 293) (jc_L_22 dL_law_293 rfl) rfl rfl (Nat.le_of_ble_eq_true rfl) hI.1.1 ?_
            refine C_as hI hxA (fun S2 n2 nt2 np2 h2 => ?_)
            have hM2 := h2.1.mf hI.2.1
            have e2 := (h2.1.mr hI.2.1 hR).eq
            refine V_aln (pc := 296) dL_law_296 rfl rfl ?_
            refine V_aln (pc := 297) dL_law_297 rfl rfl ?_
            refine V_iln (pc := 298) dL_law_298 rfl rfl ?_
            refine V_iconst (pc := 299) (v := 1) dL_law_299 (by decide) ?_
            refine V_iadd (pc := 300) dL_law_300 ?_
            refine V_iax (pc := 301) (i + 1) dL_law_301 hm (by omega) (by simp only [fa_lit, nI_add, pk_mul]) (by omega) ?_
            rw [hf (i + 1) (by omega)]
            refine V_aln (pc := 302) dL_law_302 rfl rfl ?_
            refine V_iln (pc := 303) dL_law_303 rfl rfl ?_
            refine V_iconst (pc := 304) (v := 2) dL_law_304 (by decide) ?_
            refine V_iadd (pc := 305) dL_law_305 ?_
            refine V_iax (pc := 306) (i + 2) dL_law_306 hm (by omega) (by simp only [fa_lit, nI_add, pk_mul]) (by omega) ?_
            rw [hf (i + 2) (by omega)]
            refine V_cVi0 (pc := 307) (jc_L_25 dL_law_307 rfl) rfl rfl (Nat.le_of_ble_eq_true rfl) hM2.1 ?_
            rw [← e2]
            refine M_as hM2 hMI ?_
            refine V_ceq (pc := 310) (t := 1462) dL_law_310 (by decide) (fun h310 => ?_) (fun h310 => ?_)
            · refine V_inc (pc := 1462) (fun y => [(0, .ref a), (1, .ref cc), (2, .ref m), (3, .int y)]) (w := 6) dL_law_1462 (by decide) (by decide) rfl (fun _ => rfl) (fun y1462 ey1462 => ?_)
              obtain rfl : y1462 = nI (i + 6) := by rw [ey1462]; simp only [fa_lit, nI_add]
              refine V_goto (pc := 1465) (t := 18) dL_law_1465 (by decide) ?_
              exact ih (i + 6) _ _ _ n2 nt2 np2 _ (by omega) (by omega) (by first | omega | (show 3 * c ≤ b.1 - 3; omega)) (by first | omega | (show 196 * c ≤ b.2 - 196; omega)) (h2.2.md al.rf _ _) (mP_MR hM2)
            · exact absurd rfl h310
          | 3, hq, he => 
            cases hq
            refine V_aln (pc := 315) dL_law_315 rfl rfl ?_
            refine V_aln (pc := 316) dL_law_316 rfl rfl ?_
            refine V_iln (pc := 317) dL_law_317 rfl rfl ?_
            refine V_iconst (pc := 318) (v := 1) dL_law_318 (by decide) ?_
            refine V_iadd (pc := 319) dL_law_319 ?_
            refine V_iax (pc := 320) (i + 1) dL_law_320 hm (by omega) (by simp only [fa_lit, nI_add, pk_mul]) (by omega) ?_
            rw [hf (i + 1) (by omega)]
            refine V_aln (pc := 321) dL_law_321 rfl rfl ?_
            refine V_iln (pc := 322) dL_law_322 rfl rfl ?_
            refine V_iconst (pc := 323) (v := 2) dL_law_323 (by decide) ?_
            refine V_iadd (pc := 324) dL_law_324 ?_
            refine V_iax (pc := 325) (i + 2) dL_law_325 hm (by omega) (by simp only [fa_lit, nI_add, pk_mul]) (by omega) ?_
            rw [hf (i + 2) (by omega)]
            refine V_cVi0 (pc := 326) (jc_L_26 dL_law_326 rfl) rfl rfl (Nat.le_of_ble_eq_true rfl) hI.1.1 ?_
            refine C_turns hI (fun S2 n2 nt2 np2 h2 => ?_)
            have hM2 := h2.1.mf hI.2.1
            have e2 := (h2.1.mr hI.2.1 hR).eq
            refine V_aln (pc := 329) dL_law_329 rfl rfl ?_
            refine V_aln (pc := 330) dL_law_330 rfl rfl ?_
            refine V_iln (pc := 331) dL_law_331 rfl rfl ?_
            refine V_iconst (pc := 332) (v := 1) dL_law_332 (by decide) ?_
            refine V_iadd (pc := 333) dL_law_333 ?_
            refine V_iax (pc := 334) (i + 1) dL_law_334 hm (by omega) (by simp only [fa_lit, nI_add, pk_mul]) (by omega) ?_
            rw [hf (i + 1) (by omega)]
            refine V_aln (pc := 335) dL_law_335 rfl rfl ?_
            refine V_iln (pc := 336) dL_law_336 rfl rfl ?_
            refine V_iconst (pc := 337) (v := 2) dL_law_337 (by decide) ?_
            refine V_iadd (pc := 338) dL_law_338 ?_
            refine V_iax (pc := 339) (i + 2) dL_law_339 hm (by omega) (by simp only [fa_lit, nI_add, pk_mul]) (by omega) ?_
            rw [hf (i + 2) (by omega)]
            refine V_cVi0 (pc := 340) (jc_L_29 dL_law_340 rfl) rfl rfl (Nat.le_of_ble_eq_true rfl) hM2.1 ?_
            rw [← e2]
            refine M_turns hM2 hMI (fun A2 s2 => ?_)
            refine V_ceq (pc := 343) (t := 1462) dL_law_343 (by decide) (fun h343 => ?_) (fun h343 => ?_)
            · refine V_inc (pc := 1462) (fun y => [(0, .ref a), (1, .ref cc), (2, .ref m), (3, .int y)]) (w := 6) dL_law_1462 (by decide) (by decide) rfl (fun _ => rfl) (fun y1462 ey1462 => ?_)
              obtain rfl : y1462 = nI (i + 6) := by rw [ey1462]; simp only [fa_lit, nI_add]
              refine V_goto (pc := 1465) (t := 18) dL_law_1465 (by decide) ?_
              exact ih (i + 6) _ _ _ n2 nt2 np2 _ (by omega) (by omega) (by first | omega | (show 3 * c ≤ b.1 - 3; omega)) (by first | omega | (show 196 * c ≤ b.2 - 196; omega)) (h2.2.md s2.al _ _) (mP_MR hM2)
            · exact absurd rfl h343
          | 4, hq, he => 
            cases hq
            refine V_aln (pc := 348) dL_law_348 rfl rfl ?_
            refine V_aln (pc := 349) dL_law_349 rfl rfl ?_
            refine V_iln (pc := 350) dL_law_350 rfl rfl ?_
            refine V_iconst (pc := 351) (v := 1) dL_law_351 (by decide) ?_
            refine V_iadd (pc := 352) dL_law_352 ?_
            refine V_iax (pc := 353) (i + 1) dL_law_353 hm (by omega) (by simp only [fa_lit, nI_add, pk_mul]) (by omega) ?_
            rw [hf (i + 1) (by omega)]
            refine V_aln (pc := 354) dL_law_354 rfl rfl ?_
            refine V_iln (pc := 355) dL_law_355 rfl rfl ?_
            refine V_iconst (pc := 356) (v := 2) dL_law_356 (by decide) ?_
            refine V_iadd (pc := 357) dL_law_357 ?_
            refine V_iax (pc := 358) (i + 2) dL_law_358 hm (by omega) (by simp only [fa_lit, nI_add, pk_mul]) (by omega) ?_
            rw [hf (i + 2) (by omega)]
            refine V_cVi0 (pc := 359) (jc_L_30 dL_law_359 rfl) rfl rfl (Nat.le_of_ble_eq_true rfl) hI.1.1 ?_
            refine C_file hI (fun S2 n2 nt2 np2 h2 => ?_)
            have hM2 := h2.1.mf hI.2.1
            have e2 := (h2.1.mr hI.2.1 hR).eq
            refine V_aln (pc := 362) dL_law_362 rfl rfl ?_
            refine V_aln (pc := 363) dL_law_363 rfl rfl ?_
            refine V_iln (pc := 364) dL_law_364 rfl rfl ?_
            refine V_iconst (pc := 365) (v := 1) dL_law_365 (by decide) ?_
            refine V_iadd (pc := 366) dL_law_366 ?_
            refine V_iax (pc := 367) (i + 1) dL_law_367 hm (by omega) (by simp only [fa_lit, nI_add, pk_mul]) (by omega) ?_
            rw [hf (i + 1) (by omega)]
            refine V_aln (pc := 368) dL_law_368 rfl rfl ?_
            refine V_iln (pc := 369) dL_law_369 rfl rfl ?_
            refine V_iconst (pc := 370) (v := 2) dL_law_370 (by decide) ?_
            refine V_iadd (pc := 371) dL_law_371 ?_
            refine V_iax (pc := 372) (i + 2) dL_law_372 hm (by omega) (by simp only [fa_lit, nI_add, pk_mul]) (by omega) ?_
            rw [hf (i + 2) (by omega)]
            refine V_cVi0 (pc := 373) (jc_L_33 dL_law_373 rfl) rfl rfl (Nat.le_of_ble_eq_true rfl) hM2.1 ?_
            rw [← e2]
            refine M_file hM2 hMI (fun A2 s2 => ?_)
            refine V_ceq (pc := 376) (t := 1462) dL_law_376 (by decide) (fun h376 => ?_) (fun h376 => ?_)
            · refine V_inc (pc := 1462) (fun y => [(0, .ref a), (1, .ref cc), (2, .ref m), (3, .int y)]) (w := 6) dL_law_1462 (by decide) (by decide) rfl (fun _ => rfl) (fun y1462 ey1462 => ?_)
              obtain rfl : y1462 = nI (i + 6) := by rw [ey1462]; simp only [fa_lit, nI_add]
              refine V_goto (pc := 1465) (t := 18) dL_law_1465 (by decide) ?_
              exact ih (i + 6) _ _ _ n2 nt2 np2 _ (by omega) (by omega) (by first | omega | (show 3 * c ≤ b.1 - 3; omega)) (by first | omega | (show 196 * c ≤ b.2 - 196; omega)) (h2.2.md s2.al _ _) (mP_MR hM2)
            · exact absurd rfl h376
          | 5, hq, he => 
            cases hq
            refine V_aln (pc := 381) dL_law_381 rfl rfl ?_
            refine V_aln (pc := 382) dL_law_382 rfl rfl ?_
            refine V_iln (pc := 383) dL_law_383 rfl rfl ?_
            refine V_iconst (pc := 384) (v := 1) dL_law_384 (by decide) ?_
            refine V_iadd (pc := 385) dL_law_385 ?_
            refine V_iax (pc := 386) (i + 1) dL_law_386 hm (by omega) (by simp only [fa_lit, nI_add, pk_mul]) (by omega) ?_
            rw [hf (i + 1) (by omega)]
            refine V_aln (pc := 387) dL_law_387 rfl rfl ?_
            refine V_iln (pc := 388) dL_law_388 rfl rfl ?_
            refine V_iconst (pc := 389) (v := 2) dL_law_389 (by decide) ?_
            refine V_iadd (pc := 390) dL_law_390 ?_
            refine V_iax (pc := 391) (i + 2) dL_law_391 hm (by omega) (by simp only [fa_lit, nI_add, pk_mul]) (by omega) ?_
            rw [hf (i + 2) (by omega)]
            refine V_aln (pc := 392) dL_law_392 rfl rfl ?_
            refine V_iln (pc := 393) dL_law_393 rfl rfl ?_
            refine V_iconst (pc := 394) (v := 3) dL_law_394 (by decide) ?_
            refine V_iadd (pc := 395) dL_law_395 ?_
            refine V_iax (pc := 396) (i + 3) dL_law_396 hm (by omega) (by simp only [fa_lit, nI_add, pk_mul]) (by omega) ?_
            rw [hf (i + 3) (by omega)]
            refine V_cVi0 (pc := 397) (jc_L_34 dL_law_397 rfl) rfl rfl (Nat.le_of_ble_eq_true rfl) hI.1.1 ?_
            refine C_arm hI (fun S2 n2 nt2 np2 h2 => ?_)
            have hM2 := h2.1.mf hI.2.1
            have e2 := (h2.1.mr hI.2.1 hR).eq
            refine V_aln (pc := 400) dL_law_400 rfl rfl ?_
            refine V_aln (pc := 401) dL_law_401 rfl rfl ?_
            refine V_iln (pc := 402) dL_law_402 rfl rfl ?_
            refine V_iconst (pc := 403) (v := 1) dL_law_403 (by decide) ?_
            refine V_iadd (pc := 404) dL_law_404 ?_
            refine V_iax (pc := 405) (i + 1) dL_law_405 hm (by omega) (by simp only [fa_lit, nI_add, pk_mul]) (by omega) ?_
            rw [hf (i + 1) (by omega)]
            refine V_aln (pc := 406) dL_law_406 rfl rfl ?_
            refine V_iln (pc := 407) dL_law_407 rfl rfl ?_
            refine V_iconst (pc := 408) (v := 2) dL_law_408 (by decide) ?_
            refine V_iadd (pc := 409) dL_law_409 ?_
            refine V_iax (pc := 410) (i + 2) dL_law_410 hm (by omega) (by simp only [fa_lit, nI_add, pk_mul]) (by omega) ?_
            rw [hf (i + 2) (by omega)]
            refine V_aln (pc := 411) dL_law_411 rfl rfl ?_
            refine V_iln (pc := 412) dL_law_412 rfl rfl ?_
            refine V_iconst (pc := 413) (v := 3) dL_law_413 (by decide) ?_
            refine V_iadd (pc := 414) dL_law_414 ?_
            refine V_iax (pc := 415) (i + 3) dL_law_415 hm (by omega) (by simp only [fa_lit, nI_add, pk_mul]) (by omega) ?_
            rw [hf (i + 3) (by omega)]
            refine V_cVi0 (pc := 416) (jc_L_38 dL_law_416 rfl) rfl rfl (Nat.le_of_ble_eq_true rfl) hM2.1 ?_
            rw [← e2]
            refine M_arm hM2 (fun A2 s2 => ?_)
            refine V_ceq (pc := 419) (t := 1462) dL_law_419 (by decide) (fun h419 => ?_) (fun h419 => ?_)
            · refine V_inc (pc := 1462) (fun y => [(0, .ref a), (1, .ref cc), (2, .ref m), (3, .int y)]) (w := 6) dL_law_1462 (by decide) (by decide) rfl (fun _ => rfl) (fun y1462 ey1462 => ?_)
              obtain rfl : y1462 = nI (i + 6) := by rw [ey1462]; simp only [fa_lit, nI_add]
              refine V_goto (pc := 1465) (t := 18) dL_law_1465 (by decide) ?_
              exact ih (i + 6) _ _ _ n2 nt2 np2 _ (by omega) (by omega) (by first | omega | (show 3 * c ≤ b.1 - 3; omega)) (by first | omega | (show 196 * c ≤ b.2 - 196; omega)) (h2.2.md s2.al _ _) (mP_MR hM2)
            · exact absurd rfl h419
          | 6, hq, he => 
            cases hq
            refine V_aln (pc := 424) dL_law_424 rfl rfl ?_
            refine V_aln (pc := 425) dL_law_425 rfl rfl ?_
            refine V_iln (pc := 426) dL_law_426 rfl rfl ?_
            refine V_iconst (pc := 427) (v := 1) dL_law_427 (by decide) ?_
            refine V_iadd (pc := 428) dL_law_428 ?_
            refine V_iax (pc := 429) (i + 1) dL_law_429 hm (by omega) (by simp only [fa_lit, nI_add, pk_mul]) (by omega) ?_
            rw [hf (i + 1) (by omega)]
            refine V_cVi0 (pc := 430) (jc_L_39 dL_law_430 rfl) rfl rfl (Nat.le_of_ble_eq_true rfl) hI.1.1 ?_
            refine C_deal hI (fun S2 n2 nt2 np2 h2 => ?_)
            have hM2 := h2.1.mf hI.2.1
            have e2 := (h2.1.mr hI.2.1 hR).eq
            refine V_aln (pc := 433) dL_law_433 rfl rfl ?_
            refine V_aln (pc := 434) dL_law_434 rfl rfl ?_
            refine V_iln (pc := 435) dL_law_435 rfl rfl ?_
            refine V_iconst (pc := 436) (v := 1) dL_law_436 (by decide) ?_
            refine V_iadd (pc := 437) dL_law_437 ?_
            refine V_iax (pc := 438) (i + 1) dL_law_438 hm (by omega) (by simp only [fa_lit, nI_add, pk_mul]) (by omega) ?_
            rw [hf (i + 1) (by omega)]
            refine V_cVi0 (pc := 439) (jc_L_43 dL_law_439 rfl) rfl rfl (Nat.le_of_ble_eq_true rfl) hM2.1 ?_
            rw [← e2]
            refine M_deal hM2 hMI (fun A2 s2 => ?_)
            refine V_ceq (pc := 442) (t := 1462) dL_law_442 (by decide) (fun h442 => ?_) (fun h442 => ?_)
            · refine V_inc (pc := 1462) (fun y => [(0, .ref a), (1, .ref cc), (2, .ref m), (3, .int y)]) (w := 6) dL_law_1462 (by decide) (by decide) rfl (fun _ => rfl) (fun y1462 ey1462 => ?_)
              obtain rfl : y1462 = nI (i + 6) := by rw [ey1462]; simp only [fa_lit, nI_add]
              refine V_goto (pc := 1465) (t := 18) dL_law_1465 (by decide) ?_
              exact ih (i + 6) _ _ _ n2 nt2 np2 _ (by omega) (by omega) (by first | omega | (show 3 * c ≤ b.1 - 3; omega)) (by first | omega | (show 196 * c ≤ b.2 - 196; omega)) (h2.2.md s2.al _ _) (mP_MR hM2)
            · exact absurd rfl h442
          | 7, hq, he => 
            cases hq
            refine V_aln (pc := 447) dL_law_447 rfl rfl ?_
            refine V_aln (pc := 448) dL_law_448 rfl rfl ?_
            refine V_iln (pc := 449) dL_law_449 rfl rfl ?_
            refine V_iconst (pc := 450) (v := 1) dL_law_450 (by decide) ?_
            refine V_iadd (pc := 451) dL_law_451 ?_
            refine V_iax (pc := 452) (i + 1) dL_law_452 hm (by omega) (by simp only [fa_lit, nI_add, pk_mul]) (by omega) ?_
            rw [hf (i + 1) (by omega)]
            refine V_cVi0 (pc := 453) (jc_L_44 dL_law_453 rfl) rfl rfl (Nat.le_of_ble_eq_true rfl) hI.1.1 ?_
            refine C_seed hI (fun S2 n2 nt2 np2 h2 => ?_)
            have hM2 := h2.1.mf hI.2.1
            have e2 := (h2.1.mr hI.2.1 hR).eq
            refine V_aln (pc := 456) dL_law_456 rfl rfl ?_
            refine V_aln (pc := 457) dL_law_457 rfl rfl ?_
            refine V_iln (pc := 458) dL_law_458 rfl rfl ?_
            refine V_iconst (pc := 459) (v := 1) dL_law_459 (by decide) ?_
            refine V_iadd (pc := 460) dL_law_460 ?_
            refine V_iax (pc := 461) (i + 1) dL_law_461 hm (by omega) (by simp only [fa_lit, nI_add, pk_mul]) (by omega) ?_
            rw [hf (i + 1) (by omega)]
            refine V_cVi0 (pc := 462) (jc_L_47 dL_law_462 rfl) rfl rfl (Nat.le_of_ble_eq_true rfl) hM2.1 ?_
            rw [← e2]
            refine M_seed hM2 (fun A2 s2 => ?_)
            refine V_ceq (pc := 465) (t := 1462) dL_law_465 (by decide) (fun h465 => ?_) (fun h465 => ?_)
            · refine V_inc (pc := 1462) (fun y => [(0, .ref a), (1, .ref cc), (2, .ref m), (3, .int y)]) (w := 6) dL_law_1462 (by decide) (by decide) rfl (fun _ => rfl) (fun y1462 ey1462 => ?_)
              obtain rfl : y1462 = nI (i + 6) := by rw [ey1462]; simp only [fa_lit, nI_add]
              refine V_goto (pc := 1465) (t := 18) dL_law_1465 (by decide) ?_
              exact ih (i + 6) _ _ _ n2 nt2 np2 _ (by omega) (by omega) (by first | omega | (show 3 * c ≤ b.1 - 3; omega)) (by first | omega | (show 196 * c ≤ b.2 - 196; omega)) (h2.2.md s2.al _ _) (mP_MR hM2)
            · exact absurd rfl h465
          | 8, hq, he => 
            cases hq
            refine V_aln (pc := 470) dL_law_470 rfl rfl ?_
            refine V_aln (pc := 471) dL_law_471 rfl rfl ?_
            refine V_iln (pc := 472) dL_law_472 rfl rfl ?_
            refine V_iconst (pc := 473) (v := 1) dL_law_473 (by decide) ?_
            refine V_iadd (pc := 474) dL_law_474 ?_
            refine V_iax (pc := 475) (i + 1) dL_law_475 hm (by omega) (by simp only [fa_lit, nI_add, pk_mul]) (by omega) ?_
            rw [hf (i + 1) (by omega)]
            refine V_aln (pc := 476) dL_law_476 rfl rfl ?_
            refine V_iln (pc := 477) dL_law_477 rfl rfl ?_
            refine V_iconst (pc := 478) (v := 2) dL_law_478 (by decide) ?_
            refine V_iadd (pc := 479) dL_law_479 ?_
            refine V_iax (pc := 480) (i + 2) dL_law_480 hm (by omega) (by simp only [fa_lit, nI_add, pk_mul]) (by omega) ?_
            rw [hf (i + 2) (by omega)]
            refine V_aln (pc := 481) dL_law_481 rfl rfl ?_
            refine V_iln (pc := 482) dL_law_482 rfl rfl ?_
            refine V_iconst (pc := 483) (v := 3) dL_law_483 (by decide) ?_
            refine V_iadd (pc := 484) dL_law_484 ?_
            refine V_iax (pc := 485) (i + 3) dL_law_485 hm (by omega) (by simp only [fa_lit, nI_add, pk_mul]) (by omega) ?_
            rw [hf (i + 3) (by omega)]
            refine V_cVi0 (pc := 486) (jc_L_48 dL_law_486 rfl) rfl rfl (Nat.le_of_ble_eq_true rfl) hI.1.1 ?_
            refine C_weigh hI (fun S2 n2 nt2 np2 h2 => ?_)
            have hM2 := h2.1.mf hI.2.1
            have e2 := (h2.1.mr hI.2.1 hR).eq
            refine V_aln (pc := 489) dL_law_489 rfl rfl ?_
            refine V_aln (pc := 490) dL_law_490 rfl rfl ?_
            refine V_iln (pc := 491) dL_law_491 rfl rfl ?_
            refine V_iconst (pc := 492) (v := 1) dL_law_492 (by decide) ?_
            refine V_iadd (pc := 493) dL_law_493 ?_
            refine V_iax (pc := 494) (i + 1) dL_law_494 hm (by omega) (by simp only [fa_lit, nI_add, pk_mul]) (by omega) ?_
            rw [hf (i + 1) (by omega)]
            refine V_aln (pc := 495) dL_law_495 rfl rfl ?_
            refine V_iln (pc := 496) dL_law_496 rfl rfl ?_
            refine V_iconst (pc := 497) (v := 2) dL_law_497 (by decide) ?_
            refine V_iadd (pc := 498) dL_law_498 ?_
            refine V_iax (pc := 499) (i + 2) dL_law_499 hm (by omega) (by simp only [fa_lit, nI_add, pk_mul]) (by omega) ?_
            rw [hf (i + 2) (by omega)]
            refine V_aln (pc := 500) dL_law_500 rfl rfl ?_
            refine V_iln (pc := 501) dL_law_501 rfl rfl ?_
            refine V_iconst (pc := 502) (v := 3) dL_law_502 (by decide) ?_
            refine V_iadd (pc := 503) dL_law_503 ?_
            refine V_iax (pc := 504) (i + 3) dL_law_504 hm (by omega) (by simp only [fa_lit, nI_add, pk_mul]) (by omega) ?_
            rw [hf (i + 3) (by omega)]
            refine V_cVi0 (pc := 505) (jc_L_51 dL_law_505 rfl) rfl rfl (Nat.le_of_ble_eq_true rfl) hM2.1 ?_
            rw [← e2]
            refine M_weigh hM2 hMI (fun A2 s2 => ?_)
            refine V_ceq (pc := 508) (t := 1462) dL_law_508 (by decide) (fun h508 => ?_) (fun h508 => ?_)
            · refine V_inc (pc := 1462) (fun y => [(0, .ref a), (1, .ref cc), (2, .ref m), (3, .int y)]) (w := 6) dL_law_1462 (by decide) (by decide) rfl (fun _ => rfl) (fun y1462 ey1462 => ?_)
              obtain rfl : y1462 = nI (i + 6) := by rw [ey1462]; simp only [fa_lit, nI_add]
              refine V_goto (pc := 1465) (t := 18) dL_law_1465 (by decide) ?_
              exact ih (i + 6) _ _ _ n2 nt2 np2 _ (by omega) (by omega) (by first | omega | (show 3 * c ≤ b.1 - 3; omega)) (by first | omega | (show 196 * c ≤ b.2 - 196; omega)) (h2.2.md s2.al _ _) (mP_MR hM2)
            · exact absurd rfl h508
          | 9, hq, he => 
            cases hq
            refine V_aln (pc := 513) dL_law_513 rfl rfl ?_
            refine V_aln (pc := 514) dL_law_514 rfl rfl ?_
            refine V_iln (pc := 515) dL_law_515 rfl rfl ?_
            refine V_iconst (pc := 516) (v := 1) dL_law_516 (by decide) ?_
            refine V_iadd (pc := 517) dL_law_517 ?_
            refine V_iax (pc := 518) (i + 1) dL_law_518 hm (by omega) (by simp only [fa_lit, nI_add, pk_mul]) (by omega) ?_
            rw [hf (i + 1) (by omega)]
            refine V_aln (pc := 519) dL_law_519 rfl rfl ?_
            refine V_iln (pc := 520) dL_law_520 rfl rfl ?_
            refine V_iconst (pc := 521) (v := 2) dL_law_521 (by decide) ?_
            refine V_iadd (pc := 522) dL_law_522 ?_
            refine V_iax (pc := 523) (i + 2) dL_law_523 hm (by omega) (by simp only [fa_lit, nI_add, pk_mul]) (by omega) ?_
            rw [hf (i + 2) (by omega)]
            refine V_aln (pc := 524) dL_law_524 rfl rfl ?_
            refine V_iln (pc := 525) dL_law_525 rfl rfl ?_
            refine V_iconst (pc := 526) (v := 3) dL_law_526 (by decide) ?_
            refine V_iadd (pc := 527) dL_law_527 ?_
            refine V_iax (pc := 528) (i + 3) dL_law_528 hm (by omega) (by simp only [fa_lit, nI_add, pk_mul]) (by omega) ?_
            rw [hf (i + 3) (by omega)]
            refine V_cVi0 (pc := 529) (jc_L_52 dL_law_529 rfl) rfl rfl (Nat.le_of_ble_eq_true rfl) hI.1.1 ?_
            refine C_said hI (fun S2 n2 nt2 np2 h2 => ?_)
            have hM2 := h2.1.mf hI.2.1
            have e2 := (h2.1.mr hI.2.1 hR).eq
            refine V_aln (pc := 532) dL_law_532 rfl rfl ?_
            refine V_aln (pc := 533) dL_law_533 rfl rfl ?_
            refine V_iln (pc := 534) dL_law_534 rfl rfl ?_
            refine V_iconst (pc := 535) (v := 1) dL_law_535 (by decide) ?_
            refine V_iadd (pc := 536) dL_law_536 ?_
            refine V_iax (pc := 537) (i + 1) dL_law_537 hm (by omega) (by simp only [fa_lit, nI_add, pk_mul]) (by omega) ?_
            rw [hf (i + 1) (by omega)]
            refine V_aln (pc := 538) dL_law_538 rfl rfl ?_
            refine V_iln (pc := 539) dL_law_539 rfl rfl ?_
            refine V_iconst (pc := 540) (v := 2) dL_law_540 (by decide) ?_
            refine V_iadd (pc := 541) dL_law_541 ?_
            refine V_iax (pc := 542) (i + 2) dL_law_542 hm (by omega) (by simp only [fa_lit, nI_add, pk_mul]) (by omega) ?_
            rw [hf (i + 2) (by omega)]
            refine V_aln (pc := 543) dL_law_543 rfl rfl ?_
            refine V_iln (pc := 544) dL_law_544 rfl rfl ?_
            refine V_iconst (pc := 545) (v := 3) dL_law_545 (by decide) ?_
            refine V_iadd (pc := 546) dL_law_546 ?_
            refine V_iax (pc := 547) (i + 3) dL_law_547 hm (by omega) (by simp only [fa_lit, nI_add, pk_mul]) (by omega) ?_
            rw [hf (i + 3) (by omega)]
            refine V_cVi0 (pc := 548) (jc_L_55 dL_law_548 rfl) rfl rfl (Nat.le_of_ble_eq_true rfl) hM2.1 ?_
            rw [← e2]
            refine m_said hM2 hMI.1.1 hMI.1.2 ?_
            refine V_ceq (pc := 551) (t := 1462) dL_law_551 (by decide) (fun h551 => ?_) (fun h551 => ?_)
            · refine V_inc (pc := 1462) (fun y => [(0, .ref a), (1, .ref cc), (2, .ref m), (3, .int y)]) (w := 6) dL_law_1462 (by decide) (by decide) rfl (fun _ => rfl) (fun y1462 ey1462 => ?_)
              obtain rfl : y1462 = nI (i + 6) := by rw [ey1462]; simp only [fa_lit, nI_add]
              refine V_goto (pc := 1465) (t := 18) dL_law_1465 (by decide) ?_
              exact ih (i + 6) _ _ _ n2 nt2 np2 _ (by omega) (by omega) (by first | omega | (show 3 * c ≤ b.1 - 3; omega)) (by first | omega | (show 196 * c ≤ b.2 - 196; omega)) (h2.2.md al.rf _ _) (mP_MR hM2)
            · exact absurd rfl h551
          | 10, hq, he => 
            cases hq
            refine V_aln (pc := 556) dL_law_556 rfl rfl ?_
            refine V_aln (pc := 557) dL_law_557 rfl rfl ?_
            refine V_iln (pc := 558) dL_law_558 rfl rfl ?_
            refine V_iconst (pc := 559) (v := 1) dL_law_559 (by decide) ?_
            refine V_iadd (pc := 560) dL_law_560 ?_
            refine V_iax (pc := 561) (i + 1) dL_law_561 hm (by omega) (by simp only [fa_lit, nI_add, pk_mul]) (by omega) ?_
            rw [hf (i + 1) (by omega)]
            refine V_cVi0 (pc := 562) (jc_L_56 dL_law_562 rfl) rfl rfl (Nat.le_of_ble_eq_true rfl) hI.1.1 ?_
            refine C_fall hI (fun S2 n2 nt2 np2 h2 => ?_)
            have hM2 := h2.1.mf hI.2.1
            have e2 := (h2.1.mr hI.2.1 hR).eq
            refine V_aln (pc := 565) dL_law_565 rfl rfl ?_
            refine V_aln (pc := 566) dL_law_566 rfl rfl ?_
            refine V_iln (pc := 567) dL_law_567 rfl rfl ?_
            refine V_iconst (pc := 568) (v := 1) dL_law_568 (by decide) ?_
            refine V_iadd (pc := 569) dL_law_569 ?_
            refine V_iax (pc := 570) (i + 1) dL_law_570 hm (by omega) (by simp only [fa_lit, nI_add, pk_mul]) (by omega) ?_
            rw [hf (i + 1) (by omega)]
            refine V_cVi0 (pc := 571) (jc_L_59 dL_law_571 rfl) rfl rfl (Nat.le_of_ble_eq_true rfl) hM2.1 ?_
            rw [← e2]
            refine M_fall hM2 hMI (fun A2 s2 => ?_)
            refine V_ceq (pc := 574) (t := 1462) dL_law_574 (by decide) (fun h574 => ?_) (fun h574 => ?_)
            · refine V_inc (pc := 1462) (fun y => [(0, .ref a), (1, .ref cc), (2, .ref m), (3, .int y)]) (w := 6) dL_law_1462 (by decide) (by decide) rfl (fun _ => rfl) (fun y1462 ey1462 => ?_)
              obtain rfl : y1462 = nI (i + 6) := by rw [ey1462]; simp only [fa_lit, nI_add]
              refine V_goto (pc := 1465) (t := 18) dL_law_1465 (by decide) ?_
              exact ih (i + 6) _ _ _ n2 nt2 np2 _ (by omega) (by omega) (by first | omega | (show 3 * c ≤ b.1 - 3; omega)) (by first | omega | (show 196 * c ≤ b.2 - 196; omega)) (h2.2.md s2.al _ _) (mP_MR hM2)
            · exact absurd rfl h574
          | 11, hq, he => 
            cases hq
            refine V_aln (pc := 579) dL_law_579 rfl rfl ?_
            refine V_aln (pc := 580) dL_law_580 rfl rfl ?_
            refine V_iln (pc := 581) dL_law_581 rfl rfl ?_
            refine V_iconst (pc := 582) (v := 1) dL_law_582 (by decide) ?_
            refine V_iadd (pc := 583) dL_law_583 ?_
            refine V_iax (pc := 584) (i + 1) dL_law_584 hm (by omega) (by simp only [fa_lit, nI_add, pk_mul]) (by omega) ?_
            rw [hf (i + 1) (by omega)]
            refine V_aln (pc := 585) dL_law_585 rfl rfl ?_
            refine V_iln (pc := 586) dL_law_586 rfl rfl ?_
            refine V_iconst (pc := 587) (v := 2) dL_law_587 (by decide) ?_
            refine V_iadd (pc := 588) dL_law_588 ?_
            refine V_iax (pc := 589) (i + 2) dL_law_589 hm (by omega) (by simp only [fa_lit, nI_add, pk_mul]) (by omega) ?_
            rw [hf (i + 2) (by omega)]
            refine V_cVi0 (pc := 590) (jc_L_60 dL_law_590 rfl) rfl rfl (Nat.le_of_ble_eq_true rfl) hI.1.1 ?_
            refine C_shoot hI (fun S2 n2 nt2 np2 h2 => ?_)
            have hM2 := h2.1.mf hI.2.1
            have e2 := (h2.1.mr hI.2.1 hR).eq
            refine V_aln (pc := 593) dL_law_593 rfl rfl ?_
            refine V_aln (pc := 594) dL_law_594 rfl rfl ?_
            refine V_iln (pc := 595) dL_law_595 rfl rfl ?_
            refine V_iconst (pc := 596) (v := 1) dL_law_596 (by decide) ?_
            refine V_iadd (pc := 597) dL_law_597 ?_
            refine V_iax (pc := 598) (i + 1) dL_law_598 hm (by omega) (by simp only [fa_lit, nI_add, pk_mul]) (by omega) ?_
            rw [hf (i + 1) (by omega)]
            refine V_aln (pc := 599) dL_law_599 rfl rfl ?_
            refine V_iln (pc := 600) dL_law_600 rfl rfl ?_
            refine V_iconst (pc := 601) (v := 2) dL_law_601 (by decide) ?_
            refine V_iadd (pc := 602) dL_law_602 ?_
            refine V_iax (pc := 603) (i + 2) dL_law_603 hm (by omega) (by simp only [fa_lit, nI_add, pk_mul]) (by omega) ?_
            rw [hf (i + 2) (by omega)]
            refine V_cVi0 (pc := 604) (jc_L_63 dL_law_604 rfl) rfl rfl (Nat.le_of_ble_eq_true rfl) hM2.1 ?_
            rw [← e2]
            refine M_shoot hM2 hMI (fun A2 s2 => ?_)
            refine V_ceq (pc := 607) (t := 1462) dL_law_607 (by decide) (fun h607 => ?_) (fun h607 => ?_)
            · refine V_inc (pc := 1462) (fun y => [(0, .ref a), (1, .ref cc), (2, .ref m), (3, .int y)]) (w := 6) dL_law_1462 (by decide) (by decide) rfl (fun _ => rfl) (fun y1462 ey1462 => ?_)
              obtain rfl : y1462 = nI (i + 6) := by rw [ey1462]; simp only [fa_lit, nI_add]
              refine V_goto (pc := 1465) (t := 18) dL_law_1465 (by decide) ?_
              exact ih (i + 6) _ _ _ n2 nt2 np2 _ (by omega) (by omega) (by first | omega | (show 3 * c ≤ b.1 - 3; omega)) (by first | omega | (show 196 * c ≤ b.2 - 196; omega)) (h2.2.md s2.al _ _) (mP_MR hM2)
            · exact absurd rfl h607
          | 12, hq, he => 
            cases hq
            refine V_aln (pc := 612) dL_law_612 rfl rfl ?_
            refine V_cVi0 (pc := 613) (jc_L_64 dL_law_613 rfl) rfl rfl (Nat.le_of_ble_eq_true rfl) hI.1.1 ?_
            refine C_monday hI (fun S2 n2 nt2 np2 h2 => ?_)
            have hM2 := h2.1.mf hI.2.1
            have e2 := (h2.1.mr hI.2.1 hR).eq
            refine V_aln (pc := 616) dL_law_616 rfl rfl ?_
            refine V_cVi0 (pc := 617) (jc_L_68 dL_law_617 rfl) rfl rfl (Nat.le_of_ble_eq_true rfl) hM2.1 ?_
            rw [← e2]
            refine m_monday hM2 hMI (fun A2 s2 => ?_)
            refine V_ceq (pc := 620) (t := 1462) dL_law_620 (by decide) (fun h620 => ?_) (fun h620 => ?_)
            · refine V_inc (pc := 1462) (fun y => [(0, .ref a), (1, .ref cc), (2, .ref m), (3, .int y)]) (w := 6) dL_law_1462 (by decide) (by decide) rfl (fun _ => rfl) (fun y1462 ey1462 => ?_)
              obtain rfl : y1462 = nI (i + 6) := by rw [ey1462]; simp only [fa_lit, nI_add]
              refine V_goto (pc := 1465) (t := 18) dL_law_1465 (by decide) ?_
              exact ih (i + 6) _ _ _ n2 nt2 np2 _ (by omega) (by omega) (by first | omega | (show 3 * c ≤ b.1 - 3; omega)) (by first | omega | (show 196 * c ≤ b.2 - 196; omega)) (h2.2.md s2.al _ _) (mP_MR hM2)
            · exact absurd rfl h620
          | 13, hq, he => 
            cases hq
            refine V_aln (pc := 625) dL_law_625 rfl rfl ?_
            refine V_aln (pc := 626) dL_law_626 rfl rfl ?_
            refine V_iln (pc := 627) dL_law_627 rfl rfl ?_
            refine V_iconst (pc := 628) (v := 1) dL_law_628 (by decide) ?_
            refine V_iadd (pc := 629) dL_law_629 ?_
            refine V_iax (pc := 630) (i + 1) dL_law_630 hm (by omega) (by simp only [fa_lit, nI_add, pk_mul]) (by omega) ?_
            rw [hf (i + 1) (by omega)]
            refine V_cVi0 (pc := 631) (jc_L_69 dL_law_631 rfl) rfl rfl (Nat.le_of_ble_eq_true rfl) hI.1.1 ?_
            refine C_days hI (fun S2 n2 nt2 np2 h2 => ?_)
            have hM2 := h2.1.mf hI.2.1
            have e2 := (h2.1.mr hI.2.1 hR).eq
            refine V_aln (pc := 634) dL_law_634 rfl rfl ?_
            refine V_aln (pc := 635) dL_law_635 rfl rfl ?_
            refine V_iln (pc := 636) dL_law_636 rfl rfl ?_
            refine V_iconst (pc := 637) (v := 1) dL_law_637 (by decide) ?_
            refine V_iadd (pc := 638) dL_law_638 ?_
            refine V_iax (pc := 639) (i + 1) dL_law_639 hm (by omega) (by simp only [fa_lit, nI_add, pk_mul]) (by omega) ?_
            rw [hf (i + 1) (by omega)]
            refine V_cVi0 (pc := 640) (jc_L_72 dL_law_640 rfl) rfl rfl (Nat.le_of_ble_eq_true rfl) hM2.1 ?_
            rw [← e2]
            refine M_days hM2 hMI (fun A2 s2 => ?_)
            refine V_ceq (pc := 643) (t := 1462) dL_law_643 (by decide) (fun h643 => ?_) (fun h643 => ?_)
            · refine V_inc (pc := 1462) (fun y => [(0, .ref a), (1, .ref cc), (2, .ref m), (3, .int y)]) (w := 6) dL_law_1462 (by decide) (by decide) rfl (fun _ => rfl) (fun y1462 ey1462 => ?_)
              obtain rfl : y1462 = nI (i + 6) := by rw [ey1462]; simp only [fa_lit, nI_add]
              refine V_goto (pc := 1465) (t := 18) dL_law_1465 (by decide) ?_
              exact ih (i + 6) _ _ _ n2 nt2 np2 _ (by omega) (by omega) (by first | omega | (show 3 * c ≤ b.1 - 3; omega)) (by first | omega | (show 196 * c ≤ b.2 - 196; omega)) (h2.2.md s2.al _ _) (mP_MR hM2)
            · exact absurd rfl h643
          | 14, hq, he => 
            cases hq
            refine V_aln (pc := 648) dL_law_648 rfl rfl ?_
            refine V_aln (pc := 649) dL_law_649 rfl rfl ?_
            refine V_iln (pc := 650) dL_law_650 rfl rfl ?_
            refine V_iconst (pc := 651) (v := 1) dL_law_651 (by decide) ?_
            refine V_iadd (pc := 652) dL_law_652 ?_
            refine V_iax (pc := 653) (i + 1) dL_law_653 hm (by omega) (by simp only [fa_lit, nI_add, pk_mul]) (by omega) ?_
            rw [hf (i + 1) (by omega)]
            refine V_aln (pc := 654) dL_law_654 rfl rfl ?_
            refine V_iln (pc := 655) dL_law_655 rfl rfl ?_
            refine V_iconst (pc := 656) (v := 2) dL_law_656 (by decide) ?_
            refine V_iadd (pc := 657) dL_law_657 ?_
            refine V_iax (pc := 658) (i + 2) dL_law_658 hm (by omega) (by simp only [fa_lit, nI_add, pk_mul]) (by omega) ?_
            rw [hf (i + 2) (by omega)]
            refine V_cVi0 (pc := 659) (jc_L_73 dL_law_659 rfl) rfl rfl (Nat.le_of_ble_eq_true rfl) hI.1.1 ?_
            refine C_page hI (fun S2 n2 nt2 np2 h2 => ?_)
            have hM2 := h2.1.mf hI.2.1
            have e2 := (h2.1.mr hI.2.1 hR).eq
            refine V_aln (pc := 662) dL_law_662 rfl rfl ?_
            refine V_aln (pc := 663) dL_law_663 rfl rfl ?_
            refine V_iln (pc := 664) dL_law_664 rfl rfl ?_
            refine V_iconst (pc := 665) (v := 1) dL_law_665 (by decide) ?_
            refine V_iadd (pc := 666) dL_law_666 ?_
            refine V_iax (pc := 667) (i + 1) dL_law_667 hm (by omega) (by simp only [fa_lit, nI_add, pk_mul]) (by omega) ?_
            rw [hf (i + 1) (by omega)]
            refine V_aln (pc := 668) dL_law_668 rfl rfl ?_
            refine V_iln (pc := 669) dL_law_669 rfl rfl ?_
            refine V_iconst (pc := 670) (v := 2) dL_law_670 (by decide) ?_
            refine V_iadd (pc := 671) dL_law_671 ?_
            refine V_iax (pc := 672) (i + 2) dL_law_672 hm (by omega) (by simp only [fa_lit, nI_add, pk_mul]) (by omega) ?_
            rw [hf (i + 2) (by omega)]
            refine V_cVi0 (pc := 673) (jc_L_76 dL_law_673 rfl) rfl rfl (Nat.le_of_ble_eq_true rfl) hM2.1 ?_
            rw [← e2]
            refine M_page hM2 hMI ?_
            refine V_ceq (pc := 676) (t := 1462) dL_law_676 (by decide) (fun h676 => ?_) (fun h676 => ?_)
            · refine V_inc (pc := 1462) (fun y => [(0, .ref a), (1, .ref cc), (2, .ref m), (3, .int y)]) (w := 6) dL_law_1462 (by decide) (by decide) rfl (fun _ => rfl) (fun y1462 ey1462 => ?_)
              obtain rfl : y1462 = nI (i + 6) := by rw [ey1462]; simp only [fa_lit, nI_add]
              refine V_goto (pc := 1465) (t := 18) dL_law_1465 (by decide) ?_
              exact ih (i + 6) _ _ _ n2 nt2 np2 _ (by omega) (by omega) (by first | omega | (show 3 * c ≤ b.1 - 3; omega)) (by first | omega | (show 196 * c ≤ b.2 - 196; omega)) (h2.2.md al.rf _ _) (mP_MR hM2)
            · exact absurd rfl h676
          | 15, hq, he => 
            cases hq
            refine V_aln (pc := 681) dL_law_681 rfl rfl ?_
            refine V_aln (pc := 682) dL_law_682 rfl rfl ?_
            refine V_iln (pc := 683) dL_law_683 rfl rfl ?_
            refine V_iconst (pc := 684) (v := 1) dL_law_684 (by decide) ?_
            refine V_iadd (pc := 685) dL_law_685 ?_
            refine V_iax (pc := 686) (i + 1) dL_law_686 hm (by omega) (by simp only [fa_lit, nI_add, pk_mul]) (by omega) ?_
            rw [hf (i + 1) (by omega)]
            refine V_aln (pc := 687) dL_law_687 rfl rfl ?_
            refine V_iln (pc := 688) dL_law_688 rfl rfl ?_
            refine V_iconst (pc := 689) (v := 2) dL_law_689 (by decide) ?_
            refine V_iadd (pc := 690) dL_law_690 ?_
            refine V_iax (pc := 691) (i + 2) dL_law_691 hm (by omega) (by simp only [fa_lit, nI_add, pk_mul]) (by omega) ?_
            rw [hf (i + 2) (by omega)]
            refine V_cVi0 (pc := 692) (jc_L_77 dL_law_692 rfl) rfl rfl (Nat.le_of_ble_eq_true rfl) hI.1.1 ?_
            refine C_behind hI (fun S2 n2 nt2 np2 h2 => ?_)
            have hM2 := h2.1.mf hI.2.1
            have e2 := (h2.1.mr hI.2.1 hR).eq
            refine V_aln (pc := 695) dL_law_695 rfl rfl ?_
            refine V_aln (pc := 696) dL_law_696 rfl rfl ?_
            refine V_iln (pc := 697) dL_law_697 rfl rfl ?_
            refine V_iconst (pc := 698) (v := 1) dL_law_698 (by decide) ?_
            refine V_iadd (pc := 699) dL_law_699 ?_
            refine V_iax (pc := 700) (i + 1) dL_law_700 hm (by omega) (by simp only [fa_lit, nI_add, pk_mul]) (by omega) ?_
            rw [hf (i + 1) (by omega)]
            refine V_aln (pc := 701) dL_law_701 rfl rfl ?_
            refine V_iln (pc := 702) dL_law_702 rfl rfl ?_
            refine V_iconst (pc := 703) (v := 2) dL_law_703 (by decide) ?_
            refine V_iadd (pc := 704) dL_law_704 ?_
            refine V_iax (pc := 705) (i + 2) dL_law_705 hm (by omega) (by simp only [fa_lit, nI_add, pk_mul]) (by omega) ?_
            rw [hf (i + 2) (by omega)]
            refine V_cVi0 (pc := 706) (jc_L_80 dL_law_706 rfl) rfl rfl (Nat.le_of_ble_eq_true rfl) hM2.1 ?_
            rw [← e2]
            refine M_behind hM2 hMI (fun A2 s2 => ?_)
            refine V_ceq (pc := 709) (t := 1462) dL_law_709 (by decide) (fun h709 => ?_) (fun h709 => ?_)
            · refine V_inc (pc := 1462) (fun y => [(0, .ref a), (1, .ref cc), (2, .ref m), (3, .int y)]) (w := 6) dL_law_1462 (by decide) (by decide) rfl (fun _ => rfl) (fun y1462 ey1462 => ?_)
              obtain rfl : y1462 = nI (i + 6) := by rw [ey1462]; simp only [fa_lit, nI_add]
              refine V_goto (pc := 1465) (t := 18) dL_law_1465 (by decide) ?_
              exact ih (i + 6) _ _ _ n2 nt2 np2 _ (by omega) (by omega) (by first | omega | (show 3 * c ≤ b.1 - 3; omega)) (by first | omega | (show 196 * c ≤ b.2 - 196; omega)) (h2.2.md s2.al _ _) (mP_MR hM2)
            · exact absurd rfl h709
          | 16, hq, he => 
            cases hq
            refine V_aln (pc := 714) dL_law_714 rfl rfl ?_
            refine V_aln (pc := 715) dL_law_715 rfl rfl ?_
            refine V_iln (pc := 716) dL_law_716 rfl rfl ?_
            refine V_iconst (pc := 717) (v := 1) dL_law_717 (by decide) ?_
            refine V_iadd (pc := 718) dL_law_718 ?_
            refine V_iax (pc := 719) (i + 1) dL_law_719 hm (by omega) (by simp only [fa_lit, nI_add, pk_mul]) (by omega) ?_
            rw [hf (i + 1) (by omega)]
            refine V_aln (pc := 720) dL_law_720 rfl rfl ?_
            refine V_iln (pc := 721) dL_law_721 rfl rfl ?_
            refine V_iconst (pc := 722) (v := 2) dL_law_722 (by decide) ?_
            refine V_iadd (pc := 723) dL_law_723 ?_
            refine V_iax (pc := 724) (i + 2) dL_law_724 hm (by omega) (by simp only [fa_lit, nI_add, pk_mul]) (by omega) ?_
            rw [hf (i + 2) (by omega)]
            refine V_cVi0 (pc := 725) (jc_L_81 dL_law_725 rfl) rfl rfl (Nat.le_of_ble_eq_true rfl) hI.1.1 ?_
            refine C_lasts hI (fun S2 n2 nt2 np2 h2 => ?_)
            have hM2 := h2.1.mf hI.2.1
            have e2 := (h2.1.mr hI.2.1 hR).eq
            refine V_aln (pc := 728) dL_law_728 rfl rfl ?_
            refine V_aln (pc := 729) dL_law_729 rfl rfl ?_
            refine V_iln (pc := 730) dL_law_730 rfl rfl ?_
            refine V_iconst (pc := 731) (v := 1) dL_law_731 (by decide) ?_
            refine V_iadd (pc := 732) dL_law_732 ?_
            refine V_iax (pc := 733) (i + 1) dL_law_733 hm (by omega) (by simp only [fa_lit, nI_add, pk_mul]) (by omega) ?_
            rw [hf (i + 1) (by omega)]
            refine V_aln (pc := 734) dL_law_734 rfl rfl ?_
            refine V_iln (pc := 735) dL_law_735 rfl rfl ?_
            refine V_iconst (pc := 736) (v := 2) dL_law_736 (by decide) ?_
            refine V_iadd (pc := 737) dL_law_737 ?_
            refine V_iax (pc := 738) (i + 2) dL_law_738 hm (by omega) (by simp only [fa_lit, nI_add, pk_mul]) (by omega) ?_
            rw [hf (i + 2) (by omega)]
            refine V_cVi0 (pc := 739) (jc_L_84 dL_law_739 rfl) rfl rfl (Nat.le_of_ble_eq_true rfl) hM2.1 ?_
            rw [← e2]
            refine M_lasts hM2 hMI (fun A2 s2 => ?_)
            refine V_ceq (pc := 742) (t := 1462) dL_law_742 (by decide) (fun h742 => ?_) (fun h742 => ?_)
            · refine V_inc (pc := 1462) (fun y => [(0, .ref a), (1, .ref cc), (2, .ref m), (3, .int y)]) (w := 6) dL_law_1462 (by decide) (by decide) rfl (fun _ => rfl) (fun y1462 ey1462 => ?_)
              obtain rfl : y1462 = nI (i + 6) := by rw [ey1462]; simp only [fa_lit, nI_add]
              refine V_goto (pc := 1465) (t := 18) dL_law_1465 (by decide) ?_
              exact ih (i + 6) _ _ _ n2 nt2 np2 _ (by omega) (by omega) (by first | omega | (show 3 * c ≤ b.1 - 3; omega)) (by first | omega | (show 196 * c ≤ b.2 - 196; omega)) (h2.2.md s2.al _ _) (mP_MR hM2)
            · exact absurd rfl h742
          | 17, hq, he => 
            cases hq
            refine V_aln (pc := 747) dL_law_747 rfl rfl ?_
            refine V_aln (pc := 748) dL_law_748 rfl rfl ?_
            refine V_iln (pc := 749) dL_law_749 rfl rfl ?_
            refine V_iconst (pc := 750) (v := 1) dL_law_750 (by decide) ?_
            refine V_iadd (pc := 751) dL_law_751 ?_
            refine V_iax (pc := 752) (i + 1) dL_law_752 hm (by omega) (by simp only [fa_lit, nI_add, pk_mul]) (by omega) ?_
            rw [hf (i + 1) (by omega)]
            refine V_cVi0 (pc := 753) (jc_L_85 dL_law_753 rfl) rfl rfl (Nat.le_of_ble_eq_true rfl) hI.1.1 ?_
            refine C_canWeigh hI (fun S2 n2 nt2 np2 h2 => ?_)
            have hM2 := h2.1.mf hI.2.1
            have e2 := (h2.1.mr hI.2.1 hR).eq
            refine V_aln (pc := 756) dL_law_756 rfl rfl ?_
            refine V_aln (pc := 757) dL_law_757 rfl rfl ?_
            refine V_iln (pc := 758) dL_law_758 rfl rfl ?_
            refine V_iconst (pc := 759) (v := 1) dL_law_759 (by decide) ?_
            refine V_iadd (pc := 760) dL_law_760 ?_
            refine V_iax (pc := 761) (i + 1) dL_law_761 hm (by omega) (by simp only [fa_lit, nI_add, pk_mul]) (by omega) ?_
            rw [hf (i + 1) (by omega)]
            refine V_cVi0 (pc := 762) (jc_L_88 dL_law_762 rfl) rfl rfl (Nat.le_of_ble_eq_true rfl) hM2.1 ?_
            rw [← e2]
            refine M_canWeigh hM2 hMI ?_
            refine V_ceq (pc := 765) (t := 1462) dL_law_765 (by decide) (fun h765 => ?_) (fun h765 => ?_)
            · refine V_inc (pc := 1462) (fun y => [(0, .ref a), (1, .ref cc), (2, .ref m), (3, .int y)]) (w := 6) dL_law_1462 (by decide) (by decide) rfl (fun _ => rfl) (fun y1462 ey1462 => ?_)
              obtain rfl : y1462 = nI (i + 6) := by rw [ey1462]; simp only [fa_lit, nI_add]
              refine V_goto (pc := 1465) (t := 18) dL_law_1465 (by decide) ?_
              exact ih (i + 6) _ _ _ n2 nt2 np2 _ (by omega) (by omega) (by first | omega | (show 3 * c ≤ b.1 - 3; omega)) (by first | omega | (show 196 * c ≤ b.2 - 196; omega)) (h2.2.md al.rf _ _) (mP_MR hM2)
            · exact absurd rfl h765
          | 18, hq, he => 
            cases hq
            refine V_aln (pc := 770) dL_law_770 rfl rfl ?_
            refine V_aln (pc := 771) dL_law_771 rfl rfl ?_
            refine V_iln (pc := 772) dL_law_772 rfl rfl ?_
            refine V_iconst (pc := 773) (v := 1) dL_law_773 (by decide) ?_
            refine V_iadd (pc := 774) dL_law_774 ?_
            refine V_iax (pc := 775) (i + 1) dL_law_775 hm (by omega) (by simp only [fa_lit, nI_add, pk_mul]) (by omega) ?_
            rw [hf (i + 1) (by omega)]
            refine V_cVi0 (pc := 776) (jc_L_89 dL_law_776 rfl) rfl rfl (Nat.le_of_ble_eq_true rfl) hI.1.1 ?_
            refine C_smallest hI (fun S2 n2 nt2 np2 h2 => ?_)
            have hM2 := h2.1.mf hI.2.1
            have e2 := (h2.1.mr hI.2.1 hR).eq
            refine V_aln (pc := 779) dL_law_779 rfl rfl ?_
            refine V_aln (pc := 780) dL_law_780 rfl rfl ?_
            refine V_iln (pc := 781) dL_law_781 rfl rfl ?_
            refine V_iconst (pc := 782) (v := 1) dL_law_782 (by decide) ?_
            refine V_iadd (pc := 783) dL_law_783 ?_
            refine V_iax (pc := 784) (i + 1) dL_law_784 hm (by omega) (by simp only [fa_lit, nI_add, pk_mul]) (by omega) ?_
            rw [hf (i + 1) (by omega)]
            refine V_cVi0 (pc := 785) (jc_L_92 dL_law_785 rfl) rfl rfl (Nat.le_of_ble_eq_true rfl) hM2.1 ?_
            rw [← e2]
            refine M_smallest hM2 hMI ?_
            refine V_ceq (pc := 788) (t := 1462) dL_law_788 (by decide) (fun h788 => ?_) (fun h788 => ?_)
            · refine V_inc (pc := 1462) (fun y => [(0, .ref a), (1, .ref cc), (2, .ref m), (3, .int y)]) (w := 6) dL_law_1462 (by decide) (by decide) rfl (fun _ => rfl) (fun y1462 ey1462 => ?_)
              obtain rfl : y1462 = nI (i + 6) := by rw [ey1462]; simp only [fa_lit, nI_add]
              refine V_goto (pc := 1465) (t := 18) dL_law_1465 (by decide) ?_
              exact ih (i + 6) _ _ _ n2 nt2 np2 _ (by omega) (by omega) (by first | omega | (show 3 * c ≤ b.1 - 3; omega)) (by first | omega | (show 196 * c ≤ b.2 - 196; omega)) (h2.2.md al.rf _ _) (mP_MR hM2)
            · exact absurd rfl h788
          | 19, hq, he => 
            cases hq
            refine V_aln (pc := 793) dL_law_793 rfl rfl ?_
            refine V_aln (pc := 794) dL_law_794 rfl rfl ?_
            refine V_iln (pc := 795) dL_law_795 rfl rfl ?_
            refine V_iconst (pc := 796) (v := 1) dL_law_796 (by decide) ?_
            refine V_iadd (pc := 797) dL_law_797 ?_
            refine V_iax (pc := 798) (i + 1) dL_law_798 hm (by omega) (by simp only [fa_lit, nI_add, pk_mul]) (by omega) ?_
            rw [hf (i + 1) (by omega)]
            refine V_aln (pc := 799) dL_law_799 rfl rfl ?_
            refine V_iln (pc := 800) dL_law_800 rfl rfl ?_
            refine V_iconst (pc := 801) (v := 2) dL_law_801 (by decide) ?_
            refine V_iadd (pc := 802) dL_law_802 ?_
            refine V_iax (pc := 803) (i + 2) dL_law_803 hm (by omega) (by simp only [fa_lit, nI_add, pk_mul]) (by omega) ?_
            rw [hf (i + 2) (by omega)]
            refine V_cVi0 (pc := 804) (jc_L_93 dL_law_804 rfl) rfl rfl (Nat.le_of_ble_eq_true rfl) hI.1.1 ?_
            refine C_gain hI (fun S2 n2 nt2 np2 h2 => ?_)
            have hM2 := h2.1.mf hI.2.1
            have e2 := (h2.1.mr hI.2.1 hR).eq
            refine V_aln (pc := 807) dL_law_807 rfl rfl ?_
            refine V_aln (pc := 808) dL_law_808 rfl rfl ?_
            refine V_iln (pc := 809) dL_law_809 rfl rfl ?_
            refine V_iconst (pc := 810) (v := 1) dL_law_810 (by decide) ?_
            refine V_iadd (pc := 811) dL_law_811 ?_
            refine V_iax (pc := 812) (i + 1) dL_law_812 hm (by omega) (by simp only [fa_lit, nI_add, pk_mul]) (by omega) ?_
            rw [hf (i + 1) (by omega)]
            refine V_aln (pc := 813) dL_law_813 rfl rfl ?_
            refine V_iln (pc := 814) dL_law_814 rfl rfl ?_
            refine V_iconst (pc := 815) (v := 2) dL_law_815 (by decide) ?_
            refine V_iadd (pc := 816) dL_law_816 ?_
            refine V_iax (pc := 817) (i + 2) dL_law_817 hm (by omega) (by simp only [fa_lit, nI_add, pk_mul]) (by omega) ?_
            rw [hf (i + 2) (by omega)]
            refine V_cVi0 (pc := 818) (jc_L_96 dL_law_818 rfl) rfl rfl (Nat.le_of_ble_eq_true rfl) hM2.1 ?_
            rw [← e2]
            refine M_gain hM2 hMI ?_
            refine V_ceq (pc := 821) (t := 1462) dL_law_821 (by decide) (fun h821 => ?_) (fun h821 => ?_)
            · refine V_inc (pc := 1462) (fun y => [(0, .ref a), (1, .ref cc), (2, .ref m), (3, .int y)]) (w := 6) dL_law_1462 (by decide) (by decide) rfl (fun _ => rfl) (fun y1462 ey1462 => ?_)
              obtain rfl : y1462 = nI (i + 6) := by rw [ey1462]; simp only [fa_lit, nI_add]
              refine V_goto (pc := 1465) (t := 18) dL_law_1465 (by decide) ?_
              exact ih (i + 6) _ _ _ n2 nt2 np2 _ (by omega) (by omega) (by first | omega | (show 3 * c ≤ b.1 - 3; omega)) (by first | omega | (show 196 * c ≤ b.2 - 196; omega)) (h2.2.md al.rf _ _) (mP_MR hM2)
            · exact absurd rfl h821
          | 20, hq, he => 
            cases hq
            refine V_aln (pc := 826) dL_law_826 rfl rfl ?_
            refine V_aln (pc := 827) dL_law_827 rfl rfl ?_
            refine V_iln (pc := 828) dL_law_828 rfl rfl ?_
            refine V_iconst (pc := 829) (v := 1) dL_law_829 (by decide) ?_
            refine V_iadd (pc := 830) dL_law_830 ?_
            refine V_iax (pc := 831) (i + 1) dL_law_831 hm (by omega) (by simp only [fa_lit, nI_add, pk_mul]) (by omega) ?_
            rw [hf (i + 1) (by omega)]
            refine V_cVi0 (pc := 832) (jc_L_97 dL_law_832 rfl) rfl rfl (Nat.le_of_ble_eq_true rfl) hI.1.1 ?_
            refine C_pound hI (fun S2 n2 nt2 np2 h2 => ?_)
            have hM2 := h2.1.mf hI.2.1
            have e2 := (h2.1.mr hI.2.1 hR).eq
            refine V_aln (pc := 835) dL_law_835 rfl rfl ?_
            refine V_aln (pc := 836) dL_law_836 rfl rfl ?_
            refine V_iln (pc := 837) dL_law_837 rfl rfl ?_
            refine V_iconst (pc := 838) (v := 1) dL_law_838 (by decide) ?_
            refine V_iadd (pc := 839) dL_law_839 ?_
            refine V_iax (pc := 840) (i + 1) dL_law_840 hm (by omega) (by simp only [fa_lit, nI_add, pk_mul]) (by omega) ?_
            rw [hf (i + 1) (by omega)]
            refine V_cVi0 (pc := 841) (jc_L_100 dL_law_841 rfl) rfl rfl (Nat.le_of_ble_eq_true rfl) hM2.1 ?_
            rw [← e2]
            refine M_pound hM2 hMI hI.2.2.1.2.2.2.1 ?_
            refine V_ceq (pc := 844) (t := 1462) dL_law_844 (by decide) (fun h844 => ?_) (fun h844 => ?_)
            · refine V_inc (pc := 1462) (fun y => [(0, .ref a), (1, .ref cc), (2, .ref m), (3, .int y)]) (w := 6) dL_law_1462 (by decide) (by decide) rfl (fun _ => rfl) (fun y1462 ey1462 => ?_)
              obtain rfl : y1462 = nI (i + 6) := by rw [ey1462]; simp only [fa_lit, nI_add]
              refine V_goto (pc := 1465) (t := 18) dL_law_1465 (by decide) ?_
              exact ih (i + 6) _ _ _ n2 nt2 np2 _ (by omega) (by omega) (by first | omega | (show 3 * c ≤ b.1 - 3; omega)) (by first | omega | (show 196 * c ≤ b.2 - 196; omega)) (h2.2.md al.rf _ _) (mP_MR hM2)
            · exact absurd rfl h844
          | 21, hq, he => 
            cases hq
            refine V_aln (pc := 849) dL_law_849 rfl rfl ?_
            refine V_cVi0 (pc := 850) (jc_L_101 dL_law_850 rfl) rfl rfl (Nat.le_of_ble_eq_true rfl) hI.1.1 ?_
            refine C_falseOne hI (fun S2 n2 nt2 np2 h2 => ?_)
            have hM2 := h2.1.mf hI.2.1
            have e2 := (h2.1.mr hI.2.1 hR).eq
            refine V_aln (pc := 853) dL_law_853 rfl rfl ?_
            refine V_cVi0 (pc := 854) (jc_L_104 dL_law_854 rfl) rfl rfl (Nat.le_of_ble_eq_true rfl) hM2.1 ?_
            rw [← e2]
            refine M_falseOne hM2 hMI ?_
            refine V_ceq (pc := 857) (t := 1462) dL_law_857 (by decide) (fun h857 => ?_) (fun h857 => ?_)
            · refine V_inc (pc := 1462) (fun y => [(0, .ref a), (1, .ref cc), (2, .ref m), (3, .int y)]) (w := 6) dL_law_1462 (by decide) (by decide) rfl (fun _ => rfl) (fun y1462 ey1462 => ?_)
              obtain rfl : y1462 = nI (i + 6) := by rw [ey1462]; simp only [fa_lit, nI_add]
              refine V_goto (pc := 1465) (t := 18) dL_law_1465 (by decide) ?_
              exact ih (i + 6) _ _ _ n2 nt2 np2 _ (by omega) (by omega) (by first | omega | (show 3 * c ≤ b.1 - 3; omega)) (by first | omega | (show 196 * c ≤ b.2 - 196; omega)) (h2.2.md al.rf _ _) (mP_MR hM2)
            · exact absurd rfl h857
          | 22, hq, he => 
            cases hq
            refine V_aln (pc := 862) dL_law_862 rfl rfl ?_
            refine V_aln (pc := 863) dL_law_863 rfl rfl ?_
            refine V_iln (pc := 864) dL_law_864 rfl rfl ?_
            refine V_iconst (pc := 865) (v := 1) dL_law_865 (by decide) ?_
            refine V_iadd (pc := 866) dL_law_866 ?_
            refine V_iax (pc := 867) (i + 1) dL_law_867 hm (by omega) (by simp only [fa_lit, nI_add, pk_mul]) (by omega) ?_
            rw [hf (i + 1) (by omega)]
            refine V_cVi0 (pc := 868) (jc_L_105 dL_law_868 rfl) rfl rfl (Nat.le_of_ble_eq_true rfl) hI.1.1 ?_
            refine C_fine hI (fun S2 n2 nt2 np2 h2 => ?_)
            have hM2 := h2.1.mf hI.2.1
            have e2 := (h2.1.mr hI.2.1 hR).eq
            refine V_aln (pc := 871) dL_law_871 rfl rfl ?_
            refine V_aln (pc := 872) dL_law_872 rfl rfl ?_
            refine V_iln (pc := 873) dL_law_873 rfl rfl ?_
            refine V_iconst (pc := 874) (v := 1) dL_law_874 (by decide) ?_
            refine V_iadd (pc := 875) dL_law_875 ?_
            refine V_iax (pc := 876) (i + 1) dL_law_876 hm (by omega) (by simp only [fa_lit, nI_add, pk_mul]) (by omega) ?_
            rw [hf (i + 1) (by omega)]
            refine V_cVi0 (pc := 877) (jc_L_108 dL_law_877 rfl) rfl rfl (Nat.le_of_ble_eq_true rfl) hM2.1 ?_
            rw [← e2]
            refine M_fine hM2 hMI (fun A2 s2 => ?_)
            refine V_ceq (pc := 880) (t := 1462) dL_law_880 (by decide) (fun h880 => ?_) (fun h880 => ?_)
            · refine V_inc (pc := 1462) (fun y => [(0, .ref a), (1, .ref cc), (2, .ref m), (3, .int y)]) (w := 6) dL_law_1462 (by decide) (by decide) rfl (fun _ => rfl) (fun y1462 ey1462 => ?_)
              obtain rfl : y1462 = nI (i + 6) := by rw [ey1462]; simp only [fa_lit, nI_add]
              refine V_goto (pc := 1465) (t := 18) dL_law_1465 (by decide) ?_
              exact ih (i + 6) _ _ _ n2 nt2 np2 _ (by omega) (by omega) (by first | omega | (show 3 * c ≤ b.1 - 3; omega)) (by first | omega | (show 196 * c ≤ b.2 - 196; omega)) (h2.2.md s2.al _ _) (mP_MR hM2)
            · exact absurd rfl h880
          | 23, hq, he => 
            cases hq
            refine V_aln (pc := 885) dL_law_885 rfl rfl ?_
            refine V_aln (pc := 886) dL_law_886 rfl rfl ?_
            refine V_iln (pc := 887) dL_law_887 rfl rfl ?_
            refine V_iconst (pc := 888) (v := 1) dL_law_888 (by decide) ?_
            refine V_iadd (pc := 889) dL_law_889 ?_
            refine V_iax (pc := 890) (i + 1) dL_law_890 hm (by omega) (by simp only [fa_lit, nI_add, pk_mul]) (by omega) ?_
            rw [hf (i + 1) (by omega)]
            refine V_aln (pc := 891) dL_law_891 rfl rfl ?_
            refine V_iln (pc := 892) dL_law_892 rfl rfl ?_
            refine V_iconst (pc := 893) (v := 2) dL_law_893 (by decide) ?_
            refine V_iadd (pc := 894) dL_law_894 ?_
            refine V_iax (pc := 895) (i + 2) dL_law_895 hm (by omega) (by simp only [fa_lit, nI_add, pk_mul]) (by omega) ?_
            rw [hf (i + 2) (by omega)]
            refine V_aln (pc := 896) dL_law_896 rfl rfl ?_
            refine V_iln (pc := 897) dL_law_897 rfl rfl ?_
            refine V_iconst (pc := 898) (v := 3) dL_law_898 (by decide) ?_
            refine V_iadd (pc := 899) dL_law_899 ?_
            refine V_iax (pc := 900) (i + 3) dL_law_900 hm (by omega) (by simp only [fa_lit, nI_add, pk_mul]) (by omega) ?_
            rw [hf (i + 3) (by omega)]
            refine V_cVi0 (pc := 901) (jc_L_109 dL_law_901 rfl) rfl rfl (Nat.le_of_ble_eq_true rfl) hI.1.1 ?_
            refine C_feed hI hL h96 (fun S2 n2 nt2 np2 h2 => ?_)
            have hM2 := h2.1.mf hI.2.1
            have e2 := (h2.1.mr hI.2.1 hR).eq
            refine V_aln (pc := 904) dL_law_904 rfl rfl ?_
            refine V_aln (pc := 905) dL_law_905 rfl rfl ?_
            refine V_iln (pc := 906) dL_law_906 rfl rfl ?_
            refine V_iconst (pc := 907) (v := 1) dL_law_907 (by decide) ?_
            refine V_iadd (pc := 908) dL_law_908 ?_
            refine V_iax (pc := 909) (i + 1) dL_law_909 hm (by omega) (by simp only [fa_lit, nI_add, pk_mul]) (by omega) ?_
            rw [hf (i + 1) (by omega)]
            refine V_aln (pc := 910) dL_law_910 rfl rfl ?_
            refine V_iln (pc := 911) dL_law_911 rfl rfl ?_
            refine V_iconst (pc := 912) (v := 2) dL_law_912 (by decide) ?_
            refine V_iadd (pc := 913) dL_law_913 ?_
            refine V_iax (pc := 914) (i + 2) dL_law_914 hm (by omega) (by simp only [fa_lit, nI_add, pk_mul]) (by omega) ?_
            rw [hf (i + 2) (by omega)]
            refine V_aln (pc := 915) dL_law_915 rfl rfl ?_
            refine V_iln (pc := 916) dL_law_916 rfl rfl ?_
            refine V_iconst (pc := 917) (v := 3) dL_law_917 (by decide) ?_
            refine V_iadd (pc := 918) dL_law_918 ?_
            refine V_iax (pc := 919) (i + 3) dL_law_919 hm (by omega) (by simp only [fa_lit, nI_add, pk_mul]) (by omega) ?_
            rw [hf (i + 3) (by omega)]
            refine V_cVi0 (pc := 920) (jc_L_112 dL_law_920 rfl) rfl rfl (Nat.le_of_ble_eq_true rfl) hM2.1 ?_
            rw [← e2]
            refine M_feed hM2 hL h96 ?_
            refine V_ceq (pc := 923) (t := 1462) dL_law_923 (by decide) (fun h923 => ?_) (fun h923 => ?_)
            · refine V_inc (pc := 1462) (fun y => [(0, .ref a), (1, .ref cc), (2, .ref m), (3, .int y)]) (w := 6) dL_law_1462 (by decide) (by decide) rfl (fun _ => rfl) (fun y1462 ey1462 => ?_)
              obtain rfl : y1462 = nI (i + 6) := by rw [ey1462]; simp only [fa_lit, nI_add]
              refine V_goto (pc := 1465) (t := 18) dL_law_1465 (by decide) ?_
              exact ih (i + 6) _ _ _ n2 nt2 np2 _ (by omega) (by omega) (by first | omega | (show 3 * c ≤ b.1 - 3; omega)) (by first | omega | (show 196 * c ≤ b.2 - 196; omega)) (h2.2.md al.rf _ _) (mP_MR hM2)
            · exact absurd rfl h923
          | 24, hq, he => 
            cases hq
            refine V_aln (pc := 928) dL_law_928 rfl rfl ?_
            refine V_aln (pc := 929) dL_law_929 rfl rfl ?_
            refine V_iln (pc := 930) dL_law_930 rfl rfl ?_
            refine V_iconst (pc := 931) (v := 1) dL_law_931 (by decide) ?_
            refine V_iadd (pc := 932) dL_law_932 ?_
            refine V_iax (pc := 933) (i + 1) dL_law_933 hm (by omega) (by simp only [fa_lit, nI_add, pk_mul]) (by omega) ?_
            rw [hf (i + 1) (by omega)]
            refine V_cVi0 (pc := 934) (jc_L_113 dL_law_934 rfl) rfl rfl (Nat.le_of_ble_eq_true rfl) hI.1.1 ?_
            refine C_trim hI hL h96 (fun S2 n2 nt2 np2 h2 => ?_)
            have hM2 := h2.1.mf hI.2.1
            have e2 := (h2.1.mr hI.2.1 hR).eq
            refine V_aln (pc := 937) dL_law_937 rfl rfl ?_
            refine V_aln (pc := 938) dL_law_938 rfl rfl ?_
            refine V_iln (pc := 939) dL_law_939 rfl rfl ?_
            refine V_iconst (pc := 940) (v := 1) dL_law_940 (by decide) ?_
            refine V_iadd (pc := 941) dL_law_941 ?_
            refine V_iax (pc := 942) (i + 1) dL_law_942 hm (by omega) (by simp only [fa_lit, nI_add, pk_mul]) (by omega) ?_
            rw [hf (i + 1) (by omega)]
            refine V_cVi0 (pc := 943) (jc_L_116 dL_law_943 rfl) rfl rfl (Nat.le_of_ble_eq_true rfl) hM2.1 ?_
            rw [← e2]
            refine M_trim hM2 hL h96 ?_
            refine V_ceq (pc := 946) (t := 1462) dL_law_946 (by decide) (fun h946 => ?_) (fun h946 => ?_)
            · refine V_inc (pc := 1462) (fun y => [(0, .ref a), (1, .ref cc), (2, .ref m), (3, .int y)]) (w := 6) dL_law_1462 (by decide) (by decide) rfl (fun _ => rfl) (fun y1462 ey1462 => ?_)
              obtain rfl : y1462 = nI (i + 6) := by rw [ey1462]; simp only [fa_lit, nI_add]
              refine V_goto (pc := 1465) (t := 18) dL_law_1465 (by decide) ?_
              exact ih (i + 6) _ _ _ n2 nt2 np2 _ (by omega) (by omega) (by first | omega | (show 3 * c ≤ b.1 - 3; omega)) (by first | omega | (show 196 * c ≤ b.2 - 196; omega)) (h2.2.md al.rf _ _) (mP_MR hM2)
            · exact absurd rfl h946
          | 25, hq, he => 
            cases hq
            refine V_aln (pc := 951) dL_law_951 rfl rfl ?_
            refine V_cVi (pc := 952) (jc_L_117 dL_law_952 rfl) rfl (Nat.le_of_ble_eq_true rfl) hI.1.1 (show 3 ≤ b.1 by omega) (show 196 ≤ b.2 by omega) ?_
            refine C_text hI hxS hL h96 (fun S2 n2 nt2 np2 h2 => ?_)
            have hM2 := h2.1.mf hI.2.1
            have e2 := (h2.1.mr hI.2.1 hR).eq
            refine V_aln (pc := 955) dL_law_955 rfl rfl ?_
            refine V_cVi0 (pc := 956) (jc_L_120 dL_law_956 rfl) rfl rfl (Nat.le_of_ble_eq_true rfl) hM2.1 ?_
            rw [← e2]
            refine M_text hM2 rfl hL h96 hMI.2.1.1 hMI.2.1.2 (fun F2 g1 g2 => ?_)
            refine V_ceq (pc := 959) (t := 1462) dL_law_959 (by decide) (fun h959 => ?_) (fun h959 => ?_)
            · refine V_inc (pc := 1462) (fun y => [(0, .ref a), (1, .ref cc), (2, .ref m), (3, .int y)]) (w := 6) dL_law_1462 (by decide) (by decide) rfl (fun _ => rfl) (fun y1462 ey1462 => ?_)
              obtain rfl : y1462 = nI (i + 6) := by rw [ey1462]; simp only [fa_lit, nI_add]
              refine V_goto (pc := 1465) (t := 18) dL_law_1465 (by decide) ?_
              exact ih (i + 6) _ _ _ n2 nt2 np2 _ (by omega) (by omega) (by first | omega | (show 3 * c ≤ b.1 - 3; omega)) (by first | omega | (show 196 * c ≤ b.2 - 196; omega)) (h2.2.md (al_t g1 g2) _ _) (mP_MR hM2)
            · exact absurd rfl h959
          | 26, hq, he => 
            cases hq
            refine V_aln (pc := 964) dL_law_964 rfl rfl ?_
            refine V_aln (pc := 965) dL_law_965 rfl rfl ?_
            refine V_iln (pc := 966) dL_law_966 rfl rfl ?_
            refine V_iconst (pc := 967) (v := 1) dL_law_967 (by decide) ?_
            refine V_iadd (pc := 968) dL_law_968 ?_
            refine V_iax (pc := 969) (i + 1) dL_law_969 hm (by omega) (by simp only [fa_lit, nI_add, pk_mul]) (by omega) ?_
            rw [hf (i + 1) (by omega)]
            refine V_aln (pc := 970) dL_law_970 rfl rfl ?_
            refine V_iln (pc := 971) dL_law_971 rfl rfl ?_
            refine V_iconst (pc := 972) (v := 2) dL_law_972 (by decide) ?_
            refine V_iadd (pc := 973) dL_law_973 ?_
            refine V_iax (pc := 974) (i + 2) dL_law_974 hm (by omega) (by simp only [fa_lit, nI_add, pk_mul]) (by omega) ?_
            rw [hf (i + 2) (by omega)]
            refine V_cVi0 (pc := 975) (jc_L_121 dL_law_975 rfl) rfl rfl (Nat.le_of_ble_eq_true rfl) hI.1.1 ?_
            refine C_textTold hI (fun S2 n2 nt2 np2 h2 => ?_)
            have hM2 := h2.1.mf hI.2.1
            have e2 := (h2.1.mr hI.2.1 hR).eq
            refine V_aln (pc := 978) dL_law_978 rfl rfl ?_
            refine V_aln (pc := 979) dL_law_979 rfl rfl ?_
            refine V_iln (pc := 980) dL_law_980 rfl rfl ?_
            refine V_iconst (pc := 981) (v := 1) dL_law_981 (by decide) ?_
            refine V_iadd (pc := 982) dL_law_982 ?_
            refine V_iax (pc := 983) (i + 1) dL_law_983 hm (by omega) (by simp only [fa_lit, nI_add, pk_mul]) (by omega) ?_
            rw [hf (i + 1) (by omega)]
            refine V_aln (pc := 984) dL_law_984 rfl rfl ?_
            refine V_iln (pc := 985) dL_law_985 rfl rfl ?_
            refine V_iconst (pc := 986) (v := 2) dL_law_986 (by decide) ?_
            refine V_iadd (pc := 987) dL_law_987 ?_
            refine V_iax (pc := 988) (i + 2) dL_law_988 hm (by omega) (by simp only [fa_lit, nI_add, pk_mul]) (by omega) ?_
            rw [hf (i + 2) (by omega)]
            refine V_cVi0 (pc := 989) (jc_L_124 dL_law_989 rfl) rfl rfl (Nat.le_of_ble_eq_true rfl) hM2.1 ?_
            rw [← e2]
            refine M_textTold hM2 hMI ?_
            refine V_ceq (pc := 992) (t := 1462) dL_law_992 (by decide) (fun h992 => ?_) (fun h992 => ?_)
            · refine V_inc (pc := 1462) (fun y => [(0, .ref a), (1, .ref cc), (2, .ref m), (3, .int y)]) (w := 6) dL_law_1462 (by decide) (by decide) rfl (fun _ => rfl) (fun y1462 ey1462 => ?_)
              obtain rfl : y1462 = nI (i + 6) := by rw [ey1462]; simp only [fa_lit, nI_add]
              refine V_goto (pc := 1465) (t := 18) dL_law_1465 (by decide) ?_
              exact ih (i + 6) _ _ _ n2 nt2 np2 _ (by omega) (by omega) (by first | omega | (show 3 * c ≤ b.1 - 3; omega)) (by first | omega | (show 196 * c ≤ b.2 - 196; omega)) (h2.2.md al.rf _ _) (mP_MR hM2)
            · exact absurd rfl h992
          | 27, hq, he => 
            cases hq
            refine V_aln (pc := 997) dL_law_997 rfl rfl ?_
            refine V_aln (pc := 998) dL_law_998 rfl rfl ?_
            refine V_iln (pc := 999) dL_law_999 rfl rfl ?_
            refine V_iconst (pc := 1000) (v := 1) dL_law_1000 (by decide) ?_
            refine V_iadd (pc := 1001) dL_law_1001 ?_
            refine V_iax (pc := 1002) (i + 1) dL_law_1002 hm (by omega) (by simp only [fa_lit, nI_add, pk_mul]) (by omega) ?_
            rw [hf (i + 1) (by omega)]
            refine V_cVi0 (pc := 1003) (jc_L_125 dL_law_1003 rfl) rfl rfl (Nat.le_of_ble_eq_true rfl) hI.1.1 ?_
            refine C_why hI (fun S2 n2 nt2 np2 h2 => ?_)
            have hM2 := h2.1.mf hI.2.1
            have e2 := (h2.1.mr hI.2.1 hR).eq
            refine V_aln (pc := 1006) dL_law_1006 rfl rfl ?_
            refine V_aln (pc := 1007) dL_law_1007 rfl rfl ?_
            refine V_iln (pc := 1008) dL_law_1008 rfl rfl ?_
            refine V_iconst (pc := 1009) (v := 1) dL_law_1009 (by decide) ?_
            refine V_iadd (pc := 1010) dL_law_1010 ?_
            refine V_iax (pc := 1011) (i + 1) dL_law_1011 hm (by omega) (by simp only [fa_lit, nI_add, pk_mul]) (by omega) ?_
            rw [hf (i + 1) (by omega)]
            refine V_cVi0 (pc := 1012) (jc_L_128 dL_law_1012 rfl) rfl rfl (Nat.le_of_ble_eq_true rfl) hM2.1 ?_
            rw [← e2]
            refine M_why hM2 hMI ?_
            refine V_ceq (pc := 1015) (t := 1462) dL_law_1015 (by decide) (fun h1015 => ?_) (fun h1015 => ?_)
            · refine V_inc (pc := 1462) (fun y => [(0, .ref a), (1, .ref cc), (2, .ref m), (3, .int y)]) (w := 6) dL_law_1462 (by decide) (by decide) rfl (fun _ => rfl) (fun y1462 ey1462 => ?_)
              obtain rfl : y1462 = nI (i + 6) := by rw [ey1462]; simp only [fa_lit, nI_add]
              refine V_goto (pc := 1465) (t := 18) dL_law_1465 (by decide) ?_
              exact ih (i + 6) _ _ _ n2 nt2 np2 _ (by omega) (by omega) (by first | omega | (show 3 * c ≤ b.1 - 3; omega)) (by first | omega | (show 196 * c ≤ b.2 - 196; omega)) (h2.2.md al.rf _ _) (mP_MR hM2)
            · exact absurd rfl h1015
          | 28, hq, he => 
            cases hq
            refine V_aln (pc := 1020) dL_law_1020 rfl rfl ?_
            refine V_aln (pc := 1021) dL_law_1021 rfl rfl ?_
            refine V_iln (pc := 1022) dL_law_1022 rfl rfl ?_
            refine V_iconst (pc := 1023) (v := 1) dL_law_1023 (by decide) ?_
            refine V_iadd (pc := 1024) dL_law_1024 ?_
            refine V_iax (pc := 1025) (i + 1) dL_law_1025 hm (by omega) (by simp only [fa_lit, nI_add, pk_mul]) (by omega) ?_
            rw [hf (i + 1) (by omega)]
            refine V_aln (pc := 1026) dL_law_1026 rfl rfl ?_
            refine V_iln (pc := 1027) dL_law_1027 rfl rfl ?_
            refine V_iconst (pc := 1028) (v := 2) dL_law_1028 (by decide) ?_
            refine V_iadd (pc := 1029) dL_law_1029 ?_
            refine V_iax (pc := 1030) (i + 2) dL_law_1030 hm (by omega) (by simp only [fa_lit, nI_add, pk_mul]) (by omega) ?_
            rw [hf (i + 2) (by omega)]
            refine V_aln (pc := 1031) dL_law_1031 rfl rfl ?_
            refine V_iln (pc := 1032) dL_law_1032 rfl rfl ?_
            refine V_iconst (pc := 1033) (v := 3) dL_law_1033 (by decide) ?_
            refine V_iadd (pc := 1034) dL_law_1034 ?_
            refine V_iax (pc := 1035) (i + 3) dL_law_1035 hm (by omega) (by simp only [fa_lit, nI_add, pk_mul]) (by omega) ?_
            rw [hf (i + 3) (by omega)]
            refine V_cVi0 (pc := 1036) (jc_L_129 dL_law_1036 rfl) rfl rfl (Nat.le_of_ble_eq_true rfl) hI.1.1 ?_
            refine C_sheet hI (fun S2 n2 nt2 np2 h2 => ?_)
            have hM2 := h2.1.mf hI.2.1
            have e2 := (h2.1.mr hI.2.1 hR).eq
            refine V_aln (pc := 1039) dL_law_1039 rfl rfl ?_
            refine V_aln (pc := 1040) dL_law_1040 rfl rfl ?_
            refine V_iln (pc := 1041) dL_law_1041 rfl rfl ?_
            refine V_iconst (pc := 1042) (v := 1) dL_law_1042 (by decide) ?_
            refine V_iadd (pc := 1043) dL_law_1043 ?_
            refine V_iax (pc := 1044) (i + 1) dL_law_1044 hm (by omega) (by simp only [fa_lit, nI_add, pk_mul]) (by omega) ?_
            rw [hf (i + 1) (by omega)]
            refine V_aln (pc := 1045) dL_law_1045 rfl rfl ?_
            refine V_iln (pc := 1046) dL_law_1046 rfl rfl ?_
            refine V_iconst (pc := 1047) (v := 2) dL_law_1047 (by decide) ?_
            refine V_iadd (pc := 1048) dL_law_1048 ?_
            refine V_iax (pc := 1049) (i + 2) dL_law_1049 hm (by omega) (by simp only [fa_lit, nI_add, pk_mul]) (by omega) ?_
            rw [hf (i + 2) (by omega)]
            refine V_aln (pc := 1050) dL_law_1050 rfl rfl ?_
            refine V_iln (pc := 1051) dL_law_1051 rfl rfl ?_
            refine V_iconst (pc := 1052) (v := 3) dL_law_1052 (by decide) ?_
            refine V_iadd (pc := 1053) dL_law_1053 ?_
            refine V_iax (pc := 1054) (i + 3) dL_law_1054 hm (by omega) (by simp only [fa_lit, nI_add, pk_mul]) (by omega) ?_
            rw [hf (i + 3) (by omega)]
            refine V_cVi0 (pc := 1055) (jc_L_132 dL_law_1055 rfl) rfl rfl (Nat.le_of_ble_eq_true rfl) hM2.1 ?_
            rw [← e2]
            refine M_sheet hM2 ?_
            refine V_ceq (pc := 1058) (t := 1462) dL_law_1058 (by decide) (fun h1058 => ?_) (fun h1058 => ?_)
            · refine V_inc (pc := 1462) (fun y => [(0, .ref a), (1, .ref cc), (2, .ref m), (3, .int y)]) (w := 6) dL_law_1462 (by decide) (by decide) rfl (fun _ => rfl) (fun y1462 ey1462 => ?_)
              obtain rfl : y1462 = nI (i + 6) := by rw [ey1462]; simp only [fa_lit, nI_add]
              refine V_goto (pc := 1465) (t := 18) dL_law_1465 (by decide) ?_
              exact ih (i + 6) _ _ _ n2 nt2 np2 _ (by omega) (by omega) (by first | omega | (show 3 * c ≤ b.1 - 3; omega)) (by first | omega | (show 196 * c ≤ b.2 - 196; omega)) (h2.2.md al.rf _ _) (mP_MR hM2)
            · exact absurd rfl h1058
          | 29, hq, he => 
            cases hq
            refine V_aln (pc := 1063) dL_law_1063 rfl rfl ?_
            refine V_aln (pc := 1064) dL_law_1064 rfl rfl ?_
            refine V_iln (pc := 1065) dL_law_1065 rfl rfl ?_
            refine V_iconst (pc := 1066) (v := 1) dL_law_1066 (by decide) ?_
            refine V_iadd (pc := 1067) dL_law_1067 ?_
            refine V_iax (pc := 1068) (i + 1) dL_law_1068 hm (by omega) (by simp only [fa_lit, nI_add, pk_mul]) (by omega) ?_
            rw [hf (i + 1) (by omega)]
            refine V_aln (pc := 1069) dL_law_1069 rfl rfl ?_
            refine V_iln (pc := 1070) dL_law_1070 rfl rfl ?_
            refine V_iconst (pc := 1071) (v := 2) dL_law_1071 (by decide) ?_
            refine V_iadd (pc := 1072) dL_law_1072 ?_
            refine V_iax (pc := 1073) (i + 2) dL_law_1073 hm (by omega) (by simp only [fa_lit, nI_add, pk_mul]) (by omega) ?_
            rw [hf (i + 2) (by omega)]
            refine V_aln (pc := 1074) dL_law_1074 rfl rfl ?_
            refine V_iln (pc := 1075) dL_law_1075 rfl rfl ?_
            refine V_iconst (pc := 1076) (v := 3) dL_law_1076 (by decide) ?_
            refine V_iadd (pc := 1077) dL_law_1077 ?_
            refine V_iax (pc := 1078) (i + 3) dL_law_1078 hm (by omega) (by simp only [fa_lit, nI_add, pk_mul]) (by omega) ?_
            rw [hf (i + 3) (by omega)]
            refine V_cVi0 (pc := 1079) (jc_L_133 dL_law_1079 rfl) rfl rfl (Nat.le_of_ble_eq_true rfl) hI.1.1 ?_
            refine C_mark hI (fun S2 n2 nt2 np2 h2 => ?_)
            have hM2 := h2.1.mf hI.2.1
            have e2 := (h2.1.mr hI.2.1 hR).eq
            refine V_aln (pc := 1082) dL_law_1082 rfl rfl ?_
            refine V_aln (pc := 1083) dL_law_1083 rfl rfl ?_
            refine V_iln (pc := 1084) dL_law_1084 rfl rfl ?_
            refine V_iconst (pc := 1085) (v := 1) dL_law_1085 (by decide) ?_
            refine V_iadd (pc := 1086) dL_law_1086 ?_
            refine V_iax (pc := 1087) (i + 1) dL_law_1087 hm (by omega) (by simp only [fa_lit, nI_add, pk_mul]) (by omega) ?_
            rw [hf (i + 1) (by omega)]
            refine V_aln (pc := 1088) dL_law_1088 rfl rfl ?_
            refine V_iln (pc := 1089) dL_law_1089 rfl rfl ?_
            refine V_iconst (pc := 1090) (v := 2) dL_law_1090 (by decide) ?_
            refine V_iadd (pc := 1091) dL_law_1091 ?_
            refine V_iax (pc := 1092) (i + 2) dL_law_1092 hm (by omega) (by simp only [fa_lit, nI_add, pk_mul]) (by omega) ?_
            rw [hf (i + 2) (by omega)]
            refine V_aln (pc := 1093) dL_law_1093 rfl rfl ?_
            refine V_iln (pc := 1094) dL_law_1094 rfl rfl ?_
            refine V_iconst (pc := 1095) (v := 3) dL_law_1095 (by decide) ?_
            refine V_iadd (pc := 1096) dL_law_1096 ?_
            refine V_iax (pc := 1097) (i + 3) dL_law_1097 hm (by omega) (by simp only [fa_lit, nI_add, pk_mul]) (by omega) ?_
            rw [hf (i + 3) (by omega)]
            refine V_cVi0 (pc := 1098) (jc_L_136 dL_law_1098 rfl) rfl rfl (Nat.le_of_ble_eq_true rfl) hM2.1 ?_
            rw [← e2]
            refine M_mark hM2 hI.2.2.2.2.1.1 ?_
            refine V_ceq (pc := 1101) (t := 1462) dL_law_1101 (by decide) (fun h1101 => ?_) (fun h1101 => ?_)
            · refine V_inc (pc := 1462) (fun y => [(0, .ref a), (1, .ref cc), (2, .ref m), (3, .int y)]) (w := 6) dL_law_1462 (by decide) (by decide) rfl (fun _ => rfl) (fun y1462 ey1462 => ?_)
              obtain rfl : y1462 = nI (i + 6) := by rw [ey1462]; simp only [fa_lit, nI_add]
              refine V_goto (pc := 1465) (t := 18) dL_law_1465 (by decide) ?_
              exact ih (i + 6) _ _ _ n2 nt2 np2 _ (by omega) (by omega) (by first | omega | (show 3 * c ≤ b.1 - 3; omega)) (by first | omega | (show 196 * c ≤ b.2 - 196; omega)) (h2.2.md al.rf _ _) (mP_MR hM2)
            · exact absurd rfl h1101
          | 30, hq, he => 
            cases hq
            refine V_aln (pc := 1106) dL_law_1106 rfl rfl ?_
            refine V_aln (pc := 1107) dL_law_1107 rfl rfl ?_
            refine V_iln (pc := 1108) dL_law_1108 rfl rfl ?_
            refine V_iconst (pc := 1109) (v := 1) dL_law_1109 (by decide) ?_
            refine V_iadd (pc := 1110) dL_law_1110 ?_
            refine V_iax (pc := 1111) (i + 1) dL_law_1111 hm (by omega) (by simp only [fa_lit, nI_add, pk_mul]) (by omega) ?_
            rw [hf (i + 1) (by omega)]
            refine V_cVi0 (pc := 1112) (jc_L_137 dL_law_1112 rfl) rfl rfl (Nat.le_of_ble_eq_true rfl) hI.1.1 ?_
            refine C_pour hI (fun S2 n2 nt2 np2 h2 => ?_)
            have hM2 := h2.1.mf hI.2.1
            have e2 := (h2.1.mr hI.2.1 hR).eq
            refine V_aln (pc := 1115) dL_law_1115 rfl rfl ?_
            refine V_aln (pc := 1116) dL_law_1116 rfl rfl ?_
            refine V_iln (pc := 1117) dL_law_1117 rfl rfl ?_
            refine V_iconst (pc := 1118) (v := 1) dL_law_1118 (by decide) ?_
            refine V_iadd (pc := 1119) dL_law_1119 ?_
            refine V_iax (pc := 1120) (i + 1) dL_law_1120 hm (by omega) (by simp only [fa_lit, nI_add, pk_mul]) (by omega) ?_
            rw [hf (i + 1) (by omega)]
            refine V_cVi0 (pc := 1121) (jc_L_140 dL_law_1121 rfl) rfl rfl (Nat.le_of_ble_eq_true rfl) hM2.1 ?_
            rw [← e2]
            refine M_pour hM2 hI.2.2.2.2.1.1 hMI ?_
            refine V_ceq (pc := 1124) (t := 1462) dL_law_1124 (by decide) (fun h1124 => ?_) (fun h1124 => ?_)
            · refine V_inc (pc := 1462) (fun y => [(0, .ref a), (1, .ref cc), (2, .ref m), (3, .int y)]) (w := 6) dL_law_1462 (by decide) (by decide) rfl (fun _ => rfl) (fun y1462 ey1462 => ?_)
              obtain rfl : y1462 = nI (i + 6) := by rw [ey1462]; simp only [fa_lit, nI_add]
              refine V_goto (pc := 1465) (t := 18) dL_law_1465 (by decide) ?_
              exact ih (i + 6) _ _ _ n2 nt2 np2 _ (by omega) (by omega) (by first | omega | (show 3 * c ≤ b.1 - 3; omega)) (by first | omega | (show 196 * c ≤ b.2 - 196; omega)) (h2.2.md al.rf _ _) (mP_MR hM2)
            · exact absurd rfl h1124
          | 31, hq, he => 
            cases hq
            refine V_aln (pc := 1129) dL_law_1129 rfl rfl ?_
            refine V_aln (pc := 1130) dL_law_1130 rfl rfl ?_
            refine V_iln (pc := 1131) dL_law_1131 rfl rfl ?_
            refine V_iconst (pc := 1132) (v := 1) dL_law_1132 (by decide) ?_
            refine V_iadd (pc := 1133) dL_law_1133 ?_
            refine V_iax (pc := 1134) (i + 1) dL_law_1134 hm (by omega) (by simp only [fa_lit, nI_add, pk_mul]) (by omega) ?_
            rw [hf (i + 1) (by omega)]
            refine V_aln (pc := 1135) dL_law_1135 rfl rfl ?_
            refine V_iln (pc := 1136) dL_law_1136 rfl rfl ?_
            refine V_iconst (pc := 1137) (v := 2) dL_law_1137 (by decide) ?_
            refine V_iadd (pc := 1138) dL_law_1138 ?_
            refine V_iax (pc := 1139) (i + 2) dL_law_1139 hm (by omega) (by simp only [fa_lit, nI_add, pk_mul]) (by omega) ?_
            rw [hf (i + 2) (by omega)]
            refine V_cVi0 (pc := 1140) (jc_L_141 dL_law_1140 rfl) rfl rfl (Nat.le_of_ble_eq_true rfl) hI.1.1 ?_
            refine C_reads hI (fun S2 n2 nt2 np2 h2 => ?_)
            have hM2 := h2.1.mf hI.2.1
            have e2 := (h2.1.mr hI.2.1 hR).eq
            refine V_aln (pc := 1143) dL_law_1143 rfl rfl ?_
            refine V_aln (pc := 1144) dL_law_1144 rfl rfl ?_
            refine V_iln (pc := 1145) dL_law_1145 rfl rfl ?_
            refine V_iconst (pc := 1146) (v := 1) dL_law_1146 (by decide) ?_
            refine V_iadd (pc := 1147) dL_law_1147 ?_
            refine V_iax (pc := 1148) (i + 1) dL_law_1148 hm (by omega) (by simp only [fa_lit, nI_add, pk_mul]) (by omega) ?_
            rw [hf (i + 1) (by omega)]
            refine V_aln (pc := 1149) dL_law_1149 rfl rfl ?_
            refine V_iln (pc := 1150) dL_law_1150 rfl rfl ?_
            refine V_iconst (pc := 1151) (v := 2) dL_law_1151 (by decide) ?_
            refine V_iadd (pc := 1152) dL_law_1152 ?_
            refine V_iax (pc := 1153) (i + 2) dL_law_1153 hm (by omega) (by simp only [fa_lit, nI_add, pk_mul]) (by omega) ?_
            rw [hf (i + 2) (by omega)]
            refine V_cVi0 (pc := 1154) (jc_L_144 dL_law_1154 rfl) rfl rfl (Nat.le_of_ble_eq_true rfl) hM2.1 ?_
            rw [← e2]
            refine M_reads hM2 hI.2.2.2.2.1.1 hMI (fun A2 s2 => ?_)
            refine V_ceq (pc := 1157) (t := 1462) dL_law_1157 (by decide) (fun h1157 => ?_) (fun h1157 => ?_)
            · refine V_inc (pc := 1462) (fun y => [(0, .ref a), (1, .ref cc), (2, .ref m), (3, .int y)]) (w := 6) dL_law_1462 (by decide) (by decide) rfl (fun _ => rfl) (fun y1462 ey1462 => ?_)
              obtain rfl : y1462 = nI (i + 6) := by rw [ey1462]; simp only [fa_lit, nI_add]
              refine V_goto (pc := 1465) (t := 18) dL_law_1465 (by decide) ?_
              exact ih (i + 6) _ _ _ n2 nt2 np2 _ (by omega) (by omega) (by first | omega | (show 3 * c ≤ b.1 - 3; omega)) (by first | omega | (show 196 * c ≤ b.2 - 196; omega)) (h2.2.md s2.al _ _) (mP_MR hM2)
            · exact absurd rfl h1157
          | 32, hq, he => 
            cases hq
            refine V_aln (pc := 1162) dL_law_1162 rfl rfl ?_
            refine V_aln (pc := 1163) dL_law_1163 rfl rfl ?_
            refine V_iln (pc := 1164) dL_law_1164 rfl rfl ?_
            refine V_iconst (pc := 1165) (v := 1) dL_law_1165 (by decide) ?_
            refine V_iadd (pc := 1166) dL_law_1166 ?_
            refine V_iax (pc := 1167) (i + 1) dL_law_1167 hm (by omega) (by simp only [fa_lit, nI_add, pk_mul]) (by omega) ?_
            rw [hf (i + 1) (by omega)]
            refine V_aln (pc := 1168) dL_law_1168 rfl rfl ?_
            refine V_iln (pc := 1169) dL_law_1169 rfl rfl ?_
            refine V_iconst (pc := 1170) (v := 2) dL_law_1170 (by decide) ?_
            refine V_iadd (pc := 1171) dL_law_1171 ?_
            refine V_iax (pc := 1172) (i + 2) dL_law_1172 hm (by omega) (by simp only [fa_lit, nI_add, pk_mul]) (by omega) ?_
            rw [hf (i + 2) (by omega)]
            refine V_aln (pc := 1173) dL_law_1173 rfl rfl ?_
            refine V_iln (pc := 1174) dL_law_1174 rfl rfl ?_
            refine V_iconst (pc := 1175) (v := 3) dL_law_1175 (by decide) ?_
            refine V_iadd (pc := 1176) dL_law_1176 ?_
            refine V_iax (pc := 1177) (i + 3) dL_law_1177 hm (by omega) (by simp only [fa_lit, nI_add, pk_mul]) (by omega) ?_
            rw [hf (i + 3) (by omega)]
            refine V_aln (pc := 1178) dL_law_1178 rfl rfl ?_
            refine V_iln (pc := 1179) dL_law_1179 rfl rfl ?_
            refine V_iconst (pc := 1180) (v := 4) dL_law_1180 (by decide) ?_
            refine V_iadd (pc := 1181) dL_law_1181 ?_
            refine V_iax (pc := 1182) (i + 4) dL_law_1182 hm (by omega) (by simp only [fa_lit, nI_add, pk_mul]) (by omega) ?_
            rw [hf (i + 4) (by omega)]
            refine V_aln (pc := 1183) dL_law_1183 rfl rfl ?_
            refine V_iln (pc := 1184) dL_law_1184 rfl rfl ?_
            refine V_iconst (pc := 1185) (v := 5) dL_law_1185 (by decide) ?_
            refine V_iadd (pc := 1186) dL_law_1186 ?_
            refine V_iax (pc := 1187) (i + 5) dL_law_1187 hm (by omega) (by simp only [fa_lit, nI_add, pk_mul]) (by omega) ?_
            rw [hf (i + 5) (by omega)]
            refine V_cVi0 (pc := 1188) (jc_L_145 dL_law_1188 rfl) rfl rfl (Nat.le_of_ble_eq_true rfl) hI.1.1 ?_
            refine C_copy hI (fun S2 n2 nt2 np2 h2 => ?_)
            have hM2 := h2.1.mf hI.2.1
            have e2 := (h2.1.mr hI.2.1 hR).eq
            refine V_aln (pc := 1191) dL_law_1191 rfl rfl ?_
            refine V_aln (pc := 1192) dL_law_1192 rfl rfl ?_
            refine V_iln (pc := 1193) dL_law_1193 rfl rfl ?_
            refine V_iconst (pc := 1194) (v := 1) dL_law_1194 (by decide) ?_
            refine V_iadd (pc := 1195) dL_law_1195 ?_
            refine V_iax (pc := 1196) (i + 1) dL_law_1196 hm (by omega) (by simp only [fa_lit, nI_add, pk_mul]) (by omega) ?_
            rw [hf (i + 1) (by omega)]
            refine V_aln (pc := 1197) dL_law_1197 rfl rfl ?_
            refine V_iln (pc := 1198) dL_law_1198 rfl rfl ?_
            refine V_iconst (pc := 1199) (v := 2) dL_law_1199 (by decide) ?_
            refine V_iadd (pc := 1200) dL_law_1200 ?_
            refine V_iax (pc := 1201) (i + 2) dL_law_1201 hm (by omega) (by simp only [fa_lit, nI_add, pk_mul]) (by omega) ?_
            rw [hf (i + 2) (by omega)]
            refine V_aln (pc := 1202) dL_law_1202 rfl rfl ?_
            refine V_iln (pc := 1203) dL_law_1203 rfl rfl ?_
            refine V_iconst (pc := 1204) (v := 3) dL_law_1204 (by decide) ?_
            refine V_iadd (pc := 1205) dL_law_1205 ?_
            refine V_iax (pc := 1206) (i + 3) dL_law_1206 hm (by omega) (by simp only [fa_lit, nI_add, pk_mul]) (by omega) ?_
            rw [hf (i + 3) (by omega)]
            refine V_aln (pc := 1207) dL_law_1207 rfl rfl ?_
            refine V_iln (pc := 1208) dL_law_1208 rfl rfl ?_
            refine V_iconst (pc := 1209) (v := 4) dL_law_1209 (by decide) ?_
            refine V_iadd (pc := 1210) dL_law_1210 ?_
            refine V_iax (pc := 1211) (i + 4) dL_law_1211 hm (by omega) (by simp only [fa_lit, nI_add, pk_mul]) (by omega) ?_
            rw [hf (i + 4) (by omega)]
            refine V_aln (pc := 1212) dL_law_1212 rfl rfl ?_
            refine V_iln (pc := 1213) dL_law_1213 rfl rfl ?_
            refine V_iconst (pc := 1214) (v := 5) dL_law_1214 (by decide) ?_
            refine V_iadd (pc := 1215) dL_law_1215 ?_
            refine V_iax (pc := 1216) (i + 5) dL_law_1216 hm (by omega) (by simp only [fa_lit, nI_add, pk_mul]) (by omega) ?_
            rw [hf (i + 5) (by omega)]
            refine V_cVi0 (pc := 1217) (jc_L_149 dL_law_1217 rfl) rfl rfl (Nat.le_of_ble_eq_true rfl) hM2.1 ?_
            rw [← e2]
            refine M_copy hM2 hI.2.2.2.2.1.1 (fun r => ?_)
            refine V_ceq (pc := 1220) (t := 1462) dL_law_1220 (by decide) (fun h1220 => ?_) (fun h1220 => ?_)
            · refine V_inc (pc := 1462) (fun y => [(0, .ref a), (1, .ref cc), (2, .ref m), (3, .int y)]) (w := 6) dL_law_1462 (by decide) (by decide) rfl (fun _ => rfl) (fun y1462 ey1462 => ?_)
              obtain rfl : y1462 = nI (i + 6) := by rw [ey1462]; simp only [fa_lit, nI_add]
              refine V_goto (pc := 1465) (t := 18) dL_law_1465 (by decide) ?_
              exact ih (i + 6) _ _ _ n2 nt2 np2 _ (by omega) (by omega) (by first | omega | (show 3 * c ≤ b.1 - 3; omega)) (by first | omega | (show 196 * c ≤ b.2 - 196; omega)) (h2.2.md (al_c r _) _ _) (mP_MR hM2)
            · exact absurd rfl h1220
          | 33, hq, he => 
            cases hq
            refine V_aln (pc := 1225) dL_law_1225 rfl rfl ?_
            refine V_aln (pc := 1226) dL_law_1226 rfl rfl ?_
            refine V_iln (pc := 1227) dL_law_1227 rfl rfl ?_
            refine V_iconst (pc := 1228) (v := 1) dL_law_1228 (by decide) ?_
            refine V_iadd (pc := 1229) dL_law_1229 ?_
            refine V_iax (pc := 1230) (i + 1) dL_law_1230 hm (by omega) (by simp only [fa_lit, nI_add, pk_mul]) (by omega) ?_
            rw [hf (i + 1) (by omega)]
            refine V_aln (pc := 1231) dL_law_1231 rfl rfl ?_
            refine V_iln (pc := 1232) dL_law_1232 rfl rfl ?_
            refine V_iconst (pc := 1233) (v := 2) dL_law_1233 (by decide) ?_
            refine V_iadd (pc := 1234) dL_law_1234 ?_
            refine V_iax (pc := 1235) (i + 2) dL_law_1235 hm (by omega) (by simp only [fa_lit, nI_add, pk_mul]) (by omega) ?_
            rw [hf (i + 2) (by omega)]
            refine V_aln (pc := 1236) dL_law_1236 rfl rfl ?_
            refine V_iln (pc := 1237) dL_law_1237 rfl rfl ?_
            refine V_iconst (pc := 1238) (v := 3) dL_law_1238 (by decide) ?_
            refine V_iadd (pc := 1239) dL_law_1239 ?_
            refine V_iax (pc := 1240) (i + 3) dL_law_1240 hm (by omega) (by simp only [fa_lit, nI_add, pk_mul]) (by omega) ?_
            rw [hf (i + 3) (by omega)]
            refine V_cVi0 (pc := 1241) (jc_L_150 dL_law_1241 rfl) rfl rfl (Nat.le_of_ble_eq_true rfl) hI.1.1 ?_
            refine C_lay hI (fun S2 n2 nt2 np2 h2 => ?_)
            have hM2 := h2.1.mf hI.2.1
            have e2 := (h2.1.mr hI.2.1 hR).eq
            refine V_aln (pc := 1244) dL_law_1244 rfl rfl ?_
            refine V_aln (pc := 1245) dL_law_1245 rfl rfl ?_
            refine V_iln (pc := 1246) dL_law_1246 rfl rfl ?_
            refine V_iconst (pc := 1247) (v := 1) dL_law_1247 (by decide) ?_
            refine V_iadd (pc := 1248) dL_law_1248 ?_
            refine V_iax (pc := 1249) (i + 1) dL_law_1249 hm (by omega) (by simp only [fa_lit, nI_add, pk_mul]) (by omega) ?_
            rw [hf (i + 1) (by omega)]
            refine V_aln (pc := 1250) dL_law_1250 rfl rfl ?_
            refine V_iln (pc := 1251) dL_law_1251 rfl rfl ?_
            refine V_iconst (pc := 1252) (v := 2) dL_law_1252 (by decide) ?_
            refine V_iadd (pc := 1253) dL_law_1253 ?_
            refine V_iax (pc := 1254) (i + 2) dL_law_1254 hm (by omega) (by simp only [fa_lit, nI_add, pk_mul]) (by omega) ?_
            rw [hf (i + 2) (by omega)]
            refine V_aln (pc := 1255) dL_law_1255 rfl rfl ?_
            refine V_iln (pc := 1256) dL_law_1256 rfl rfl ?_
            refine V_iconst (pc := 1257) (v := 3) dL_law_1257 (by decide) ?_
            refine V_iadd (pc := 1258) dL_law_1258 ?_
            refine V_iax (pc := 1259) (i + 3) dL_law_1259 hm (by omega) (by simp only [fa_lit, nI_add, pk_mul]) (by omega) ?_
            rw [hf (i + 3) (by omega)]
            refine V_cVi0 (pc := 1260) (jc_L_153 dL_law_1260 rfl) rfl rfl (Nat.le_of_ble_eq_true rfl) hM2.1 ?_
            rw [← e2]
            refine M_lay hM2 hI.2.2.2.2.1.1 hMI ?_
            refine V_ceq (pc := 1263) (t := 1462) dL_law_1263 (by decide) (fun h1263 => ?_) (fun h1263 => ?_)
            · refine V_inc (pc := 1462) (fun y => [(0, .ref a), (1, .ref cc), (2, .ref m), (3, .int y)]) (w := 6) dL_law_1462 (by decide) (by decide) rfl (fun _ => rfl) (fun y1462 ey1462 => ?_)
              obtain rfl : y1462 = nI (i + 6) := by rw [ey1462]; simp only [fa_lit, nI_add]
              refine V_goto (pc := 1465) (t := 18) dL_law_1465 (by decide) ?_
              exact ih (i + 6) _ _ _ n2 nt2 np2 _ (by omega) (by omega) (by first | omega | (show 3 * c ≤ b.1 - 3; omega)) (by first | omega | (show 196 * c ≤ b.2 - 196; omega)) (h2.2.md al.rf _ _) (mP_MR hM2)
            · exact absurd rfl h1263
          | 34, hq, he => 
            cases hq
            refine V_aln (pc := 1268) dL_law_1268 rfl rfl ?_
            refine V_aln (pc := 1269) dL_law_1269 rfl rfl ?_
            refine V_iln (pc := 1270) dL_law_1270 rfl rfl ?_
            refine V_iconst (pc := 1271) (v := 1) dL_law_1271 (by decide) ?_
            refine V_iadd (pc := 1272) dL_law_1272 ?_
            refine V_iax (pc := 1273) (i + 1) dL_law_1273 hm (by omega) (by simp only [fa_lit, nI_add, pk_mul]) (by omega) ?_
            rw [hf (i + 1) (by omega)]
            refine V_aln (pc := 1274) dL_law_1274 rfl rfl ?_
            refine V_iln (pc := 1275) dL_law_1275 rfl rfl ?_
            refine V_iconst (pc := 1276) (v := 2) dL_law_1276 (by decide) ?_
            refine V_iadd (pc := 1277) dL_law_1277 ?_
            refine V_iax (pc := 1278) (i + 2) dL_law_1278 hm (by omega) (by simp only [fa_lit, nI_add, pk_mul]) (by omega) ?_
            rw [hf (i + 2) (by omega)]
            refine V_cVi0 (pc := 1279) (jc_L_154 dL_law_1279 rfl) rfl rfl (Nat.le_of_ble_eq_true rfl) hI.1.1 ?_
            refine C_ask hI hxA (fun S2 n2 nt2 np2 h2 => ?_)
            have hM2 := h2.1.mf hI.2.1
            have e2 := (h2.1.mr hI.2.1 hR).eq
            refine V_aln (pc := 1282) dL_law_1282 rfl rfl ?_
            refine V_aln (pc := 1283) dL_law_1283 rfl rfl ?_
            refine V_iln (pc := 1284) dL_law_1284 rfl rfl ?_
            refine V_iconst (pc := 1285) (v := 1) dL_law_1285 (by decide) ?_
            refine V_iadd (pc := 1286) dL_law_1286 ?_
            refine V_iax (pc := 1287) (i + 1) dL_law_1287 hm (by omega) (by simp only [fa_lit, nI_add, pk_mul]) (by omega) ?_
            rw [hf (i + 1) (by omega)]
            refine V_aln (pc := 1288) dL_law_1288 rfl rfl ?_
            refine V_iln (pc := 1289) dL_law_1289 rfl rfl ?_
            refine V_iconst (pc := 1290) (v := 2) dL_law_1290 (by decide) ?_
            refine V_iadd (pc := 1291) dL_law_1291 ?_
            refine V_iax (pc := 1292) (i + 2) dL_law_1292 hm (by omega) (by simp only [fa_lit, nI_add, pk_mul]) (by omega) ?_
            rw [hf (i + 2) (by omega)]
            refine V_cVi0 (pc := 1293) (jc_L_157 dL_law_1293 rfl) rfl rfl (Nat.le_of_ble_eq_true rfl) hM2.1 ?_
            rw [← e2]
            refine M_ask hM2 ?_
            refine V_ceq (pc := 1296) (t := 1462) dL_law_1296 (by decide) (fun h1296 => ?_) (fun h1296 => ?_)
            · refine V_inc (pc := 1462) (fun y => [(0, .ref a), (1, .ref cc), (2, .ref m), (3, .int y)]) (w := 6) dL_law_1462 (by decide) (by decide) rfl (fun _ => rfl) (fun y1462 ey1462 => ?_)
              obtain rfl : y1462 = nI (i + 6) := by rw [ey1462]; simp only [fa_lit, nI_add]
              refine V_goto (pc := 1465) (t := 18) dL_law_1465 (by decide) ?_
              exact ih (i + 6) _ _ _ n2 nt2 np2 _ (by omega) (by omega) (by first | omega | (show 3 * c ≤ b.1 - 3; omega)) (by first | omega | (show 196 * c ≤ b.2 - 196; omega)) (h2.2.md al.rf _ _) (mP_MR hM2)
            · exact absurd rfl h1296
          | 35, hq, he => 
            cases hq
            refine V_aln (pc := 1301) dL_law_1301 rfl rfl ?_
            refine V_aln (pc := 1302) dL_law_1302 rfl rfl ?_
            refine V_iln (pc := 1303) dL_law_1303 rfl rfl ?_
            refine V_iconst (pc := 1304) (v := 1) dL_law_1304 (by decide) ?_
            refine V_iadd (pc := 1305) dL_law_1305 ?_
            refine V_iax (pc := 1306) (i + 1) dL_law_1306 hm (by omega) (by simp only [fa_lit, nI_add, pk_mul]) (by omega) ?_
            rw [hf (i + 1) (by omega)]
            refine V_aln (pc := 1307) dL_law_1307 rfl rfl ?_
            refine V_iln (pc := 1308) dL_law_1308 rfl rfl ?_
            refine V_iconst (pc := 1309) (v := 2) dL_law_1309 (by decide) ?_
            refine V_iadd (pc := 1310) dL_law_1310 ?_
            refine V_iax (pc := 1311) (i + 2) dL_law_1311 hm (by omega) (by simp only [fa_lit, nI_add, pk_mul]) (by omega) ?_
            rw [hf (i + 2) (by omega)]
            refine V_cVi0 (pc := 1312) (jc_L_158 dL_law_1312 rfl) rfl rfl (Nat.le_of_ble_eq_true rfl) hI.1.1 ?_
            refine C_item hI (fun S2 n2 nt2 np2 h2 => ?_)
            have hM2 := h2.1.mf hI.2.1
            have e2 := (h2.1.mr hI.2.1 hR).eq
            refine V_aln (pc := 1315) dL_law_1315 rfl rfl ?_
            refine V_aln (pc := 1316) dL_law_1316 rfl rfl ?_
            refine V_iln (pc := 1317) dL_law_1317 rfl rfl ?_
            refine V_iconst (pc := 1318) (v := 1) dL_law_1318 (by decide) ?_
            refine V_iadd (pc := 1319) dL_law_1319 ?_
            refine V_iax (pc := 1320) (i + 1) dL_law_1320 hm (by omega) (by simp only [fa_lit, nI_add, pk_mul]) (by omega) ?_
            rw [hf (i + 1) (by omega)]
            refine V_aln (pc := 1321) dL_law_1321 rfl rfl ?_
            refine V_iln (pc := 1322) dL_law_1322 rfl rfl ?_
            refine V_iconst (pc := 1323) (v := 2) dL_law_1323 (by decide) ?_
            refine V_iadd (pc := 1324) dL_law_1324 ?_
            refine V_iax (pc := 1325) (i + 2) dL_law_1325 hm (by omega) (by simp only [fa_lit, nI_add, pk_mul]) (by omega) ?_
            rw [hf (i + 2) (by omega)]
            refine V_cVi0 (pc := 1326) (jc_L_161 dL_law_1326 rfl) rfl rfl (Nat.le_of_ble_eq_true rfl) hM2.1 ?_
            rw [← e2]
            refine M_item hM2 hI.2.2.2.2.2.1.1 ?_
            refine V_ceq (pc := 1329) (t := 1462) dL_law_1329 (by decide) (fun h1329 => ?_) (fun h1329 => ?_)
            · refine V_inc (pc := 1462) (fun y => [(0, .ref a), (1, .ref cc), (2, .ref m), (3, .int y)]) (w := 6) dL_law_1462 (by decide) (by decide) rfl (fun _ => rfl) (fun y1462 ey1462 => ?_)
              obtain rfl : y1462 = nI (i + 6) := by rw [ey1462]; simp only [fa_lit, nI_add]
              refine V_goto (pc := 1465) (t := 18) dL_law_1465 (by decide) ?_
              exact ih (i + 6) _ _ _ n2 nt2 np2 _ (by omega) (by omega) (by first | omega | (show 3 * c ≤ b.1 - 3; omega)) (by first | omega | (show 196 * c ≤ b.2 - 196; omega)) (h2.2.md al.rf _ _) (mP_MR hM2)
            · exact absurd rfl h1329
          | 36, hq, he => 
            cases hq
            refine V_aln (pc := 1334) dL_law_1334 rfl rfl ?_
            refine V_aln (pc := 1335) dL_law_1335 rfl rfl ?_
            refine V_iln (pc := 1336) dL_law_1336 rfl rfl ?_
            refine V_iconst (pc := 1337) (v := 1) dL_law_1337 (by decide) ?_
            refine V_iadd (pc := 1338) dL_law_1338 ?_
            refine V_iax (pc := 1339) (i + 1) dL_law_1339 hm (by omega) (by simp only [fa_lit, nI_add, pk_mul]) (by omega) ?_
            rw [hf (i + 1) (by omega)]
            refine V_aln (pc := 1340) dL_law_1340 rfl rfl ?_
            refine V_iln (pc := 1341) dL_law_1341 rfl rfl ?_
            refine V_iconst (pc := 1342) (v := 2) dL_law_1342 (by decide) ?_
            refine V_iadd (pc := 1343) dL_law_1343 ?_
            refine V_iax (pc := 1344) (i + 2) dL_law_1344 hm (by omega) (by simp only [fa_lit, nI_add, pk_mul]) (by omega) ?_
            rw [hf (i + 2) (by omega)]
            refine V_cVi0 (pc := 1345) (jc_L_162 dL_law_1345 rfl) rfl rfl (Nat.le_of_ble_eq_true rfl) hI.1.1 ?_
            refine C_rest hI (fun S2 n2 nt2 np2 h2 => ?_)
            have hM2 := h2.1.mf hI.2.1
            have e2 := (h2.1.mr hI.2.1 hR).eq
            refine V_aln (pc := 1348) dL_law_1348 rfl rfl ?_
            refine V_aln (pc := 1349) dL_law_1349 rfl rfl ?_
            refine V_iln (pc := 1350) dL_law_1350 rfl rfl ?_
            refine V_iconst (pc := 1351) (v := 1) dL_law_1351 (by decide) ?_
            refine V_iadd (pc := 1352) dL_law_1352 ?_
            refine V_iax (pc := 1353) (i + 1) dL_law_1353 hm (by omega) (by simp only [fa_lit, nI_add, pk_mul]) (by omega) ?_
            rw [hf (i + 1) (by omega)]
            refine V_aln (pc := 1354) dL_law_1354 rfl rfl ?_
            refine V_iln (pc := 1355) dL_law_1355 rfl rfl ?_
            refine V_iconst (pc := 1356) (v := 2) dL_law_1356 (by decide) ?_
            refine V_iadd (pc := 1357) dL_law_1357 ?_
            refine V_iax (pc := 1358) (i + 2) dL_law_1358 hm (by omega) (by simp only [fa_lit, nI_add, pk_mul]) (by omega) ?_
            rw [hf (i + 2) (by omega)]
            refine V_cVi0 (pc := 1359) (jc_L_165 dL_law_1359 rfl) rfl rfl (Nat.le_of_ble_eq_true rfl) hM2.1 ?_
            rw [← e2]
            refine M_rest hM2 ?_
            refine V_ceq (pc := 1362) (t := 1462) dL_law_1362 (by decide) (fun h1362 => ?_) (fun h1362 => ?_)
            · refine V_inc (pc := 1462) (fun y => [(0, .ref a), (1, .ref cc), (2, .ref m), (3, .int y)]) (w := 6) dL_law_1462 (by decide) (by decide) rfl (fun _ => rfl) (fun y1462 ey1462 => ?_)
              obtain rfl : y1462 = nI (i + 6) := by rw [ey1462]; simp only [fa_lit, nI_add]
              refine V_goto (pc := 1465) (t := 18) dL_law_1465 (by decide) ?_
              exact ih (i + 6) _ _ _ n2 nt2 np2 _ (by omega) (by omega) (by first | omega | (show 3 * c ≤ b.1 - 3; omega)) (by first | omega | (show 196 * c ≤ b.2 - 196; omega)) (h2.2.md al.rf _ _) (mP_MR hM2)
            · exact absurd rfl h1362
          | 37, hq, he => 
            cases hq
            refine V_aln (pc := 1367) dL_law_1367 rfl rfl ?_
            refine V_aln (pc := 1368) dL_law_1368 rfl rfl ?_
            refine V_iln (pc := 1369) dL_law_1369 rfl rfl ?_
            refine V_iconst (pc := 1370) (v := 1) dL_law_1370 (by decide) ?_
            refine V_iadd (pc := 1371) dL_law_1371 ?_
            refine V_iax (pc := 1372) (i + 1) dL_law_1372 hm (by omega) (by simp only [fa_lit, nI_add, pk_mul]) (by omega) ?_
            rw [hf (i + 1) (by omega)]
            refine V_cVi0 (pc := 1373) (jc_L_166 dL_law_1373 rfl) rfl rfl (Nat.le_of_ble_eq_true rfl) hI.1.1 ?_
            refine C_tell hI hw hw60 (fun S2 n2 nt2 np2 h2 => ?_)
            have hM2 := h2.1.mf hI.2.1
            have e2 := (h2.1.mr hI.2.1 hR).eq
            refine V_aln (pc := 1376) dL_law_1376 rfl rfl ?_
            refine V_aln (pc := 1377) dL_law_1377 rfl rfl ?_
            refine V_iln (pc := 1378) dL_law_1378 rfl rfl ?_
            refine V_iconst (pc := 1379) (v := 1) dL_law_1379 (by decide) ?_
            refine V_iadd (pc := 1380) dL_law_1380 ?_
            refine V_iax (pc := 1381) (i + 1) dL_law_1381 hm (by omega) (by simp only [fa_lit, nI_add, pk_mul]) (by omega) ?_
            rw [hf (i + 1) (by omega)]
            refine V_cVi0 (pc := 1382) (jc_L_169 dL_law_1382 rfl) rfl rfl (Nat.le_of_ble_eq_true rfl) hM2.1 ?_
            rw [← e2]
            refine M_tell hM2 hw hw60 ?_
            refine V_ceq (pc := 1385) (t := 1462) dL_law_1385 (by decide) (fun h1385 => ?_) (fun h1385 => ?_)
            · refine V_inc (pc := 1462) (fun y => [(0, .ref a), (1, .ref cc), (2, .ref m), (3, .int y)]) (w := 6) dL_law_1462 (by decide) (by decide) rfl (fun _ => rfl) (fun y1462 ey1462 => ?_)
              obtain rfl : y1462 = nI (i + 6) := by rw [ey1462]; simp only [fa_lit, nI_add]
              refine V_goto (pc := 1465) (t := 18) dL_law_1465 (by decide) ?_
              exact ih (i + 6) _ _ _ n2 nt2 np2 _ (by omega) (by omega) (by first | omega | (show 3 * c ≤ b.1 - 3; omega)) (by first | omega | (show 196 * c ≤ b.2 - 196; omega)) (h2.2.md al.rf _ _) (mP_MR hM2)
            · exact absurd rfl h1385
          | 38, hq, he => 
            cases hq
            refine V_aln (pc := 1390) dL_law_1390 rfl rfl ?_
            refine V_aln (pc := 1391) dL_law_1391 rfl rfl ?_
            refine V_iln (pc := 1392) dL_law_1392 rfl rfl ?_
            refine V_iconst (pc := 1393) (v := 1) dL_law_1393 (by decide) ?_
            refine V_iadd (pc := 1394) dL_law_1394 ?_
            refine V_iax (pc := 1395) (i + 1) dL_law_1395 hm (by omega) (by simp only [fa_lit, nI_add, pk_mul]) (by omega) ?_
            rw [hf (i + 1) (by omega)]
            refine V_cVi0 (pc := 1396) (jc_L_170 dL_law_1396 rfl) rfl rfl (Nat.le_of_ble_eq_true rfl) hI.1.1 ?_
            obtain ⟨n1, nt1, np1, hLV⟩ : ∃ n1 nt1 np1, F 291 = 0 ∨ LV S im (lyd (A 289) (A 288) 2954) n1 nt1 np1 := by
              rcases hI.2.2.2.1.2 with q | ⟨q, n1, nt1, np1, q2⟩
              · exact ⟨0, 0, 0, Or.inl q⟩
              · exact ⟨n1, nt1, np1, Or.inr (q2 _ (fun k hk => by unfold lyd; rw [if_pos (by omega)]))⟩
            refine C_check hI hw hw60 hLV (fun S2 n2 nt2 np2 h2 => ?_)
            have hM2 := h2.1.mf hI.2.1
            have e2 := (h2.1.mr hI.2.1 hR).eq
            refine V_aln (pc := 1399) dL_law_1399 rfl rfl ?_
            refine V_aln (pc := 1400) dL_law_1400 rfl rfl ?_
            refine V_iln (pc := 1401) dL_law_1401 rfl rfl ?_
            refine V_iconst (pc := 1402) (v := 1) dL_law_1402 (by decide) ?_
            refine V_iadd (pc := 1403) dL_law_1403 ?_
            refine V_iax (pc := 1404) (i + 1) dL_law_1404 hm (by omega) (by simp only [fa_lit, nI_add, pk_mul]) (by omega) ?_
            rw [hf (i + 1) (by omega)]
            refine V_cVi0 (pc := 1405) (jc_L_173 dL_law_1405 rfl) rfl rfl (Nat.le_of_ble_eq_true rfl) hM2.1 ?_
            rw [← e2]
            refine M_check hM2 hw hw60 (n := n1) (nt := nt1) (np := np1) (hLV.imp (fun q => q) (fun q => q.2.2.1)) (fun A2 s2 => ?_)
            refine V_ceq (pc := 1408) (t := 1462) dL_law_1408 (by decide) (fun h1408 => ?_) (fun h1408 => ?_)
            · refine V_inc (pc := 1462) (fun y => [(0, .ref a), (1, .ref cc), (2, .ref m), (3, .int y)]) (w := 6) dL_law_1462 (by decide) (by decide) rfl (fun _ => rfl) (fun y1462 ey1462 => ?_)
              obtain rfl : y1462 = nI (i + 6) := by rw [ey1462]; simp only [fa_lit, nI_add]
              refine V_goto (pc := 1465) (t := 18) dL_law_1465 (by decide) ?_
              exact ih (i + 6) _ _ _ n2 nt2 np2 _ (by omega) (by omega) (by first | omega | (show 3 * c ≤ b.1 - 3; omega)) (by first | omega | (show 196 * c ≤ b.2 - 196; omega)) (h2.2.md s2.al _ _) (mP_MR hM2)
            · exact absurd rfl h1408
          | 39, hq, he => 
            cases hq
            refine V_aln (pc := 1413) dL_law_1413 rfl rfl ?_
            refine V_cVi0 (pc := 1414) (jc_L_174 dL_law_1414 rfl) rfl rfl (Nat.le_of_ble_eq_true rfl) hI.1.1 ?_
            refine C_keep hI (fun S2 n2 nt2 np2 h2 => ?_)
            have hM2 := h2.1.mf hI.2.1
            have e2 := (h2.1.mr hI.2.1 hR).eq
            refine V_aln (pc := 1417) dL_law_1417 rfl rfl ?_
            refine V_cVi0 (pc := 1418) (jc_L_177 dL_law_1418 rfl) rfl rfl (Nat.le_of_ble_eq_true rfl) hM2.1 ?_
            rw [← e2]
            refine M_keep hM2 ?_
            refine V_ceq (pc := 1421) (t := 1462) dL_law_1421 (by decide) (fun h1421 => ?_) (fun h1421 => ?_)
            · refine V_inc (pc := 1462) (fun y => [(0, .ref a), (1, .ref cc), (2, .ref m), (3, .int y)]) (w := 6) dL_law_1462 (by decide) (by decide) rfl (fun _ => rfl) (fun y1462 ey1462 => ?_)
              obtain rfl : y1462 = nI (i + 6) := by rw [ey1462]; simp only [fa_lit, nI_add]
              refine V_goto (pc := 1465) (t := 18) dL_law_1465 (by decide) ?_
              exact ih (i + 6) _ _ _ n2 nt2 np2 _ (by omega) (by omega) (by first | omega | (show 3 * c ≤ b.1 - 3; omega)) (by first | omega | (show 196 * c ≤ b.2 - 196; omega)) (h2.2.md al.rf _ _) (mP_MR hM2)
            · exact absurd rfl h1421
          | 40, hq, he => 
            cases hq
            refine V_aln (pc := 1426) dL_law_1426 rfl rfl ?_
            refine V_cVi0 (pc := 1427) (jc_L_178 dL_law_1427 rfl) rfl rfl (Nat.le_of_ble_eq_true rfl) hI.1.1 ?_
            refine C_back hI (fun S2 n2 nt2 np2 h2 => ?_)
            have hM2 := h2.1.mf hI.2.1
            have e2 := (h2.1.mr hI.2.1 hR).eq
            refine V_aln (pc := 1430) dL_law_1430 rfl rfl ?_
            refine V_cVi0 (pc := 1431) (jc_L_181 dL_law_1431 rfl) rfl rfl (Nat.le_of_ble_eq_true rfl) hM2.1 ?_
            rw [← e2]
            refine M_back hM2 ?_
            refine V_ceq (pc := 1434) (t := 1462) dL_law_1434 (by decide) (fun h1434 => ?_) (fun h1434 => ?_)
            · refine V_inc (pc := 1462) (fun y => [(0, .ref a), (1, .ref cc), (2, .ref m), (3, .int y)]) (w := 6) dL_law_1462 (by decide) (by decide) rfl (fun _ => rfl) (fun y1462 ey1462 => ?_)
              obtain rfl : y1462 = nI (i + 6) := by rw [ey1462]; simp only [fa_lit, nI_add]
              refine V_goto (pc := 1465) (t := 18) dL_law_1465 (by decide) ?_
              exact ih (i + 6) _ _ _ n2 nt2 np2 _ (by omega) (by omega) (by first | omega | (show 3 * c ≤ b.1 - 3; omega)) (by first | omega | (show 196 * c ≤ b.2 - 196; omega)) (h2.2.md al.rf _ _) (mP_MR hM2)
            · exact absurd rfl h1434
          | 41, hq, he => 
            cases hq
            refine V_aln (pc := 1439) dL_law_1439 rfl rfl ?_
            refine V_aln (pc := 1440) dL_law_1440 rfl rfl ?_
            refine V_iln (pc := 1441) dL_law_1441 rfl rfl ?_
            refine V_iconst (pc := 1442) (v := 1) dL_law_1442 (by decide) ?_
            refine V_iadd (pc := 1443) dL_law_1443 ?_
            refine V_iax (pc := 1444) (i + 1) dL_law_1444 hm (by omega) (by simp only [fa_lit, nI_add, pk_mul]) (by omega) ?_
            rw [hf (i + 1) (by omega)]
            refine V_cVi0 (pc := 1445) (jc_L_182 dL_law_1445 rfl) rfl rfl (Nat.le_of_ble_eq_true rfl) hI.1.1 ?_
            refine C_count hI (fun S2 n2 nt2 np2 h2 => ?_)
            have hM2 := h2.1.mf hI.2.1
            have e2 := (h2.1.mr hI.2.1 hR).eq
            refine V_aln (pc := 1448) dL_law_1448 rfl rfl ?_
            refine V_aln (pc := 1449) dL_law_1449 rfl rfl ?_
            refine V_iln (pc := 1450) dL_law_1450 rfl rfl ?_
            refine V_iconst (pc := 1451) (v := 1) dL_law_1451 (by decide) ?_
            refine V_iadd (pc := 1452) dL_law_1452 ?_
            refine V_iax (pc := 1453) (i + 1) dL_law_1453 hm (by omega) (by simp only [fa_lit, nI_add, pk_mul]) (by omega) ?_
            rw [hf (i + 1) (by omega)]
            refine V_cVi0 (pc := 1454) (jc_L_185 dL_law_1454 rfl) rfl rfl (Nat.le_of_ble_eq_true rfl) hM2.1 ?_
            rw [← e2]
            refine M_count hM2 hMI ?_
            refine V_ceq (pc := 1457) (t := 1462) dL_law_1457 (by decide) (fun h1457 => ?_) (fun h1457 => ?_)
            · refine V_inc (pc := 1462) (fun y => [(0, .ref a), (1, .ref cc), (2, .ref m), (3, .int y)]) (w := 6) dL_law_1462 (by decide) (by decide) rfl (fun _ => rfl) (fun y1462 ey1462 => ?_)
              obtain rfl : y1462 = nI (i + 6) := by rw [ey1462]; simp only [fa_lit, nI_add]
              refine V_goto (pc := 1465) (t := 18) dL_law_1465 (by decide) ?_
              exact ih (i + 6) _ _ _ n2 nt2 np2 _ (by omega) (by omega) (by first | omega | (show 3 * c ≤ b.1 - 3; omega)) (by first | omega | (show 196 * c ≤ b.2 - 196; omega)) (h2.2.md al.rf _ _) (mP_MR hM2)
            · exact absurd rfl h1457
          | n + 42, hq, _ => simp at hq
        · refine V_inc (pc := 1462) (fun y => [(0, .ref a), (1, .ref cc), (2, .ref m), (3, .int y)]) (w := 6) dL_law_1462 (by decide) (by decide) rfl (fun _ => rfl) (fun y1462 ey1462 => ?_)
          obtain rfl : y1462 = nI (i + 6) := by rw [ey1462]; simp only [fa_lit, nI_add]
          refine V_goto (pc := 1465) (t := 18) dL_law_1465 (by decide) ?_
          exact ih (i + 6) S A F n nt np b (by omega) (by omega) (by omega) (by omega) hI hR
