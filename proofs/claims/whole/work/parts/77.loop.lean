set_option maxRecDepth 100000 in
set_option maxHeartbeats 8000000 in
theorem law_loop {n : Nat} {xs : Nat → Int32} (hn : n ≤ 320) : ∀ (f : Nat) (i : Int) (S : St), ((n : Int) - i).toNat < f → 0 ≤ i → i ≤ 400 → Rl S → JJ mL_law (LX n xs) 18 [(0, .ref 135), (1, .ref 0), (2, .ref 118), (3, vi i)] [] S := by
  intro f
  induction f with
  | zero => intro i S h; exact absurd h (Nat.not_lt_zero _)
  | succ f ih =>
    intro i S hm h0 h4 hR
    refine j_iload_n dL_law_18 rfl ?_
    refine j_aload_n dL_law_19 rfl ?_
    refine j_slen dL_law_20 ?_
    refine j_iconst dL_law_21 ?_
    refine j_isub dL_law_22 ?_
    refine j_icmp_gt (tgt := 976) dL_law_23 (by decide) (by omega) (by omega) (fun hg => ?_) (fun hg => ?_)
    · refine j_iconst dL_law_976 ?_
      exact j_lawret dL_law_977
    refine j_aload_n dL_law_26 rfl ?_
    refine j_iload_n dL_law_27 rfl ?_
    refine j_sld dL_law_28 (by omega) (by omega) hn ?_
    refine j_bipush dL_law_29 (by decide) ?_
    refine j_and31 dL_law_31 (fun y hy0 hy1 => ?_)
    have hnext : ∀ S2, Rl S2 → JJ mL_law (LX n xs) 970 [(0, .ref 135), (1, .ref 0), (2, .ref 118), (3, vi i)] [] S2 := fun S2 hR2 => by
      refine j_iinc (L' := [(0, .ref 135), (1, .ref 0), (2, .ref 118), (3, vi (i + 5))]) dL_law_970 (Nat.le_of_ble_eq_true rfl) rfl rfl ?_
      refine j_goto (tgt := 18) dL_law_973 (by decide) ?_
      exact ih (i + 5) S2 (by omega) (by omega) (by omega) hR2
    rcases (by omega : (y < 0 ∨ 29 < y) ∨ y = 0 ∨ y = 1 ∨ y = 2 ∨ y = 3 ∨ y = 4 ∨ y = 5 ∨ y = 6 ∨ y = 7 ∨ y = 8 ∨ y = 9 ∨ y = 10 ∨ y = 11 ∨ y = 12 ∨ y = 13 ∨ y = 14 ∨ y = 15 ∨ y = 16 ∨ y = 17 ∨ y = 18 ∨ y = 19 ∨ y = 20 ∨ y = 21 ∨ y = 22 ∨ y = 23 ∨ y = 24 ∨ y = 25 ∨ y = 26 ∨ y = 27 ∨ y = 28 ∨ y = 29) with hs | hs | hs | hs | hs | hs | hs | hs | hs | hs | hs | hs | hs | hs | hs | hs | hs | hs | hs | hs | hs | hs | hs | hs | hs | hs | hs | hs | hs | hs | hs
    · refine j_tblOut (tgt := 970) dL_law_32 (by omega) (by omega) (by decide) ?_
      exact hnext S hR
    · refine j_tblIn (off := 136) (tgt := 168) dL_law_32 (by omega) (by omega) (by omega) (by rw [hs]; decide) (by decide) ?_
      refine j_aload_n dL_law_168 rfl ?_
      refine j_aload_n dL_law_169 rfl ?_
      refine j_iload_n dL_law_170 rfl ?_
      refine j_iconst dL_law_171 ?_
      refine j_iadd dL_law_172 ?_
      refine j_sld dL_law_173 (by omega) (by omega) hn ?_
      obtain ⟨P1, hx1, hk1⟩ := pr_type hR (xs (i + 1).toNat).toInt ⟨Int32.le_toInt _, Int32.toInt_lt _⟩
      refine j_callVi (As := [vi (xs (i + 1).toNat).toInt]) (rest := []) hx1 rfl cm_X7_type ci_X7_type ml_L_13 oq_0 rfl (Nat.le_of_ble_eq_true rfl) (Nat.le_of_ble_eq_true rfl) dL_law_174 (fun r S1 hp => ?_)
      obtain ⟨P2, hx2, hk2⟩ := hk1 r S1 hp
      refine j_aload_n dL_law_177 rfl ?_
      refine j_aload_n dL_law_178 rfl ?_
      refine j_iload_n dL_law_179 rfl ?_
      refine j_iconst dL_law_180 ?_
      refine j_iadd dL_law_181 ?_
      refine j_sld dL_law_182 (by omega) (by omega) hn ?_
      refine j_callVi (As := [vi (xs (i + 1).toNat).toInt]) (rest := [vi r]) hx2 rfl cm_X8_type ci_X8_type ml_L_17 oq_118 rfl (Nat.le_of_ble_eq_true rfl) (Nat.le_of_ble_eq_true rfl) dL_law_183 (fun r' S2 hq => ?_)
      obtain ⟨he, hR2⟩ := hk2 r' S2 hq
      subst he
      refine j_eqE (tgt := 970) dL_law_186 (by decide) ?_
      exact hnext S2 hR2
    · refine j_tblIn (off := 159) (tgt := 191) dL_law_32 (by omega) (by omega) (by omega) (by rw [hs]; decide) (by decide) ?_
      refine j_aload_n dL_law_191 rfl ?_
      obtain ⟨P1, hx1, hk1⟩ := pr_clear hR  
      refine j_callVi (As := []) (rest := []) hx1 rfl cm_X7_clear ci_X7_clear ml_L_18 oq_0 rfl (Nat.le_of_ble_eq_true rfl) (Nat.le_of_ble_eq_true rfl) dL_law_192 (fun r S1 hp => ?_)
      obtain ⟨P2, hx2, hk2⟩ := hk1 r S1 hp
      refine j_aload_n dL_law_195 rfl ?_
      refine j_callVi (As := []) (rest := [vi r]) hx2 rfl cm_X8_clear ci_X8_clear ml_L_22 oq_118 rfl (Nat.le_of_ble_eq_true rfl) (Nat.le_of_ble_eq_true rfl) dL_law_196 (fun r' S2 hq => ?_)
      obtain ⟨he, hR2⟩ := hk2 r' S2 hq
      subst he
      refine j_eqE (tgt := 970) dL_law_199 (by decide) ?_
      exact hnext S2 hR2
    · refine j_tblIn (off := 172) (tgt := 204) dL_law_32 (by omega) (by omega) (by omega) (by rw [hs]; decide) (by decide) ?_
      refine j_aload_n dL_law_204 rfl ?_
      obtain ⟨P1, hx1, hk1⟩ := pr_port hR  
      refine j_callVi (As := []) (rest := []) hx1 rfl cm_X7_port ci_X7_port ml_L_23 oq_0 rfl (Nat.le_of_ble_eq_true rfl) (Nat.le_of_ble_eq_true rfl) dL_law_205 (fun r S1 hp => ?_)
      obtain ⟨P2, hx2, hk2⟩ := hk1 r S1 hp
      refine j_aload_n dL_law_208 rfl ?_
      refine j_callVi (As := []) (rest := [vi r]) hx2 rfl cm_X8_port ci_X8_port ml_L_26 oq_118 rfl (Nat.le_of_ble_eq_true rfl) (Nat.le_of_ble_eq_true rfl) dL_law_209 (fun r' S2 hq => ?_)
      obtain ⟨he, hR2⟩ := hk2 r' S2 hq
      subst he
      refine j_eqE (tgt := 970) dL_law_212 (by decide) ?_
      exact hnext S2 hR2
    · refine j_tblIn (off := 185) (tgt := 217) dL_law_32 (by omega) (by omega) (by omega) (by rw [hs]; decide) (by decide) ?_
      refine j_aload_n dL_law_217 rfl ?_
      refine j_aload_n dL_law_218 rfl ?_
      refine j_iload_n dL_law_219 rfl ?_
      refine j_iconst dL_law_220 ?_
      refine j_iadd dL_law_221 ?_
      refine j_sld dL_law_222 (by omega) (by omega) hn ?_
      refine j_aload_n dL_law_223 rfl ?_
      refine j_iload_n dL_law_224 rfl ?_
      refine j_iconst dL_law_225 ?_
      refine j_iadd dL_law_226 ?_
      refine j_sld dL_law_227 (by omega) (by omega) hn ?_
      obtain ⟨P1, hx1, hk1⟩ := pr_place hR (xs (i + 1).toNat).toInt (xs (i + 2).toNat).toInt ⟨Int32.le_toInt _, Int32.toInt_lt _⟩ ⟨Int32.le_toInt _, Int32.toInt_lt _⟩
      refine j_callVi (As := [vi (xs (i + 1).toNat).toInt, vi (xs (i + 2).toNat).toInt]) (rest := []) hx1 rfl cm_X7_place ci_X7_place ml_L_27 oq_0 rfl (Nat.le_of_ble_eq_true rfl) (Nat.le_of_ble_eq_true rfl) dL_law_228 (fun r S1 hp => ?_)
      obtain ⟨P2, hx2, hk2⟩ := hk1 r S1 hp
      refine j_aload_n dL_law_231 rfl ?_
      refine j_aload_n dL_law_232 rfl ?_
      refine j_iload_n dL_law_233 rfl ?_
      refine j_iconst dL_law_234 ?_
      refine j_iadd dL_law_235 ?_
      refine j_sld dL_law_236 (by omega) (by omega) hn ?_
      refine j_aload_n dL_law_237 rfl ?_
      refine j_iload_n dL_law_238 rfl ?_
      refine j_iconst dL_law_239 ?_
      refine j_iadd dL_law_240 ?_
      refine j_sld dL_law_241 (by omega) (by omega) hn ?_
      refine j_callVi (As := [vi (xs (i + 1).toNat).toInt, vi (xs (i + 2).toNat).toInt]) (rest := [vi r]) hx2 rfl cm_X8_place ci_X8_place ml_L_31 oq_118 rfl (Nat.le_of_ble_eq_true rfl) (Nat.le_of_ble_eq_true rfl) dL_law_242 (fun r' S2 hq => ?_)
      obtain ⟨he, hR2⟩ := hk2 r' S2 hq
      subst he
      refine j_eqE (tgt := 970) dL_law_245 (by decide) ?_
      exact hnext S2 hR2
    · refine j_tblIn (off := 218) (tgt := 250) dL_law_32 (by omega) (by omega) (by omega) (by rw [hs]; decide) (by decide) ?_
      refine j_aload_n dL_law_250 rfl ?_
      refine j_aload_n dL_law_251 rfl ?_
      refine j_iload_n dL_law_252 rfl ?_
      refine j_iconst dL_law_253 ?_
      refine j_iadd dL_law_254 ?_
      refine j_sld dL_law_255 (by omega) (by omega) hn ?_
      refine j_aload_n dL_law_256 rfl ?_
      refine j_iload_n dL_law_257 rfl ?_
      refine j_iconst dL_law_258 ?_
      refine j_iadd dL_law_259 ?_
      refine j_sld dL_law_260 (by omega) (by omega) hn ?_
      obtain ⟨P1, hx1, hk1⟩ := pr_part hR (xs (i + 1).toNat).toInt (xs (i + 2).toNat).toInt ⟨Int32.le_toInt _, Int32.toInt_lt _⟩ ⟨Int32.le_toInt _, Int32.toInt_lt _⟩
      refine j_callVi (As := [vi (xs (i + 1).toNat).toInt, vi (xs (i + 2).toNat).toInt]) (rest := []) hx1 rfl cm_X7_part ci_X7_part ml_L_32 oq_0 rfl (Nat.le_of_ble_eq_true rfl) (Nat.le_of_ble_eq_true rfl) dL_law_261 (fun r S1 hp => ?_)
      obtain ⟨P2, hx2, hk2⟩ := hk1 r S1 hp
      refine j_aload_n dL_law_264 rfl ?_
      refine j_aload_n dL_law_265 rfl ?_
      refine j_iload_n dL_law_266 rfl ?_
      refine j_iconst dL_law_267 ?_
      refine j_iadd dL_law_268 ?_
      refine j_sld dL_law_269 (by omega) (by omega) hn ?_
      refine j_aload_n dL_law_270 rfl ?_
      refine j_iload_n dL_law_271 rfl ?_
      refine j_iconst dL_law_272 ?_
      refine j_iadd dL_law_273 ?_
      refine j_sld dL_law_274 (by omega) (by omega) hn ?_
      refine j_callVi (As := [vi (xs (i + 1).toNat).toInt, vi (xs (i + 2).toNat).toInt]) (rest := [vi r]) hx2 rfl cm_X8_part ci_X8_part ml_L_35 oq_118 rfl (Nat.le_of_ble_eq_true rfl) (Nat.le_of_ble_eq_true rfl) dL_law_275 (fun r' S2 hq => ?_)
      obtain ⟨he, hR2⟩ := hk2 r' S2 hq
      subst he
      refine j_eqE (tgt := 970) dL_law_278 (by decide) ?_
      exact hnext S2 hR2
    · refine j_tblIn (off := 251) (tgt := 283) dL_law_32 (by omega) (by omega) (by omega) (by rw [hs]; decide) (by decide) ?_
      refine j_aload_n dL_law_283 rfl ?_
      refine j_aload_n dL_law_284 rfl ?_
      refine j_iload_n dL_law_285 rfl ?_
      refine j_iconst dL_law_286 ?_
      refine j_iadd dL_law_287 ?_
      refine j_sld dL_law_288 (by omega) (by omega) hn ?_
      refine j_aload_n dL_law_289 rfl ?_
      refine j_iload_n dL_law_290 rfl ?_
      refine j_iconst dL_law_291 ?_
      refine j_iadd dL_law_292 ?_
      refine j_sld dL_law_293 (by omega) (by omega) hn ?_
      obtain ⟨P1, hx1, hk1⟩ := pr_inPlace hR (xs (i + 1).toNat).toInt (xs (i + 2).toNat).toInt ⟨Int32.le_toInt _, Int32.toInt_lt _⟩ ⟨Int32.le_toInt _, Int32.toInt_lt _⟩
      refine j_callVi (As := [vi (xs (i + 1).toNat).toInt, vi (xs (i + 2).toNat).toInt]) (rest := []) hx1 rfl cm_X7_inPlace ci_X7_inPlace ml_L_36 oq_0 rfl (Nat.le_of_ble_eq_true rfl) (Nat.le_of_ble_eq_true rfl) dL_law_294 (fun r S1 hp => ?_)
      obtain ⟨P2, hx2, hk2⟩ := hk1 r S1 hp
      refine j_aload_n dL_law_297 rfl ?_
      refine j_aload_n dL_law_298 rfl ?_
      refine j_iload_n dL_law_299 rfl ?_
      refine j_iconst dL_law_300 ?_
      refine j_iadd dL_law_301 ?_
      refine j_sld dL_law_302 (by omega) (by omega) hn ?_
      refine j_aload_n dL_law_303 rfl ?_
      refine j_iload_n dL_law_304 rfl ?_
      refine j_iconst dL_law_305 ?_
      refine j_iadd dL_law_306 ?_
      refine j_sld dL_law_307 (by omega) (by omega) hn ?_
      refine j_callVi (As := [vi (xs (i + 1).toNat).toInt, vi (xs (i + 2).toNat).toInt]) (rest := [vi r]) hx2 rfl cm_X8_inPlace ci_X8_inPlace ml_L_39 oq_118 rfl (Nat.le_of_ble_eq_true rfl) (Nat.le_of_ble_eq_true rfl) dL_law_308 (fun r' S2 hq => ?_)
      obtain ⟨he, hR2⟩ := hk2 r' S2 hq
      subst he
      refine j_eqE (tgt := 970) dL_law_311 (by decide) ?_
      exact hnext S2 hR2
    · refine j_tblIn (off := 284) (tgt := 316) dL_law_32 (by omega) (by omega) (by omega) (by rw [hs]; decide) (by decide) ?_
      refine j_aload_n dL_law_316 rfl ?_
      refine j_aload_n dL_law_317 rfl ?_
      refine j_iload_n dL_law_318 rfl ?_
      refine j_iconst dL_law_319 ?_
      refine j_iadd dL_law_320 ?_
      refine j_sld dL_law_321 (by omega) (by omega) hn ?_
      refine j_aload_n dL_law_322 rfl ?_
      refine j_iload_n dL_law_323 rfl ?_
      refine j_iconst dL_law_324 ?_
      refine j_iadd dL_law_325 ?_
      refine j_sld dL_law_326 (by omega) (by omega) hn ?_
      obtain ⟨P1, hx1, hk1⟩ := pr_ship hR (xs (i + 1).toNat).toInt (xs (i + 2).toNat).toInt ⟨Int32.le_toInt _, Int32.toInt_lt _⟩ ⟨Int32.le_toInt _, Int32.toInt_lt _⟩
      refine j_callVi (As := [vi (xs (i + 1).toNat).toInt, vi (xs (i + 2).toNat).toInt]) (rest := []) hx1 rfl cm_X7_ship ci_X7_ship ml_L_40 oq_0 rfl (Nat.le_of_ble_eq_true rfl) (Nat.le_of_ble_eq_true rfl) dL_law_327 (fun r S1 hp => ?_)
      obtain ⟨P2, hx2, hk2⟩ := hk1 r S1 hp
      refine j_aload_n dL_law_330 rfl ?_
      refine j_aload_n dL_law_331 rfl ?_
      refine j_iload_n dL_law_332 rfl ?_
      refine j_iconst dL_law_333 ?_
      refine j_iadd dL_law_334 ?_
      refine j_sld dL_law_335 (by omega) (by omega) hn ?_
      refine j_aload_n dL_law_336 rfl ?_
      refine j_iload_n dL_law_337 rfl ?_
      refine j_iconst dL_law_338 ?_
      refine j_iadd dL_law_339 ?_
      refine j_sld dL_law_340 (by omega) (by omega) hn ?_
      refine j_callVi (As := [vi (xs (i + 1).toNat).toInt, vi (xs (i + 2).toNat).toInt]) (rest := [vi r]) hx2 rfl cm_X8_ship ci_X8_ship ml_L_43 oq_118 rfl (Nat.le_of_ble_eq_true rfl) (Nat.le_of_ble_eq_true rfl) dL_law_341 (fun r' S2 hq => ?_)
      obtain ⟨he, hR2⟩ := hk2 r' S2 hq
      subst he
      refine j_eqE (tgt := 970) dL_law_344 (by decide) ?_
      exact hnext S2 hR2
    · refine j_tblIn (off := 317) (tgt := 349) dL_law_32 (by omega) (by omega) (by omega) (by rw [hs]; decide) (by decide) ?_
      refine j_aload_n dL_law_349 rfl ?_
      refine j_aload_n dL_law_350 rfl ?_
      refine j_iload_n dL_law_351 rfl ?_
      refine j_iconst dL_law_352 ?_
      refine j_iadd dL_law_353 ?_
      refine j_sld dL_law_354 (by omega) (by omega) hn ?_
      refine j_aload_n dL_law_355 rfl ?_
      refine j_iload_n dL_law_356 rfl ?_
      refine j_iconst dL_law_357 ?_
      refine j_iadd dL_law_358 ?_
      refine j_sld dL_law_359 (by omega) (by omega) hn ?_
      obtain ⟨P1, hx1, hk1⟩ := pr_is hR (xs (i + 1).toNat).toInt (xs (i + 2).toNat).toInt ⟨Int32.le_toInt _, Int32.toInt_lt _⟩ ⟨Int32.le_toInt _, Int32.toInt_lt _⟩
      refine j_callVi (As := [vi (xs (i + 1).toNat).toInt, vi (xs (i + 2).toNat).toInt]) (rest := []) hx1 rfl cm_X7_is ci_X7_is ml_L_44 oq_0 rfl (Nat.le_of_ble_eq_true rfl) (Nat.le_of_ble_eq_true rfl) dL_law_360 (fun r S1 hp => ?_)
      obtain ⟨P2, hx2, hk2⟩ := hk1 r S1 hp
      refine j_aload_n dL_law_363 rfl ?_
      refine j_aload_n dL_law_364 rfl ?_
      refine j_iload_n dL_law_365 rfl ?_
      refine j_iconst dL_law_366 ?_
      refine j_iadd dL_law_367 ?_
      refine j_sld dL_law_368 (by omega) (by omega) hn ?_
      refine j_aload_n dL_law_369 rfl ?_
      refine j_iload_n dL_law_370 rfl ?_
      refine j_iconst dL_law_371 ?_
      refine j_iadd dL_law_372 ?_
      refine j_sld dL_law_373 (by omega) (by omega) hn ?_
      refine j_callVi (As := [vi (xs (i + 1).toNat).toInt, vi (xs (i + 2).toNat).toInt]) (rest := [vi r]) hx2 rfl cm_X8_is ci_X8_is ml_L_47 oq_118 rfl (Nat.le_of_ble_eq_true rfl) (Nat.le_of_ble_eq_true rfl) dL_law_374 (fun r' S2 hq => ?_)
      obtain ⟨he, hR2⟩ := hk2 r' S2 hq
      subst he
      refine j_eqE (tgt := 970) dL_law_377 (by decide) ?_
      exact hnext S2 hR2
    · refine j_tblIn (off := 350) (tgt := 382) dL_law_32 (by omega) (by omega) (by omega) (by rw [hs]; decide) (by decide) ?_
      refine j_aload_n dL_law_382 rfl ?_
      refine j_aload_n dL_law_383 rfl ?_
      refine j_iload_n dL_law_384 rfl ?_
      refine j_iconst dL_law_385 ?_
      refine j_iadd dL_law_386 ?_
      refine j_sld dL_law_387 (by omega) (by omega) hn ?_
      obtain ⟨P1, hx1, hk1⟩ := pr_now hR (xs (i + 1).toNat).toInt ⟨Int32.le_toInt _, Int32.toInt_lt _⟩
      refine j_callVi (As := [vi (xs (i + 1).toNat).toInt]) (rest := []) hx1 rfl cm_X7_now ci_X7_now ml_L_48 oq_0 rfl (Nat.le_of_ble_eq_true rfl) (Nat.le_of_ble_eq_true rfl) dL_law_388 (fun r S1 hp => ?_)
      obtain ⟨P2, hx2, hk2⟩ := hk1 r S1 hp
      refine j_aload_n dL_law_391 rfl ?_
      refine j_aload_n dL_law_392 rfl ?_
      refine j_iload_n dL_law_393 rfl ?_
      refine j_iconst dL_law_394 ?_
      refine j_iadd dL_law_395 ?_
      refine j_sld dL_law_396 (by omega) (by omega) hn ?_
      refine j_callVi (As := [vi (xs (i + 1).toNat).toInt]) (rest := [vi r]) hx2 rfl cm_X8_now ci_X8_now ml_L_51 oq_118 rfl (Nat.le_of_ble_eq_true rfl) (Nat.le_of_ble_eq_true rfl) dL_law_397 (fun r' S2 hq => ?_)
      obtain ⟨he, hR2⟩ := hk2 r' S2 hq
      subst he
      refine j_eqE (tgt := 970) dL_law_400 (by decide) ?_
      exact hnext S2 hR2
    · refine j_tblIn (off := 373) (tgt := 405) dL_law_32 (by omega) (by omega) (by omega) (by rw [hs]; decide) (by decide) ?_
      refine j_aload_n dL_law_405 rfl ?_
      refine j_aload_n dL_law_406 rfl ?_
      refine j_iload_n dL_law_407 rfl ?_
      refine j_iconst dL_law_408 ?_
      refine j_iadd dL_law_409 ?_
      refine j_sld dL_law_410 (by omega) (by omega) hn ?_
      refine j_aload_n dL_law_411 rfl ?_
      refine j_iload_n dL_law_412 rfl ?_
      refine j_iconst dL_law_413 ?_
      refine j_iadd dL_law_414 ?_
      refine j_sld dL_law_415 (by omega) (by omega) hn ?_
      obtain ⟨P1, hx1, hk1⟩ := pr_replace hR (xs (i + 1).toNat).toInt (xs (i + 2).toNat).toInt ⟨Int32.le_toInt _, Int32.toInt_lt _⟩ ⟨Int32.le_toInt _, Int32.toInt_lt _⟩
      refine j_callVi (As := [vi (xs (i + 1).toNat).toInt, vi (xs (i + 2).toNat).toInt]) (rest := []) hx1 rfl cm_X7_replace ci_X7_replace ml_L_52 oq_0 rfl (Nat.le_of_ble_eq_true rfl) (Nat.le_of_ble_eq_true rfl) dL_law_416 (fun r S1 hp => ?_)
      obtain ⟨P2, hx2, hk2⟩ := hk1 r S1 hp
      refine j_aload_n dL_law_419 rfl ?_
      refine j_aload_n dL_law_420 rfl ?_
      refine j_iload_n dL_law_421 rfl ?_
      refine j_iconst dL_law_422 ?_
      refine j_iadd dL_law_423 ?_
      refine j_sld dL_law_424 (by omega) (by omega) hn ?_
      refine j_aload_n dL_law_425 rfl ?_
      refine j_iload_n dL_law_426 rfl ?_
      refine j_iconst dL_law_427 ?_
      refine j_iadd dL_law_428 ?_
      refine j_sld dL_law_429 (by omega) (by omega) hn ?_
      refine j_callVi (As := [vi (xs (i + 1).toNat).toInt, vi (xs (i + 2).toNat).toInt]) (rest := [vi r]) hx2 rfl cm_X8_replace ci_X8_replace ml_L_55 oq_118 rfl (Nat.le_of_ble_eq_true rfl) (Nat.le_of_ble_eq_true rfl) dL_law_430 (fun r' S2 hq => ?_)
      obtain ⟨he, hR2⟩ := hk2 r' S2 hq
      subst he
      refine j_eqE (tgt := 970) dL_law_433 (by decide) ?_
      exact hnext S2 hR2
    · refine j_tblIn (off := 406) (tgt := 438) dL_law_32 (by omega) (by omega) (by omega) (by rw [hs]; decide) (by decide) ?_
      refine j_aload_n dL_law_438 rfl ?_
      refine j_aload_n dL_law_439 rfl ?_
      refine j_iload_n dL_law_440 rfl ?_
      refine j_iconst dL_law_441 ?_
      refine j_iadd dL_law_442 ?_
      refine j_sld dL_law_443 (by omega) (by omega) hn ?_
      obtain ⟨P1, hx1, hk1⟩ := pr_fresh hR (xs (i + 1).toNat).toInt ⟨Int32.le_toInt _, Int32.toInt_lt _⟩
      refine j_callVi (As := [vi (xs (i + 1).toNat).toInt]) (rest := []) hx1 rfl cm_X7_fresh ci_X7_fresh ml_L_56 oq_0 rfl (Nat.le_of_ble_eq_true rfl) (Nat.le_of_ble_eq_true rfl) dL_law_444 (fun r S1 hp => ?_)
      obtain ⟨P2, hx2, hk2⟩ := hk1 r S1 hp
      refine j_aload_n dL_law_447 rfl ?_
      refine j_aload_n dL_law_448 rfl ?_
      refine j_iload_n dL_law_449 rfl ?_
      refine j_iconst dL_law_450 ?_
      refine j_iadd dL_law_451 ?_
      refine j_sld dL_law_452 (by omega) (by omega) hn ?_
      refine j_callVi (As := [vi (xs (i + 1).toNat).toInt]) (rest := [vi r]) hx2 rfl cm_X8_fresh ci_X8_fresh ml_L_59 oq_118 rfl (Nat.le_of_ble_eq_true rfl) (Nat.le_of_ble_eq_true rfl) dL_law_453 (fun r' S2 hq => ?_)
      obtain ⟨he, hR2⟩ := hk2 r' S2 hq
      subst he
      refine j_eqE (tgt := 970) dL_law_456 (by decide) ?_
      exact hnext S2 hR2
    · refine j_tblIn (off := 429) (tgt := 461) dL_law_32 (by omega) (by omega) (by omega) (by rw [hs]; decide) (by decide) ?_
      refine j_aload_n dL_law_461 rfl ?_
      obtain ⟨P1, hx1, hk1⟩ := pr_build hR  
      refine j_callVi (As := []) (rest := []) hx1 rfl cm_X7_build ci_X7_build ml_L_60 oq_0 rfl (Nat.le_of_ble_eq_true rfl) (Nat.le_of_ble_eq_true rfl) dL_law_462 (fun r S1 hp => ?_)
      obtain ⟨P2, hx2, hk2⟩ := hk1 r S1 hp
      refine j_aload_n dL_law_465 rfl ?_
      refine j_callVi (As := []) (rest := [vi r]) hx2 rfl cm_X8_build ci_X8_build ml_L_63 oq_118 rfl (Nat.le_of_ble_eq_true rfl) (Nat.le_of_ble_eq_true rfl) dL_law_466 (fun r' S2 hq => ?_)
      obtain ⟨he, hR2⟩ := hk2 r' S2 hq
      subst he
      refine j_eqE (tgt := 970) dL_law_469 (by decide) ?_
      exact hnext S2 hR2
    · refine j_tblIn (off := 442) (tgt := 474) dL_law_32 (by omega) (by omega) (by omega) (by rw [hs]; decide) (by decide) ?_
      refine j_aload_n dL_law_474 rfl ?_
      obtain ⟨P1, hx1, hk1⟩ := pr_year hR  
      refine j_callVi (As := []) (rest := []) hx1 rfl cm_X7_year ci_X7_year ml_L_64 oq_0 rfl (Nat.le_of_ble_eq_true rfl) (Nat.le_of_ble_eq_true rfl) dL_law_475 (fun r S1 hp => ?_)
      obtain ⟨P2, hx2, hk2⟩ := hk1 r S1 hp
      refine j_aload_n dL_law_478 rfl ?_
      refine j_callVi (As := []) (rest := [vi r]) hx2 rfl cm_X8_year ci_X8_year ml_L_67 oq_118 rfl (Nat.le_of_ble_eq_true rfl) (Nat.le_of_ble_eq_true rfl) dL_law_479 (fun r' S2 hq => ?_)
      obtain ⟨he, hR2⟩ := hk2 r' S2 hq
      subst he
      refine j_eqE (tgt := 970) dL_law_482 (by decide) ?_
      exact hnext S2 hR2
    · refine j_tblIn (off := 455) (tgt := 487) dL_law_32 (by omega) (by omega) (by omega) (by rw [hs]; decide) (by decide) ?_
      refine j_aload_n dL_law_487 rfl ?_
      obtain ⟨P1, hx1, hk1⟩ := pr_undo hR  
      refine j_callVi (As := []) (rest := []) hx1 rfl cm_X7_undo ci_X7_undo ml_L_68 oq_0 rfl (Nat.le_of_ble_eq_true rfl) (Nat.le_of_ble_eq_true rfl) dL_law_488 (fun r S1 hp => ?_)
      obtain ⟨P2, hx2, hk2⟩ := hk1 r S1 hp
      refine j_aload_n dL_law_491 rfl ?_
      refine j_callVi (As := []) (rest := [vi r]) hx2 rfl cm_X8_undo ci_X8_undo ml_L_71 oq_118 rfl (Nat.le_of_ble_eq_true rfl) (Nat.le_of_ble_eq_true rfl) dL_law_492 (fun r' S2 hq => ?_)
      obtain ⟨he, hR2⟩ := hk2 r' S2 hq
      subst he
      refine j_eqE (tgt := 970) dL_law_495 (by decide) ?_
      exact hnext S2 hR2
    · refine j_tblIn (off := 468) (tgt := 500) dL_law_32 (by omega) (by omega) (by omega) (by rw [hs]; decide) (by decide) ?_
      refine j_aload_n dL_law_500 rfl ?_
      refine j_aload_n dL_law_501 rfl ?_
      refine j_iload_n dL_law_502 rfl ?_
      refine j_iconst dL_law_503 ?_
      refine j_iadd dL_law_504 ?_
      refine j_sld dL_law_505 (by omega) (by omega) hn ?_
      obtain ⟨P1, hx1, hk1⟩ := pr_twins hR (xs (i + 1).toNat).toInt ⟨Int32.le_toInt _, Int32.toInt_lt _⟩
      refine j_callVi (As := [vi (xs (i + 1).toNat).toInt]) (rest := []) hx1 rfl cm_X7_twins ci_X7_twins ml_L_72 oq_0 rfl (Nat.le_of_ble_eq_true rfl) (Nat.le_of_ble_eq_true rfl) dL_law_506 (fun r S1 hp => ?_)
      obtain ⟨P2, hx2, hk2⟩ := hk1 r S1 hp
      refine j_aload_n dL_law_509 rfl ?_
      refine j_aload_n dL_law_510 rfl ?_
      refine j_iload_n dL_law_511 rfl ?_
      refine j_iconst dL_law_512 ?_
      refine j_iadd dL_law_513 ?_
      refine j_sld dL_law_514 (by omega) (by omega) hn ?_
      refine j_callVi (As := [vi (xs (i + 1).toNat).toInt]) (rest := [vi r]) hx2 rfl cm_X8_twins ci_X8_twins ml_L_75 oq_118 rfl (Nat.le_of_ble_eq_true rfl) (Nat.le_of_ble_eq_true rfl) dL_law_515 (fun r' S2 hq => ?_)
      obtain ⟨he, hR2⟩ := hk2 r' S2 hq
      subst he
      refine j_eqE (tgt := 970) dL_law_518 (by decide) ?_
      exact hnext S2 hR2
    · refine j_tblIn (off := 491) (tgt := 523) dL_law_32 (by omega) (by omega) (by omega) (by rw [hs]; decide) (by decide) ?_
      refine j_aload_n dL_law_523 rfl ?_
      refine j_aload_n dL_law_524 rfl ?_
      refine j_iload_n dL_law_525 rfl ?_
      refine j_iconst dL_law_526 ?_
      refine j_iadd dL_law_527 ?_
      refine j_sld dL_law_528 (by omega) (by omega) hn ?_
      refine j_aload_n dL_law_529 rfl ?_
      refine j_iload_n dL_law_530 rfl ?_
      refine j_iconst dL_law_531 ?_
      refine j_iadd dL_law_532 ?_
      refine j_sld dL_law_533 (by omega) (by omega) hn ?_
      refine j_aload_n dL_law_534 rfl ?_
      refine j_iload_n dL_law_535 rfl ?_
      refine j_iconst dL_law_536 ?_
      refine j_iadd dL_law_537 ?_
      refine j_sld dL_law_538 (by omega) (by omega) hn ?_
      refine j_aload_n dL_law_539 rfl ?_
      refine j_iload_n dL_law_540 rfl ?_
      refine j_iconst dL_law_541 ?_
      refine j_iadd dL_law_542 ?_
      refine j_sld dL_law_543 (by omega) (by omega) hn ?_
      obtain ⟨P1, hx1, hk1⟩ := pr_becomes hR (xs (i + 1).toNat).toInt (xs (i + 2).toNat).toInt (xs (i + 3).toNat).toInt (xs (i + 4).toNat).toInt ⟨Int32.le_toInt _, Int32.toInt_lt _⟩ ⟨Int32.le_toInt _, Int32.toInt_lt _⟩ ⟨Int32.le_toInt _, Int32.toInt_lt _⟩ ⟨Int32.le_toInt _, Int32.toInt_lt _⟩
      refine j_callVi (As := [vi (xs (i + 1).toNat).toInt, vi (xs (i + 2).toNat).toInt, vi (xs (i + 3).toNat).toInt, vi (xs (i + 4).toNat).toInt]) (rest := []) hx1 rfl cm_X7_becomes ci_X7_becomes ml_L_76 oq_0 rfl (Nat.le_of_ble_eq_true rfl) (Nat.le_of_ble_eq_true rfl) dL_law_544 (fun r S1 hp => ?_)
      obtain ⟨P2, hx2, hk2⟩ := hk1 r S1 hp
      refine j_aload_n dL_law_547 rfl ?_
      refine j_aload_n dL_law_548 rfl ?_
      refine j_iload_n dL_law_549 rfl ?_
      refine j_iconst dL_law_550 ?_
      refine j_iadd dL_law_551 ?_
      refine j_sld dL_law_552 (by omega) (by omega) hn ?_
      refine j_aload_n dL_law_553 rfl ?_
      refine j_iload_n dL_law_554 rfl ?_
      refine j_iconst dL_law_555 ?_
      refine j_iadd dL_law_556 ?_
      refine j_sld dL_law_557 (by omega) (by omega) hn ?_
      refine j_aload_n dL_law_558 rfl ?_
      refine j_iload_n dL_law_559 rfl ?_
      refine j_iconst dL_law_560 ?_
      refine j_iadd dL_law_561 ?_
      refine j_sld dL_law_562 (by omega) (by omega) hn ?_
      refine j_aload_n dL_law_563 rfl ?_
      refine j_iload_n dL_law_564 rfl ?_
      refine j_iconst dL_law_565 ?_
      refine j_iadd dL_law_566 ?_
      refine j_sld dL_law_567 (by omega) (by omega) hn ?_
      refine j_callVi (As := [vi (xs (i + 1).toNat).toInt, vi (xs (i + 2).toNat).toInt, vi (xs (i + 3).toNat).toInt, vi (xs (i + 4).toNat).toInt]) (rest := [vi r]) hx2 rfl cm_X8_becomes ci_X8_becomes ml_L_80 oq_118 rfl (Nat.le_of_ble_eq_true rfl) (Nat.le_of_ble_eq_true rfl) dL_law_568 (fun r' S2 hq => ?_)
      obtain ⟨he, hR2⟩ := hk2 r' S2 hq
      subst he
      refine j_eqE (tgt := 970) dL_law_571 (by decide) ?_
      exact hnext S2 hR2
    · refine j_tblIn (off := 544) (tgt := 576) dL_law_32 (by omega) (by omega) (by omega) (by rw [hs]; decide) (by decide) ?_
      refine j_aload_n dL_law_576 rfl ?_
      refine j_aload_n dL_law_577 rfl ?_
      refine j_iload_n dL_law_578 rfl ?_
      refine j_iconst dL_law_579 ?_
      refine j_iadd dL_law_580 ?_
      refine j_sld dL_law_581 (by omega) (by omega) hn ?_
      refine j_aload_n dL_law_582 rfl ?_
      refine j_iload_n dL_law_583 rfl ?_
      refine j_iconst dL_law_584 ?_
      refine j_iadd dL_law_585 ?_
      refine j_sld dL_law_586 (by omega) (by omega) hn ?_
      obtain ⟨P1, hx1, hk1⟩ := pr_stays hR (xs (i + 1).toNat).toInt (xs (i + 2).toNat).toInt ⟨Int32.le_toInt _, Int32.toInt_lt _⟩ ⟨Int32.le_toInt _, Int32.toInt_lt _⟩
      refine j_callVi (As := [vi (xs (i + 1).toNat).toInt, vi (xs (i + 2).toNat).toInt]) (rest := []) hx1 rfl cm_X7_stays ci_X7_stays ml_L_81 oq_0 rfl (Nat.le_of_ble_eq_true rfl) (Nat.le_of_ble_eq_true rfl) dL_law_587 (fun r S1 hp => ?_)
      obtain ⟨P2, hx2, hk2⟩ := hk1 r S1 hp
      refine j_aload_n dL_law_590 rfl ?_
      refine j_aload_n dL_law_591 rfl ?_
      refine j_iload_n dL_law_592 rfl ?_
      refine j_iconst dL_law_593 ?_
      refine j_iadd dL_law_594 ?_
      refine j_sld dL_law_595 (by omega) (by omega) hn ?_
      refine j_aload_n dL_law_596 rfl ?_
      refine j_iload_n dL_law_597 rfl ?_
      refine j_iconst dL_law_598 ?_
      refine j_iadd dL_law_599 ?_
      refine j_sld dL_law_600 (by omega) (by omega) hn ?_
      refine j_callVi (As := [vi (xs (i + 1).toNat).toInt, vi (xs (i + 2).toNat).toInt]) (rest := [vi r]) hx2 rfl cm_X8_stays ci_X8_stays ml_L_84 oq_118 rfl (Nat.le_of_ble_eq_true rfl) (Nat.le_of_ble_eq_true rfl) dL_law_601 (fun r' S2 hq => ?_)
      obtain ⟨he, hR2⟩ := hk2 r' S2 hq
      subst he
      refine j_eqE (tgt := 970) dL_law_604 (by decide) ?_
      exact hnext S2 hR2
    · refine j_tblIn (off := 577) (tgt := 609) dL_law_32 (by omega) (by omega) (by omega) (by rw [hs]; decide) (by decide) ?_
      refine j_aload_n dL_law_609 rfl ?_
      refine j_aload_n dL_law_610 rfl ?_
      refine j_iload_n dL_law_611 rfl ?_
      refine j_iconst dL_law_612 ?_
      refine j_iadd dL_law_613 ?_
      refine j_sld dL_law_614 (by omega) (by omega) hn ?_
      refine j_aload_n dL_law_615 rfl ?_
      refine j_iload_n dL_law_616 rfl ?_
      refine j_iconst dL_law_617 ?_
      refine j_iadd dL_law_618 ?_
      refine j_sld dL_law_619 (by omega) (by omega) hn ?_
      refine j_aload_n dL_law_620 rfl ?_
      refine j_iload_n dL_law_621 rfl ?_
      refine j_iconst dL_law_622 ?_
      refine j_iadd dL_law_623 ?_
      refine j_sld dL_law_624 (by omega) (by omega) hn ?_
      obtain ⟨P1, hx1, hk1⟩ := pr_share hR (xs (i + 1).toNat).toInt (xs (i + 2).toNat).toInt (xs (i + 3).toNat).toInt ⟨Int32.le_toInt _, Int32.toInt_lt _⟩ ⟨Int32.le_toInt _, Int32.toInt_lt _⟩ ⟨Int32.le_toInt _, Int32.toInt_lt _⟩
      refine j_callVi (As := [vi (xs (i + 1).toNat).toInt, vi (xs (i + 2).toNat).toInt, vi (xs (i + 3).toNat).toInt]) (rest := []) hx1 rfl cm_X7_share ci_X7_share ml_L_85 oq_0 rfl (Nat.le_of_ble_eq_true rfl) (Nat.le_of_ble_eq_true rfl) dL_law_625 (fun r S1 hp => ?_)
      obtain ⟨P2, hx2, hk2⟩ := hk1 r S1 hp
      refine j_aload_n dL_law_628 rfl ?_
      refine j_aload_n dL_law_629 rfl ?_
      refine j_iload_n dL_law_630 rfl ?_
      refine j_iconst dL_law_631 ?_
      refine j_iadd dL_law_632 ?_
      refine j_sld dL_law_633 (by omega) (by omega) hn ?_
      refine j_aload_n dL_law_634 rfl ?_
      refine j_iload_n dL_law_635 rfl ?_
      refine j_iconst dL_law_636 ?_
      refine j_iadd dL_law_637 ?_
      refine j_sld dL_law_638 (by omega) (by omega) hn ?_
      refine j_aload_n dL_law_639 rfl ?_
      refine j_iload_n dL_law_640 rfl ?_
      refine j_iconst dL_law_641 ?_
      refine j_iadd dL_law_642 ?_
      refine j_sld dL_law_643 (by omega) (by omega) hn ?_
      refine j_callVi (As := [vi (xs (i + 1).toNat).toInt, vi (xs (i + 2).toNat).toInt, vi (xs (i + 3).toNat).toInt]) (rest := [vi r]) hx2 rfl cm_X8_share ci_X8_share ml_L_89 oq_118 rfl (Nat.le_of_ble_eq_true rfl) (Nat.le_of_ble_eq_true rfl) dL_law_644 (fun r' S2 hq => ?_)
      obtain ⟨he, hR2⟩ := hk2 r' S2 hq
      subst he
      refine j_eqE (tgt := 970) dL_law_647 (by decide) ?_
      exact hnext S2 hR2
    · refine j_tblIn (off := 620) (tgt := 652) dL_law_32 (by omega) (by omega) (by omega) (by rw [hs]; decide) (by decide) ?_
      refine j_aload_n dL_law_652 rfl ?_
      refine j_aload_n dL_law_653 rfl ?_
      refine j_iload_n dL_law_654 rfl ?_
      refine j_iconst dL_law_655 ?_
      refine j_iadd dL_law_656 ?_
      refine j_sld dL_law_657 (by omega) (by omega) hn ?_
      refine j_aload_n dL_law_658 rfl ?_
      refine j_iload_n dL_law_659 rfl ?_
      refine j_iconst dL_law_660 ?_
      refine j_iadd dL_law_661 ?_
      refine j_sld dL_law_662 (by omega) (by omega) hn ?_
      obtain ⟨P1, hx1, hk1⟩ := pr_decides hR (xs (i + 1).toNat).toInt (xs (i + 2).toNat).toInt ⟨Int32.le_toInt _, Int32.toInt_lt _⟩ ⟨Int32.le_toInt _, Int32.toInt_lt _⟩
      refine j_callVi (As := [vi (xs (i + 1).toNat).toInt, vi (xs (i + 2).toNat).toInt]) (rest := []) hx1 rfl cm_X7_decides ci_X7_decides ml_L_90 oq_0 rfl (Nat.le_of_ble_eq_true rfl) (Nat.le_of_ble_eq_true rfl) dL_law_663 (fun r S1 hp => ?_)
      obtain ⟨P2, hx2, hk2⟩ := hk1 r S1 hp
      refine j_aload_n dL_law_666 rfl ?_
      refine j_aload_n dL_law_667 rfl ?_
      refine j_iload_n dL_law_668 rfl ?_
      refine j_iconst dL_law_669 ?_
      refine j_iadd dL_law_670 ?_
      refine j_sld dL_law_671 (by omega) (by omega) hn ?_
      refine j_aload_n dL_law_672 rfl ?_
      refine j_iload_n dL_law_673 rfl ?_
      refine j_iconst dL_law_674 ?_
      refine j_iadd dL_law_675 ?_
      refine j_sld dL_law_676 (by omega) (by omega) hn ?_
      refine j_callVi (As := [vi (xs (i + 1).toNat).toInt, vi (xs (i + 2).toNat).toInt]) (rest := [vi r]) hx2 rfl cm_X8_decides ci_X8_decides ml_L_93 oq_118 rfl (Nat.le_of_ble_eq_true rfl) (Nat.le_of_ble_eq_true rfl) dL_law_677 (fun r' S2 hq => ?_)
      obtain ⟨he, hR2⟩ := hk2 r' S2 hq
      subst he
      refine j_eqE (tgt := 970) dL_law_680 (by decide) ?_
      exact hnext S2 hR2
    · refine j_tblIn (off := 653) (tgt := 685) dL_law_32 (by omega) (by omega) (by omega) (by rw [hs]; decide) (by decide) ?_
      refine j_aload_n dL_law_685 rfl ?_
      refine j_aload_n dL_law_686 rfl ?_
      refine j_iload_n dL_law_687 rfl ?_
      refine j_iconst dL_law_688 ?_
      refine j_iadd dL_law_689 ?_
      refine j_sld dL_law_690 (by omega) (by omega) hn ?_
      refine j_aload_n dL_law_691 rfl ?_
      refine j_iload_n dL_law_692 rfl ?_
      refine j_iconst dL_law_693 ?_
      refine j_iadd dL_law_694 ?_
      refine j_sld dL_law_695 (by omega) (by omega) hn ?_
      refine j_aload_n dL_law_696 rfl ?_
      refine j_iload_n dL_law_697 rfl ?_
      refine j_iconst dL_law_698 ?_
      refine j_iadd dL_law_699 ?_
      refine j_sld dL_law_700 (by omega) (by omega) hn ?_
      obtain ⟨P1, hx1, hk1⟩ := pr_thief hR (xs (i + 1).toNat).toInt (xs (i + 2).toNat).toInt (xs (i + 3).toNat).toInt ⟨Int32.le_toInt _, Int32.toInt_lt _⟩ ⟨Int32.le_toInt _, Int32.toInt_lt _⟩ ⟨Int32.le_toInt _, Int32.toInt_lt _⟩
      refine j_callVl (As := [vi (xs (i + 1).toNat).toInt, vi (xs (i + 2).toNat).toInt, vi (xs (i + 3).toNat).toInt]) (rest := []) hx1 rfl cm_X7_thief ci_X7_thief ml_L_94 oq_0 rfl (Nat.le_of_ble_eq_true rfl) (Nat.le_of_ble_eq_true rfl) dL_law_701 (fun r S1 hp => ?_)
      obtain ⟨P2, hx2, hk2⟩ := hk1 r S1 hp
      refine j_aload_n dL_law_704 rfl ?_
      refine j_aload_n dL_law_705 rfl ?_
      refine j_iload_n dL_law_706 rfl ?_
      refine j_iconst dL_law_707 ?_
      refine j_iadd dL_law_708 ?_
      refine j_sld dL_law_709 (by omega) (by omega) hn ?_
      refine j_aload_n dL_law_710 rfl ?_
      refine j_iload_n dL_law_711 rfl ?_
      refine j_iconst dL_law_712 ?_
      refine j_iadd dL_law_713 ?_
      refine j_sld dL_law_714 (by omega) (by omega) hn ?_
      refine j_aload_n dL_law_715 rfl ?_
      refine j_iload_n dL_law_716 rfl ?_
      refine j_iconst dL_law_717 ?_
      refine j_iadd dL_law_718 ?_
      refine j_sld dL_law_719 (by omega) (by omega) hn ?_
      refine j_callVl (As := [vi (xs (i + 1).toNat).toInt, vi (xs (i + 2).toNat).toInt, vi (xs (i + 3).toNat).toInt]) (rest := [vl r]) hx2 rfl cm_X8_thief ci_X8_thief ml_L_98 oq_118 rfl (Nat.le_of_ble_eq_true rfl) (Nat.le_of_ble_eq_true rfl) dL_law_720 (fun r' S2 hq => ?_)
      obtain ⟨he, hR2⟩ := hk2 r' S2 hq
      subst he
      refine j_lcmpE dL_law_723 ?_
      refine j_if_eq (tgt := 970) dL_law_724 (by decide) (by decide) (fun _ => ?_) (fun h => absurd rfl h)
      exact hnext S2 hR2
    · refine j_tblIn (off := 697) (tgt := 729) dL_law_32 (by omega) (by omega) (by omega) (by rw [hs]; decide) (by decide) ?_
      refine j_aload_n dL_law_729 rfl ?_
      refine j_aload_n dL_law_730 rfl ?_
      refine j_iload_n dL_law_731 rfl ?_
      refine j_iconst dL_law_732 ?_
      refine j_iadd dL_law_733 ?_
      refine j_sld dL_law_734 (by omega) (by omega) hn ?_
      refine j_aload_n dL_law_735 rfl ?_
      refine j_iload_n dL_law_736 rfl ?_
      refine j_iconst dL_law_737 ?_
      refine j_iadd dL_law_738 ?_
      refine j_sld dL_law_739 (by omega) (by omega) hn ?_
      obtain ⟨P1, hx1, hk1⟩ := pr_saw hR (xs (i + 1).toNat).toInt (xs (i + 2).toNat).toInt ⟨Int32.le_toInt _, Int32.toInt_lt _⟩ ⟨Int32.le_toInt _, Int32.toInt_lt _⟩
      refine j_callVi (As := [vi (xs (i + 1).toNat).toInt, vi (xs (i + 2).toNat).toInt]) (rest := []) hx1 rfl cm_X7_saw ci_X7_saw ml_L_99 oq_0 rfl (Nat.le_of_ble_eq_true rfl) (Nat.le_of_ble_eq_true rfl) dL_law_740 (fun r S1 hp => ?_)
      obtain ⟨P2, hx2, hk2⟩ := hk1 r S1 hp
      refine j_aload_n dL_law_743 rfl ?_
      refine j_aload_n dL_law_744 rfl ?_
      refine j_iload_n dL_law_745 rfl ?_
      refine j_iconst dL_law_746 ?_
      refine j_iadd dL_law_747 ?_
      refine j_sld dL_law_748 (by omega) (by omega) hn ?_
      refine j_aload_n dL_law_749 rfl ?_
      refine j_iload_n dL_law_750 rfl ?_
      refine j_iconst dL_law_751 ?_
      refine j_iadd dL_law_752 ?_
      refine j_sld dL_law_753 (by omega) (by omega) hn ?_
      refine j_callVi (As := [vi (xs (i + 1).toNat).toInt, vi (xs (i + 2).toNat).toInt]) (rest := [vi r]) hx2 rfl cm_X8_saw ci_X8_saw ml_L_102 oq_118 rfl (Nat.le_of_ble_eq_true rfl) (Nat.le_of_ble_eq_true rfl) dL_law_754 (fun r' S2 hq => ?_)
      obtain ⟨he, hR2⟩ := hk2 r' S2 hq
      subst he
      refine j_eqE (tgt := 970) dL_law_757 (by decide) ?_
      exact hnext S2 hR2
    · refine j_tblIn (off := 730) (tgt := 762) dL_law_32 (by omega) (by omega) (by omega) (by rw [hs]; decide) (by decide) ?_
      refine j_aload_n dL_law_762 rfl ?_
      obtain ⟨P1, hx1, hk1⟩ := pr_forget hR  
      refine j_callVi (As := []) (rest := []) hx1 rfl cm_X7_forget ci_X7_forget ml_L_103 oq_0 rfl (Nat.le_of_ble_eq_true rfl) (Nat.le_of_ble_eq_true rfl) dL_law_763 (fun r S1 hp => ?_)
      obtain ⟨P2, hx2, hk2⟩ := hk1 r S1 hp
      refine j_aload_n dL_law_766 rfl ?_
      refine j_callVi (As := []) (rest := [vi r]) hx2 rfl cm_X8_forget ci_X8_forget ml_L_106 oq_118 rfl (Nat.le_of_ble_eq_true rfl) (Nat.le_of_ble_eq_true rfl) dL_law_767 (fun r' S2 hq => ?_)
      obtain ⟨he, hR2⟩ := hk2 r' S2 hq
      subst he
      refine j_eqE (tgt := 970) dL_law_770 (by decide) ?_
      exact hnext S2 hR2
    · refine j_tblIn (off := 743) (tgt := 775) dL_law_32 (by omega) (by omega) (by omega) (by rw [hs]; decide) (by decide) ?_
      refine j_aload_n dL_law_775 rfl ?_
      obtain ⟨P1, hx1, hk1⟩ := pr_mayBe hR  
      refine j_callVi (As := []) (rest := []) hx1 rfl cm_X7_mayBe ci_X7_mayBe ml_L_107 oq_0 rfl (Nat.le_of_ble_eq_true rfl) (Nat.le_of_ble_eq_true rfl) dL_law_776 (fun r S1 hp => ?_)
      obtain ⟨P2, hx2, hk2⟩ := hk1 r S1 hp
      refine j_aload_n dL_law_779 rfl ?_
      refine j_callVi (As := []) (rest := [vi r]) hx2 rfl cm_X8_mayBe ci_X8_mayBe ml_L_110 oq_118 rfl (Nat.le_of_ble_eq_true rfl) (Nat.le_of_ble_eq_true rfl) dL_law_780 (fun r' S2 hq => ?_)
      obtain ⟨he, hR2⟩ := hk2 r' S2 hq
      subst he
      refine j_eqE (tgt := 970) dL_law_783 (by decide) ?_
      exact hnext S2 hR2
    · refine j_tblIn (off := 756) (tgt := 788) dL_law_32 (by omega) (by omega) (by omega) (by rw [hs]; decide) (by decide) ?_
      refine j_aload_n dL_law_788 rfl ?_
      refine j_aload_n dL_law_789 rfl ?_
      refine j_iload_n dL_law_790 rfl ?_
      refine j_iconst dL_law_791 ?_
      refine j_iadd dL_law_792 ?_
      refine j_sld dL_law_793 (by omega) (by omega) hn ?_
      obtain ⟨P1, hx1, hk1⟩ := pr_leastSeen hR (xs (i + 1).toNat).toInt ⟨Int32.le_toInt _, Int32.toInt_lt _⟩
      refine j_callVi (As := [vi (xs (i + 1).toNat).toInt]) (rest := []) hx1 rfl cm_X7_leastSeen ci_X7_leastSeen ml_L_111 oq_0 rfl (Nat.le_of_ble_eq_true rfl) (Nat.le_of_ble_eq_true rfl) dL_law_794 (fun r S1 hp => ?_)
      obtain ⟨P2, hx2, hk2⟩ := hk1 r S1 hp
      refine j_aload_n dL_law_797 rfl ?_
      refine j_aload_n dL_law_798 rfl ?_
      refine j_iload_n dL_law_799 rfl ?_
      refine j_iconst dL_law_800 ?_
      refine j_iadd dL_law_801 ?_
      refine j_sld dL_law_802 (by omega) (by omega) hn ?_
      refine j_callVi (As := [vi (xs (i + 1).toNat).toInt]) (rest := [vi r]) hx2 rfl cm_X8_leastSeen ci_X8_leastSeen ml_L_114 oq_118 rfl (Nat.le_of_ble_eq_true rfl) (Nat.le_of_ble_eq_true rfl) dL_law_803 (fun r' S2 hq => ?_)
      obtain ⟨he, hR2⟩ := hk2 r' S2 hq
      subst he
      refine j_eqE (tgt := 970) dL_law_806 (by decide) ?_
      exact hnext S2 hR2
    · refine j_tblIn (off := 779) (tgt := 811) dL_law_32 (by omega) (by omega) (by omega) (by rw [hs]; decide) (by decide) ?_
      refine j_aload_n dL_law_811 rfl ?_
      refine j_aload_n dL_law_812 rfl ?_
      refine j_iload_n dL_law_813 rfl ?_
      refine j_iconst dL_law_814 ?_
      refine j_iadd dL_law_815 ?_
      refine j_sld dL_law_816 (by omega) (by omega) hn ?_
      refine j_aload_n dL_law_817 rfl ?_
      refine j_iload_n dL_law_818 rfl ?_
      refine j_iconst dL_law_819 ?_
      refine j_iadd dL_law_820 ?_
      refine j_sld dL_law_821 (by omega) (by omega) hn ?_
      refine j_aload_n dL_law_822 rfl ?_
      refine j_iload_n dL_law_823 rfl ?_
      refine j_iconst dL_law_824 ?_
      refine j_iadd dL_law_825 ?_
      refine j_sld dL_law_826 (by omega) (by omega) hn ?_
      obtain ⟨P1, hx1, hk1⟩ := pr_repairs hR (xs (i + 1).toNat).toInt (xs (i + 2).toNat).toInt (xs (i + 3).toNat).toInt ⟨Int32.le_toInt _, Int32.toInt_lt _⟩ ⟨Int32.le_toInt _, Int32.toInt_lt _⟩ ⟨Int32.le_toInt _, Int32.toInt_lt _⟩
      refine j_callVi (As := [vi (xs (i + 1).toNat).toInt, vi (xs (i + 2).toNat).toInt, vi (xs (i + 3).toNat).toInt]) (rest := []) hx1 rfl cm_X7_repairs ci_X7_repairs ml_L_115 oq_0 rfl (Nat.le_of_ble_eq_true rfl) (Nat.le_of_ble_eq_true rfl) dL_law_827 (fun r S1 hp => ?_)
      obtain ⟨P2, hx2, hk2⟩ := hk1 r S1 hp
      refine j_aload_n dL_law_830 rfl ?_
      refine j_aload_n dL_law_831 rfl ?_
      refine j_iload_n dL_law_832 rfl ?_
      refine j_iconst dL_law_833 ?_
      refine j_iadd dL_law_834 ?_
      refine j_sld dL_law_835 (by omega) (by omega) hn ?_
      refine j_aload_n dL_law_836 rfl ?_
      refine j_iload_n dL_law_837 rfl ?_
      refine j_iconst dL_law_838 ?_
      refine j_iadd dL_law_839 ?_
      refine j_sld dL_law_840 (by omega) (by omega) hn ?_
      refine j_aload_n dL_law_841 rfl ?_
      refine j_iload_n dL_law_842 rfl ?_
      refine j_iconst dL_law_843 ?_
      refine j_iadd dL_law_844 ?_
      refine j_sld dL_law_845 (by omega) (by omega) hn ?_
      refine j_callVi (As := [vi (xs (i + 1).toNat).toInt, vi (xs (i + 2).toNat).toInt, vi (xs (i + 3).toNat).toInt]) (rest := [vi r]) hx2 rfl cm_X8_repairs ci_X8_repairs ml_L_118 oq_118 rfl (Nat.le_of_ble_eq_true rfl) (Nat.le_of_ble_eq_true rfl) dL_law_846 (fun r' S2 hq => ?_)
      obtain ⟨he, hR2⟩ := hk2 r' S2 hq
      subst he
      refine j_eqE (tgt := 970) dL_law_849 (by decide) ?_
      exact hnext S2 hR2
    · refine j_tblIn (off := 822) (tgt := 854) dL_law_32 (by omega) (by omega) (by omega) (by rw [hs]; decide) (by decide) ?_
      refine j_aload_n dL_law_854 rfl ?_
      refine j_aload_n dL_law_855 rfl ?_
      refine j_iload_n dL_law_856 rfl ?_
      refine j_iconst dL_law_857 ?_
      refine j_iadd dL_law_858 ?_
      refine j_sld dL_law_859 (by omega) (by omega) hn ?_
      refine j_aload_n dL_law_860 rfl ?_
      refine j_iload_n dL_law_861 rfl ?_
      refine j_iconst dL_law_862 ?_
      refine j_iadd dL_law_863 ?_
      refine j_sld dL_law_864 (by omega) (by omega) hn ?_
      obtain ⟨P1, hx1, hk1⟩ := pr_rate hR (xs (i + 1).toNat).toInt (xs (i + 2).toNat).toInt ⟨Int32.le_toInt _, Int32.toInt_lt _⟩ ⟨Int32.le_toInt _, Int32.toInt_lt _⟩
      refine j_callVi (As := [vi (xs (i + 1).toNat).toInt, vi (xs (i + 2).toNat).toInt]) (rest := []) hx1 rfl cm_X7_rate ci_X7_rate ml_L_119 oq_0 rfl (Nat.le_of_ble_eq_true rfl) (Nat.le_of_ble_eq_true rfl) dL_law_865 (fun r S1 hp => ?_)
      obtain ⟨P2, hx2, hk2⟩ := hk1 r S1 hp
      refine j_aload_n dL_law_868 rfl ?_
      refine j_aload_n dL_law_869 rfl ?_
      refine j_iload_n dL_law_870 rfl ?_
      refine j_iconst dL_law_871 ?_
      refine j_iadd dL_law_872 ?_
      refine j_sld dL_law_873 (by omega) (by omega) hn ?_
      refine j_aload_n dL_law_874 rfl ?_
      refine j_iload_n dL_law_875 rfl ?_
      refine j_iconst dL_law_876 ?_
      refine j_iadd dL_law_877 ?_
      refine j_sld dL_law_878 (by omega) (by omega) hn ?_
      refine j_callVi (As := [vi (xs (i + 1).toNat).toInt, vi (xs (i + 2).toNat).toInt]) (rest := [vi r]) hx2 rfl cm_X8_rate ci_X8_rate ml_L_122 oq_118 rfl (Nat.le_of_ble_eq_true rfl) (Nat.le_of_ble_eq_true rfl) dL_law_879 (fun r' S2 hq => ?_)
      obtain ⟨he, hR2⟩ := hk2 r' S2 hq
      subst he
      refine j_eqE (tgt := 970) dL_law_882 (by decide) ?_
      exact hnext S2 hR2
    · refine j_tblIn (off := 855) (tgt := 887) dL_law_32 (by omega) (by omega) (by omega) (by rw [hs]; decide) (by decide) ?_
      refine j_aload_n dL_law_887 rfl ?_
      refine j_aload_n dL_law_888 rfl ?_
      refine j_iload_n dL_law_889 rfl ?_
      refine j_iconst dL_law_890 ?_
      refine j_iadd dL_law_891 ?_
      refine j_sld dL_law_892 (by omega) (by omega) hn ?_
      obtain ⟨P1, hx1, hk1⟩ := pr_keep hR (xs (i + 1).toNat).toInt ⟨Int32.le_toInt _, Int32.toInt_lt _⟩
      refine j_callVi (As := [vi (xs (i + 1).toNat).toInt]) (rest := []) hx1 rfl cm_X7_keep ci_X7_keep ml_L_123 oq_0 rfl (Nat.le_of_ble_eq_true rfl) (Nat.le_of_ble_eq_true rfl) dL_law_893 (fun r S1 hp => ?_)
      obtain ⟨P2, hx2, hk2⟩ := hk1 r S1 hp
      refine j_aload_n dL_law_896 rfl ?_
      refine j_aload_n dL_law_897 rfl ?_
      refine j_iload_n dL_law_898 rfl ?_
      refine j_iconst dL_law_899 ?_
      refine j_iadd dL_law_900 ?_
      refine j_sld dL_law_901 (by omega) (by omega) hn ?_
      refine j_callVi (As := [vi (xs (i + 1).toNat).toInt]) (rest := [vi r]) hx2 rfl cm_X8_keep ci_X8_keep ml_L_126 oq_118 rfl (Nat.le_of_ble_eq_true rfl) (Nat.le_of_ble_eq_true rfl) dL_law_902 (fun r' S2 hq => ?_)
      obtain ⟨he, hR2⟩ := hk2 r' S2 hq
      subst he
      refine j_eqE (tgt := 970) dL_law_905 (by decide) ?_
      exact hnext S2 hR2
    · refine j_tblIn (off := 878) (tgt := 910) dL_law_32 (by omega) (by omega) (by omega) (by rw [hs]; decide) (by decide) ?_
      refine j_aload_n dL_law_910 rfl ?_
      refine j_aload_n dL_law_911 rfl ?_
      refine j_iload_n dL_law_912 rfl ?_
      refine j_iconst dL_law_913 ?_
      refine j_iadd dL_law_914 ?_
      refine j_sld dL_law_915 (by omega) (by omega) hn ?_
      obtain ⟨P1, hx1, hk1⟩ := pr_back hR (xs (i + 1).toNat).toInt ⟨Int32.le_toInt _, Int32.toInt_lt _⟩
      refine j_callVi (As := [vi (xs (i + 1).toNat).toInt]) (rest := []) hx1 rfl cm_X7_back ci_X7_back ml_L_127 oq_0 rfl (Nat.le_of_ble_eq_true rfl) (Nat.le_of_ble_eq_true rfl) dL_law_916 (fun r S1 hp => ?_)
      obtain ⟨P2, hx2, hk2⟩ := hk1 r S1 hp
      refine j_aload_n dL_law_919 rfl ?_
      refine j_aload_n dL_law_920 rfl ?_
      refine j_iload_n dL_law_921 rfl ?_
      refine j_iconst dL_law_922 ?_
      refine j_iadd dL_law_923 ?_
      refine j_sld dL_law_924 (by omega) (by omega) hn ?_
      refine j_callVi (As := [vi (xs (i + 1).toNat).toInt]) (rest := [vi r]) hx2 rfl cm_X8_back ci_X8_back ml_L_130 oq_118 rfl (Nat.le_of_ble_eq_true rfl) (Nat.le_of_ble_eq_true rfl) dL_law_925 (fun r' S2 hq => ?_)
      obtain ⟨he, hR2⟩ := hk2 r' S2 hq
      subst he
      refine j_eqE (tgt := 970) dL_law_928 (by decide) ?_
      exact hnext S2 hR2
    · refine j_tblIn (off := 901) (tgt := 933) dL_law_32 (by omega) (by omega) (by omega) (by rw [hs]; decide) (by decide) ?_
      refine j_aload_n dL_law_933 rfl ?_
      refine j_aload_n dL_law_934 rfl ?_
      refine j_iload_n dL_law_935 rfl ?_
      refine j_iconst dL_law_936 ?_
      refine j_iadd dL_law_937 ?_
      refine j_sld dL_law_938 (by omega) (by omega) hn ?_
      obtain ⟨P1, hx1, hk1⟩ := pr_count hR (xs (i + 1).toNat).toInt ⟨Int32.le_toInt _, Int32.toInt_lt _⟩
      refine j_callVi (As := [vi (xs (i + 1).toNat).toInt]) (rest := []) hx1 rfl cm_X7_count ci_X7_count ml_L_131 oq_0 rfl (Nat.le_of_ble_eq_true rfl) (Nat.le_of_ble_eq_true rfl) dL_law_939 (fun r S1 hp => ?_)
      obtain ⟨P2, hx2, hk2⟩ := hk1 r S1 hp
      refine j_aload_n dL_law_942 rfl ?_
      refine j_aload_n dL_law_943 rfl ?_
      refine j_iload_n dL_law_944 rfl ?_
      refine j_iconst dL_law_945 ?_
      refine j_iadd dL_law_946 ?_
      refine j_sld dL_law_947 (by omega) (by omega) hn ?_
      refine j_callVi (As := [vi (xs (i + 1).toNat).toInt]) (rest := [vi r]) hx2 rfl cm_X8_count ci_X8_count ml_L_134 oq_118 rfl (Nat.le_of_ble_eq_true rfl) (Nat.le_of_ble_eq_true rfl) dL_law_948 (fun r' S2 hq => ?_)
      obtain ⟨he, hR2⟩ := hk2 r' S2 hq
      subst he
      refine j_eqE (tgt := 970) dL_law_951 (by decide) ?_
      exact hnext S2 hR2
    · refine j_tblIn (off := 924) (tgt := 956) dL_law_32 (by omega) (by omega) (by omega) (by rw [hs]; decide) (by decide) ?_
      refine j_aload_n dL_law_956 rfl ?_
      obtain ⟨P1, hx1, hk1⟩ := pr_trace hR  
      refine j_callVl (As := []) (rest := []) hx1 rfl cm_X7_trace ci_X7_trace ml_L_135 oq_0 rfl (Nat.le_of_ble_eq_true rfl) (Nat.le_of_ble_eq_true rfl) dL_law_957 (fun r S1 hp => ?_)
      obtain ⟨P2, hx2, hk2⟩ := hk1 r S1 hp
      refine j_aload_n dL_law_960 rfl ?_
      refine j_callVl (As := []) (rest := [vl r]) hx2 rfl cm_X8_trace ci_X8_trace ml_L_139 oq_118 rfl (Nat.le_of_ble_eq_true rfl) (Nat.le_of_ble_eq_true rfl) dL_law_961 (fun r' S2 hq => ?_)
      obtain ⟨he, hR2⟩ := hk2 r' S2 hq
      subst he
      refine j_lcmpE dL_law_964 ?_
      refine j_if_eq (tgt := 970) dL_law_965 (by decide) (by decide) (fun _ => ?_) (fun h => absurd rfl h)
      exact hnext S2 hR2
