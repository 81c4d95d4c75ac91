set_option maxHeartbeats 4000000 in
set_option maxRecDepth 100000 in
theorem lo_0 {p : Program} {e : Env} {s : State} {m : MethodId} {below : List Frame} {meth : Method} {c : Code} {l : Launch} {b L : Nat} {xs : Nat → Int32} {D : va_G} {cy : Nat → ClassId} {ad : Nat → Nat} {adK adV : Nat → Nat} {f : Nat → va_E} {H : Heap} {locs : List Loc} {ls : Array Slot} (C : LX p s m meth c b L xs D cy) (hE : EN s.heap.size adK adV s) (hLI : LI ad cy f) (hP : va_P D vwCl (wl ad f) H) (hD : va_D (fun q : Nat => s.heap.size ≤ q) (wl ad f)) (hS : va_S (fun q : Nat => s.heap.size ≤ q) s.heap H locs) (x : Int32) (hx0 : 0 ≤ x.toInt ∧ x.toInt + 6 ≤ L) (hL : L ≤ 3072) (hl : lv_has ls 4 [(3, .int x), (2, .ref (ad 148)), (1, .ref (ad 0)), (0, .ref b)]) (hk : ∀ (f : Nat → va_E) (H : Heap) (locs : List Loc), LI ad cy f → va_P D vwCl (wl ad f) H → va_D (fun q : Nat => s.heap.size ≤ q) (wl ad f) → va_S (fun q : Nat => s.heap.size ≤ q) s.heap H locs → W p l e room_1 s m #[Value.ref b] below meth c H locs 185 12666 (lw_Z below #[Value.ref b] s) (F0 m 1720 ls [])) : W p l e room_1 s m #[Value.ref b] below meth c H locs 185 12666 (lw_Z below #[Value.ref b] s) (F0 m 280 ls []) := by
  obtain ⟨hx, hb, hr, hlk, hml, hown, hts, hX, hbl, hK⟩ := id C
  obtain ⟨tx, rby, rnx, c_text, m_taped, m_size, m_faultKind, m_faultPlace, m_at, m_end, m_token, m_number, m_name, c_points, c_strands, c_units, c_told, c_ruleFrom, c_ruleTo, c_code, c_eWhat, c_eSign, m_bank, m_rb, m_codes, m_within, m_piled, m_unitsInRule, m_askStrand, m_askTied, m_thoughtClaim, m_thoughtNeed, m_thoughtAll, c_roundOf, m_acts, m_undone, m_laid, m_firstMove, m_seens, m_time, m_waysNow, m_fitting, hTx, hTm, hAU, hCV, hTT, hTR⟩ := hLI
  have hA : ∀ q : Nat, s.heap.size ≤ q → (fun q : Nat => s.heap.size ≤ q) q := fun _ h => h
  have hAB : ∀ q : Nat, (fun q : Nat => s.heap.size ≤ q) q → s.heap.size ≤ q := fun _ h => h
  have hbA : ¬ (fun q : Nat => s.heap.size ≤ q) b := Nat.not_le.mpr hbl
  refine lv_aload_n hx hb dL_law_280 rfl (lv_at hl 2 rfl) ?_
  refine lv_aload_n hx hb dL_law_281 rfl (lv_at hl 3 rfl) ?_
  refine lv_iload_n hx hb dL_law_282 rfl (lv_at hl 0 rfl) ?_
  refine lv_iconst (v := 1) hx hb dL_law_283 (by decide) ?_
  refine lv_iadd hx hb dL_law_284 ?_
  refine lv_topi (fun y1 ey1 => ?_)
  have ty1 := tl_1
  have hy1 := r_add ey1 (by omega) (by omega)
  refine va_sld hx hb hX hbl hbA hS (vp_in_iff.mpr ⟨by omega, by omega⟩) dL_law_285 ?_
  refine lv_topi (fun z2 _ => ?_)
  refine lv_aload_n hx hb dL_law_286 rfl (lv_at hl 3 rfl) ?_
  refine lv_iload_n hx hb dL_law_287 rfl (lv_at hl 0 rfl) ?_
  refine lv_iconst (v := 2) hx hb dL_law_288 (by decide) ?_
  refine lv_iadd hx hb dL_law_289 ?_
  refine lv_topi (fun y3 ey3 => ?_)
  have ty3 := tl_2
  have hy3 := r_add ey3 (by omega) (by omega)
  refine va_sld hx hb hX hbl hbA hS (vp_in_iff.mpr ⟨by omega, by omega⟩) dL_law_290 ?_
  refine lv_topi (fun z4 _ => ?_)
  refine lv_aload_n hx hb dL_law_291 rfl (lv_at hl 3 rfl) ?_
  refine lv_iload_n hx hb dL_law_292 rfl (lv_at hl 0 rfl) ?_
  refine lv_iconst (v := 3) hx hb dL_law_293 (by decide) ?_
  refine lv_iadd hx hb dL_law_294 ?_
  refine lv_topi (fun y5 ey5 => ?_)
  have ty5 := tl_3
  have hy5 := r_add ey5 (by omega) (by omega)
  refine va_sld hx hb hX hbl hbA hS (vp_in_iff.mpr ⟨by omega, by omega⟩) dL_law_295 ?_
  refine lv_topi (fun z6 _ => ?_)
  refine lv_aload_n hx hb dL_law_296 rfl (lv_at hl 3 rfl) ?_
  refine lv_iload_n hx hb dL_law_297 rfl (lv_at hl 0 rfl) ?_
  refine lv_iconst (v := 4) hx hb dL_law_298 (by decide) ?_
  refine lv_iadd hx hb dL_law_299 ?_
  refine lv_topi (fun y7 ey7 => ?_)
  have ty7 := tl_4
  have hy7 := r_add ey7 (by omega) (by omega)
  refine va_sld hx hb hX hbl hbA hS (vp_in_iff.mpr ⟨by omega, by omega⟩) dL_law_300 ?_
  refine lv_topi (fun z8 _ => ?_)
  refine lv_aload_n hx hb dL_law_301 rfl (lv_at hl 3 rfl) ?_
  refine lv_iload_n hx hb dL_law_302 rfl (lv_at hl 0 rfl) ?_
  refine lv_iconst (v := 5) hx hb dL_law_303 (by decide) ?_
  refine lv_iadd hx hb dL_law_304 ?_
  refine lv_topi (fun y9 ey9 => ?_)
  have ty9 := tl_5
  have hy9 := r_add ey9 (by omega) (by omega)
  refine va_sld hx hb hX hbl hbA hS (vp_in_iff.mpr ⟨by omega, by omega⟩) dL_law_305 ?_
  refine lv_topi (fun z10 _ => ?_)
  obtain ⟨_, _, _, e8, _⟩ := (show okX8 ad tx 0 (f 0) from hTx.1 0 (by decide))
  refine tVI (As := [.int z2, .int z4, .int z6, .int z8, .int z10]) (rest := []) (i := 0) ⟨hx, hb, hml, hown, hts⟩ hK hE hP hD hS hA hAB (s_X8_feed_0 l s.heap.size adK adV D cy ad f tx rby rnx f hTx z2 z4 z6 z8 z10 _) (cwV 5 hts gL_law_X8_feed rfl rfl rfl (by decide +kernel) ⟨Nat.le_of_ble_eq_true rfl, Nat.le_of_ble_eq_true rfl⟩) (by decide) 8 e8 rfl rfl hl.1 rfl (Nat.le_of_ble_eq_true rfl) dL_law_306 ⟨Nat.le_of_ble_eq_true rfl, Nat.le_of_ble_eq_true rfl⟩ (fun r11 f H locs hw hP hD hS => ?_)
  obtain ⟨_, w12, hT2⟩ := hw
  obtain ⟨hTx, hTm⟩ := LX_c hT2 hTm
  refine lv_pop hx hb dL_law_309 rfl ?_
  refine lv_aload_n hx hb dL_law_310 rfl (lv_at hl 1 rfl) ?_
  refine lv_aload_n hx hb dL_law_311 rfl (lv_at hl 3 rfl) ?_
  refine lv_iload_n hx hb dL_law_312 rfl (lv_at hl 0 rfl) ?_
  refine lv_iconst (v := 1) hx hb dL_law_313 (by decide) ?_
  refine lv_iadd hx hb dL_law_314 ?_
  refine lv_topi (fun y13 ey13 => ?_)
  have ty13 := tl_1
  have hy13 := r_add ey13 (by omega) (by omega)
  refine va_sld hx hb hX hbl hbA hS (vp_in_iff.mpr ⟨by omega, by omega⟩) dL_law_315 ?_
  refine lv_topi (fun z14 _ => ?_)
  refine lv_aload_n hx hb dL_law_316 rfl (lv_at hl 3 rfl) ?_
  refine lv_iload_n hx hb dL_law_317 rfl (lv_at hl 0 rfl) ?_
  refine lv_iconst (v := 2) hx hb dL_law_318 (by decide) ?_
  refine lv_iadd hx hb dL_law_319 ?_
  refine lv_topi (fun y15 ey15 => ?_)
  have ty15 := tl_2
  have hy15 := r_add ey15 (by omega) (by omega)
  refine va_sld hx hb hX hbl hbA hS (vp_in_iff.mpr ⟨by omega, by omega⟩) dL_law_320 ?_
  refine lv_topi (fun z16 _ => ?_)
  refine lv_aload_n hx hb dL_law_321 rfl (lv_at hl 3 rfl) ?_
  refine lv_iload_n hx hb dL_law_322 rfl (lv_at hl 0 rfl) ?_
  refine lv_iconst (v := 3) hx hb dL_law_323 (by decide) ?_
  refine lv_iadd hx hb dL_law_324 ?_
  refine lv_topi (fun y17 ey17 => ?_)
  have ty17 := tl_3
  have hy17 := r_add ey17 (by omega) (by omega)
  refine va_sld hx hb hX hbl hbA hS (vp_in_iff.mpr ⟨by omega, by omega⟩) dL_law_325 ?_
  refine lv_topi (fun z18 _ => ?_)
  refine lv_aload_n hx hb dL_law_326 rfl (lv_at hl 3 rfl) ?_
  refine lv_iload_n hx hb dL_law_327 rfl (lv_at hl 0 rfl) ?_
  refine lv_iconst (v := 4) hx hb dL_law_328 (by decide) ?_
  refine lv_iadd hx hb dL_law_329 ?_
  refine lv_topi (fun y19 ey19 => ?_)
  have ty19 := tl_4
  have hy19 := r_add ey19 (by omega) (by omega)
  refine va_sld hx hb hX hbl hbA hS (vp_in_iff.mpr ⟨by omega, by omega⟩) dL_law_330 ?_
  refine lv_topi (fun z20 _ => ?_)
  refine lv_aload_n hx hb dL_law_331 rfl (lv_at hl 3 rfl) ?_
  refine lv_iload_n hx hb dL_law_332 rfl (lv_at hl 0 rfl) ?_
  refine lv_iconst (v := 5) hx hb dL_law_333 (by decide) ?_
  refine lv_iadd hx hb dL_law_334 ?_
  refine lv_topi (fun y21 ey21 => ?_)
  have ty21 := tl_5
  have hy21 := r_add ey21 (by omega) (by omega)
  refine va_sld hx hb hX hbl hbA hS (vp_in_iff.mpr ⟨by omega, by omega⟩) dL_law_335 ?_
  refine lv_topi (fun z22 _ => ?_)
  have e8 := (show okX9 ad m_taped m_size m_faultKind m_faultPlace m_at m_end m_token m_number m_name m_bank m_rb m_codes m_within m_piled m_unitsInRule m_askStrand m_askTied m_thoughtClaim m_thoughtNeed m_thoughtAll m_acts m_undone m_laid m_firstMove m_seens m_time m_waysNow m_fitting 148 (f 148) from hTm.1 148 (by decide)).1
  refine tVI (As := [.int z14, .int z16, .int z18, .int z20, .int z22]) (rest := []) (i := 148) ⟨hx, hb, hml, hown, hts⟩ hK hE hP hD hS hA hAB (s_X9_feed_0 l s.heap.size adK adV D cy ad f c_text m_taped m_size m_faultKind m_faultPlace m_at m_end m_token m_number m_name c_points c_strands c_units c_told c_ruleFrom c_ruleTo c_code c_eWhat c_eSign m_bank m_rb m_codes m_within m_piled m_unitsInRule m_askStrand m_askTied m_thoughtClaim m_thoughtNeed m_thoughtAll c_roundOf m_acts m_undone m_laid m_firstMove m_seens m_time m_waysNow m_fitting f hTm z14 z16 z18 z20 z22 _) (cwV 5 hts gL_law_X9_feed rfl rfl rfl (by decide +kernel) ⟨Nat.le_of_ble_eq_true rfl, Nat.le_of_ble_eq_true rfl⟩) (by decide) 9 e8 rfl rfl hl.1 rfl (Nat.le_of_ble_eq_true rfl) dL_law_336 ⟨Nat.le_of_ble_eq_true rfl, Nat.le_of_ble_eq_true rfl⟩ (fun r23 f H locs hw hP hD hS => ?_)
  obtain ⟨_, w24, hT2, h25⟩ := hw
  obtain ⟨hTx, hTm⟩ := LX_m hT2 hTx
  refine lv_pop hx hb dL_law_339 rfl ?_
  refine lv_goto (tgt := 1720) hx hb dL_law_340 (by decide) ?_
  exact hk _ _ _ ⟨tx, w12, rnx, c_text, w24, m_size, m_faultKind, m_faultPlace, m_at, m_end, m_token, m_number, m_name, c_points, c_strands, c_units, c_told, c_ruleFrom, c_ruleTo, c_code, c_eWhat, c_eSign, m_bank, m_rb, m_codes, m_within, m_piled, m_unitsInRule, m_askStrand, m_askTied, m_thoughtClaim, m_thoughtNeed, m_thoughtAll, c_roundOf, m_acts, m_undone, m_laid, m_firstMove, m_seens, m_time, m_waysNow, m_fitting, hTx, hTm, by omega, hCV, by omega, by omega⟩ hP hD hS
set_option maxHeartbeats 4000000 in
set_option maxRecDepth 100000 in
theorem lo_1 {p : Program} {e : Env} {s : State} {m : MethodId} {below : List Frame} {meth : Method} {c : Code} {l : Launch} {b L : Nat} {xs : Nat → Int32} {D : va_G} {cy : Nat → ClassId} {ad : Nat → Nat} {adK adV : Nat → Nat} {f : Nat → va_E} {H : Heap} {locs : List Loc} {ls : Array Slot} (C : LX p s m meth c b L xs D cy) (hE : EN s.heap.size adK adV s) (hLI : LI ad cy f) (hP : va_P D vwCl (wl ad f) H) (hD : va_D (fun q : Nat => s.heap.size ≤ q) (wl ad f)) (hS : va_S (fun q : Nat => s.heap.size ≤ q) s.heap H locs) (x : Int32) (hx0 : 0 ≤ x.toInt ∧ x.toInt + 6 ≤ L) (hL : L ≤ 3072) (hl : lv_has ls 4 [(3, .int x), (2, .ref (ad 148)), (1, .ref (ad 0)), (0, .ref b)]) (hk : ∀ (f : Nat → va_E) (H : Heap) (locs : List Loc), LI ad cy f → va_P D vwCl (wl ad f) H → va_D (fun q : Nat => s.heap.size ≤ q) (wl ad f) → va_S (fun q : Nat => s.heap.size ≤ q) s.heap H locs → W p l e room_1 s m #[Value.ref b] below meth c H locs 185 12666 (lw_Z below #[Value.ref b] s) (F0 m 1720 ls [])) : W p l e room_1 s m #[Value.ref b] below meth c H locs 185 12666 (lw_Z below #[Value.ref b] s) (F0 m 343 ls []) := by
  obtain ⟨hx, hb, hr, hlk, hml, hown, hts, hX, hbl, hK⟩ := id C
  obtain ⟨tx, rby, rnx, c_text, m_taped, m_size, m_faultKind, m_faultPlace, m_at, m_end, m_token, m_number, m_name, c_points, c_strands, c_units, c_told, c_ruleFrom, c_ruleTo, c_code, c_eWhat, c_eSign, m_bank, m_rb, m_codes, m_within, m_piled, m_unitsInRule, m_askStrand, m_askTied, m_thoughtClaim, m_thoughtNeed, m_thoughtAll, c_roundOf, m_acts, m_undone, m_laid, m_firstMove, m_seens, m_time, m_waysNow, m_fitting, hTx, hTm, hAU, hCV, hTT, hTR⟩ := hLI
  have hA : ∀ q : Nat, s.heap.size ≤ q → (fun q : Nat => s.heap.size ≤ q) q := fun _ h => h
  have hAB : ∀ q : Nat, (fun q : Nat => s.heap.size ≤ q) q → s.heap.size ≤ q := fun _ h => h
  have hbA : ¬ (fun q : Nat => s.heap.size ≤ q) b := Nat.not_le.mpr hbl
  refine lv_aload_n hx hb dL_law_343 rfl (lv_at hl 2 rfl) ?_
  refine lv_aload_n hx hb dL_law_344 rfl (lv_at hl 3 rfl) ?_
  refine lv_iload_n hx hb dL_law_345 rfl (lv_at hl 0 rfl) ?_
  refine lv_iconst (v := 1) hx hb dL_law_346 (by decide) ?_
  refine lv_iadd hx hb dL_law_347 ?_
  refine lv_topi (fun y1 ey1 => ?_)
  have ty1 := tl_1
  have hy1 := r_add ey1 (by omega) (by omega)
  refine va_sld hx hb hX hbl hbA hS (vp_in_iff.mpr ⟨by omega, by omega⟩) dL_law_348 ?_
  refine lv_topi (fun z2 _ => ?_)
  obtain ⟨_, _, _, e8, _⟩ := (show okX8 ad tx 0 (f 0) from hTx.1 0 (by decide))
  refine tVI (As := [.int z2]) (rest := []) (i := 0) ⟨hx, hb, hml, hown, hts⟩ hK hE hP hD hS hA hAB (s_X8_end_0 l s.heap.size adK adV D cy ad f tx rby rnx f hTx z2 _) (cwV 1 hts gL_law_X8_end rfl rfl rfl (by decide +kernel) ⟨Nat.le_of_ble_eq_true rfl, Nat.le_of_ble_eq_true rfl⟩) (by decide) 8 e8 rfl rfl hl.1 rfl (Nat.le_of_ble_eq_true rfl) dL_law_349 ⟨Nat.le_of_ble_eq_true rfl, Nat.le_of_ble_eq_true rfl⟩ (fun r3 f H locs hw hP hD hS => ?_)
  obtain ⟨_, w4, hT2⟩ := hw
  obtain ⟨hTx, hTm⟩ := LX_c hT2 hTm
  refine lv_pop hx hb dL_law_352 rfl ?_
  refine lv_aload_n hx hb dL_law_353 rfl (lv_at hl 1 rfl) ?_
  refine lv_aload_n hx hb dL_law_354 rfl (lv_at hl 3 rfl) ?_
  refine lv_iload_n hx hb dL_law_355 rfl (lv_at hl 0 rfl) ?_
  refine lv_iconst (v := 1) hx hb dL_law_356 (by decide) ?_
  refine lv_iadd hx hb dL_law_357 ?_
  refine lv_topi (fun y5 ey5 => ?_)
  have ty5 := tl_1
  have hy5 := r_add ey5 (by omega) (by omega)
  refine va_sld hx hb hX hbl hbA hS (vp_in_iff.mpr ⟨by omega, by omega⟩) dL_law_358 ?_
  refine lv_topi (fun z6 _ => ?_)
  have e8 := (show okX9 ad m_taped m_size m_faultKind m_faultPlace m_at m_end m_token m_number m_name m_bank m_rb m_codes m_within m_piled m_unitsInRule m_askStrand m_askTied m_thoughtClaim m_thoughtNeed m_thoughtAll m_acts m_undone m_laid m_firstMove m_seens m_time m_waysNow m_fitting 148 (f 148) from hTm.1 148 (by decide)).1
  refine tVI (As := [.int z6]) (rest := []) (i := 148) ⟨hx, hb, hml, hown, hts⟩ hK hE hP hD hS hA hAB (s_X9_end_0 l s.heap.size adK adV D cy ad f c_text m_taped m_size m_faultKind m_faultPlace m_at m_end m_token m_number m_name c_points c_strands c_units c_told c_ruleFrom c_ruleTo c_code c_eWhat c_eSign m_bank m_rb m_codes m_within m_piled m_unitsInRule m_askStrand m_askTied m_thoughtClaim m_thoughtNeed m_thoughtAll c_roundOf m_acts m_undone m_laid m_firstMove m_seens m_time m_waysNow m_fitting f hTm z6 _) (cwV 1 hts gL_law_X9_end rfl rfl rfl (by decide +kernel) ⟨Nat.le_of_ble_eq_true rfl, Nat.le_of_ble_eq_true rfl⟩) (by decide) 9 e8 rfl rfl hl.1 rfl (Nat.le_of_ble_eq_true rfl) dL_law_359 ⟨Nat.le_of_ble_eq_true rfl, Nat.le_of_ble_eq_true rfl⟩ (fun r7 f H locs hw hP hD hS => ?_)
  obtain ⟨_, w8, hT2⟩ := hw
  obtain ⟨hTx, hTm⟩ := LX_m hT2 hTx
  refine lv_pop hx hb dL_law_362 rfl ?_
  refine lv_goto (tgt := 1720) hx hb dL_law_363 (by decide) ?_
  exact hk _ _ _ ⟨tx, w4, rnx, c_text, w8, m_size, m_faultKind, m_faultPlace, m_at, m_end, m_token, m_number, m_name, c_points, c_strands, c_units, c_told, c_ruleFrom, c_ruleTo, c_code, c_eWhat, c_eSign, m_bank, m_rb, m_codes, m_within, m_piled, m_unitsInRule, m_askStrand, m_askTied, m_thoughtClaim, m_thoughtNeed, m_thoughtAll, c_roundOf, m_acts, m_undone, m_laid, m_firstMove, m_seens, m_time, m_waysNow, m_fitting, hTx, hTm, by omega, hCV, by omega, by omega⟩ hP hD hS
set_option maxHeartbeats 4000000 in
set_option maxRecDepth 100000 in
theorem lo_2 {p : Program} {e : Env} {s : State} {m : MethodId} {below : List Frame} {meth : Method} {c : Code} {l : Launch} {b L : Nat} {xs : Nat → Int32} {D : va_G} {cy : Nat → ClassId} {ad : Nat → Nat} {adK adV : Nat → Nat} {f : Nat → va_E} {H : Heap} {locs : List Loc} {ls : Array Slot} (C : LX p s m meth c b L xs D cy) (hE : EN s.heap.size adK adV s) (hLI : LI ad cy f) (hP : va_P D vwCl (wl ad f) H) (hD : va_D (fun q : Nat => s.heap.size ≤ q) (wl ad f)) (hS : va_S (fun q : Nat => s.heap.size ≤ q) s.heap H locs) (x : Int32) (hx0 : 0 ≤ x.toInt ∧ x.toInt + 6 ≤ L) (hL : L ≤ 3072) (hl : lv_has ls 4 [(3, .int x), (2, .ref (ad 148)), (1, .ref (ad 0)), (0, .ref b)]) (hk : ∀ (f : Nat → va_E) (H : Heap) (locs : List Loc), LI ad cy f → va_P D vwCl (wl ad f) H → va_D (fun q : Nat => s.heap.size ≤ q) (wl ad f) → va_S (fun q : Nat => s.heap.size ≤ q) s.heap H locs → W p l e room_1 s m #[Value.ref b] below meth c H locs 185 12666 (lw_Z below #[Value.ref b] s) (F0 m 1720 ls [])) : W p l e room_1 s m #[Value.ref b] below meth c H locs 185 12666 (lw_Z below #[Value.ref b] s) (F0 m 366 ls []) := by
  obtain ⟨hx, hb, hr, hlk, hml, hown, hts, hX, hbl, hK⟩ := id C
  obtain ⟨tx, rby, rnx, c_text, m_taped, m_size, m_faultKind, m_faultPlace, m_at, m_end, m_token, m_number, m_name, c_points, c_strands, c_units, c_told, c_ruleFrom, c_ruleTo, c_code, c_eWhat, c_eSign, m_bank, m_rb, m_codes, m_within, m_piled, m_unitsInRule, m_askStrand, m_askTied, m_thoughtClaim, m_thoughtNeed, m_thoughtAll, c_roundOf, m_acts, m_undone, m_laid, m_firstMove, m_seens, m_time, m_waysNow, m_fitting, hTx, hTm, hAU, hCV, hTT, hTR⟩ := hLI
  have hA : ∀ q : Nat, s.heap.size ≤ q → (fun q : Nat => s.heap.size ≤ q) q := fun _ h => h
  have hAB : ∀ q : Nat, (fun q : Nat => s.heap.size ≤ q) q → s.heap.size ≤ q := fun _ h => h
  have hbA : ¬ (fun q : Nat => s.heap.size ≤ q) b := Nat.not_le.mpr hbl
  refine lv_aload_n hx hb dL_law_366 rfl (lv_at hl 2 rfl) ?_
  obtain ⟨_, _, _, e8, _⟩ := (show okX8 ad tx 0 (f 0) from hTx.1 0 (by decide))
  refine tVI (As := []) (rest := []) (i := 0) ⟨hx, hb, hml, hown, hts⟩ hK hE hP hD hS hA hAB (s_X8_suit_0 l s.heap.size adK adV D cy ad f tx rby rnx f hTx _) (cwV 0 hts gL_law_X8_suit rfl rfl rfl (by decide +kernel) ⟨Nat.le_of_ble_eq_true rfl, Nat.le_of_ble_eq_true rfl⟩) (by decide) 8 e8 rfl rfl hl.1 rfl (Nat.le_of_ble_eq_true rfl) dL_law_367 ⟨Nat.le_of_ble_eq_true rfl, Nat.le_of_ble_eq_true rfl⟩ (fun r1 f H locs hw hP hD hS => ?_)
  obtain ⟨_, w2, w3, hT2⟩ := hw
  obtain ⟨hTx, hTm⟩ := LX_c hT2 hTm
  refine lv_pop hx hb dL_law_370 rfl ?_
  refine lv_aload_n hx hb dL_law_371 rfl (lv_at hl 1 rfl) ?_
  have e8 := (show okX9 ad m_taped m_size m_faultKind m_faultPlace m_at m_end m_token m_number m_name m_bank m_rb m_codes m_within m_piled m_unitsInRule m_askStrand m_askTied m_thoughtClaim m_thoughtNeed m_thoughtAll m_acts m_undone m_laid m_firstMove m_seens m_time m_waysNow m_fitting 148 (f 148) from hTm.1 148 (by decide)).1
  refine tVI (As := []) (rest := []) (i := 148) ⟨hx, hb, hml, hown, hts⟩ hK hE hP hD hS hA hAB (s_X9_suit_0 l s.heap.size adK adV D cy ad f c_text m_taped m_size m_faultKind m_faultPlace m_at m_end m_token m_number m_name c_points c_strands c_units c_told c_ruleFrom c_ruleTo c_code c_eWhat c_eSign m_bank m_rb m_codes m_within m_piled m_unitsInRule m_askStrand m_askTied m_thoughtClaim m_thoughtNeed m_thoughtAll c_roundOf m_acts m_undone m_laid m_firstMove m_seens m_time m_waysNow m_fitting f hTm (by omega) hCV _) (cwV 0 hts gL_law_X9_suit rfl rfl rfl (by decide +kernel) ⟨Nat.le_of_ble_eq_true rfl, Nat.le_of_ble_eq_true rfl⟩) (by decide) 9 e8 rfl rfl hl.1 rfl (Nat.le_of_ble_eq_true rfl) dL_law_372 ⟨Nat.le_of_ble_eq_true rfl, Nat.le_of_ble_eq_true rfl⟩ (fun r4 f H locs hw hP hD hS => ?_)
  obtain ⟨_, w5, w6, w7, w8, w9, w10, w11, w12, w13, w14, w15, w16, w17, w18, w19, w20, w21, w22, w23, w24, w25, w26, w27, w28, w29, w30, w31, w32, w33, hT2, h34, h35, h36, hCV2⟩ := hw
  obtain ⟨hTx, hTm⟩ := LX_m hT2 hTx
  have hCV := hCV2
  refine lv_pop hx hb dL_law_375 rfl ?_
  refine lv_goto (tgt := 1720) hx hb dL_law_376 (by decide) ?_
  exact hk _ _ _ ⟨tx, w2, w3, w5, w6, w7, w8, w9, w10, w11, w12, w13, w14, w15, w16, w17, w18, w19, w20, w21, w22, w23, w24, w25, w26, w27, w28, w29, m_askStrand, m_askTied, m_thoughtClaim, m_thoughtNeed, m_thoughtAll, c_roundOf, w30, w31, w32, m_firstMove, w33, m_time, m_waysNow, m_fitting, hTx, hTm, by omega, hCV, by omega, by omega⟩ hP hD hS
set_option maxHeartbeats 4000000 in
set_option maxRecDepth 100000 in
theorem lo_3 {p : Program} {e : Env} {s : State} {m : MethodId} {below : List Frame} {meth : Method} {c : Code} {l : Launch} {b L : Nat} {xs : Nat → Int32} {D : va_G} {cy : Nat → ClassId} {ad : Nat → Nat} {adK adV : Nat → Nat} {f : Nat → va_E} {H : Heap} {locs : List Loc} {ls : Array Slot} (C : LX p s m meth c b L xs D cy) (hE : EN s.heap.size adK adV s) (hLI : LI ad cy f) (hP : va_P D vwCl (wl ad f) H) (hD : va_D (fun q : Nat => s.heap.size ≤ q) (wl ad f)) (hS : va_S (fun q : Nat => s.heap.size ≤ q) s.heap H locs) (x : Int32) (hx0 : 0 ≤ x.toInt ∧ x.toInt + 6 ≤ L) (hL : L ≤ 3072) (hl : lv_has ls 4 [(3, .int x), (2, .ref (ad 148)), (1, .ref (ad 0)), (0, .ref b)]) (hk : ∀ (f : Nat → va_E) (H : Heap) (locs : List Loc), LI ad cy f → va_P D vwCl (wl ad f) H → va_D (fun q : Nat => s.heap.size ≤ q) (wl ad f) → va_S (fun q : Nat => s.heap.size ≤ q) s.heap H locs → W p l e room_1 s m #[Value.ref b] below meth c H locs 185 12666 (lw_Z below #[Value.ref b] s) (F0 m 1720 ls [])) : W p l e room_1 s m #[Value.ref b] below meth c H locs 185 12666 (lw_Z below #[Value.ref b] s) (F0 m 379 ls []) := by
  obtain ⟨hx, hb, hr, hlk, hml, hown, hts, hX, hbl, hK⟩ := id C
  obtain ⟨tx, rby, rnx, c_text, m_taped, m_size, m_faultKind, m_faultPlace, m_at, m_end, m_token, m_number, m_name, c_points, c_strands, c_units, c_told, c_ruleFrom, c_ruleTo, c_code, c_eWhat, c_eSign, m_bank, m_rb, m_codes, m_within, m_piled, m_unitsInRule, m_askStrand, m_askTied, m_thoughtClaim, m_thoughtNeed, m_thoughtAll, c_roundOf, m_acts, m_undone, m_laid, m_firstMove, m_seens, m_time, m_waysNow, m_fitting, hTx, hTm, hAU, hCV, hTT, hTR⟩ := hLI
  have hA : ∀ q : Nat, s.heap.size ≤ q → (fun q : Nat => s.heap.size ≤ q) q := fun _ h => h
  have hAB : ∀ q : Nat, (fun q : Nat => s.heap.size ≤ q) q → s.heap.size ≤ q := fun _ h => h
  have hbA : ¬ (fun q : Nat => s.heap.size ≤ q) b := Nat.not_le.mpr hbl
  refine lv_aload_n hx hb dL_law_379 rfl (lv_at hl 2 rfl) ?_
  refine lv_aload_n hx hb dL_law_380 rfl (lv_at hl 3 rfl) ?_
  refine lv_iload_n hx hb dL_law_381 rfl (lv_at hl 0 rfl) ?_
  refine lv_iconst (v := 1) hx hb dL_law_382 (by decide) ?_
  refine lv_iadd hx hb dL_law_383 ?_
  refine lv_topi (fun y1 ey1 => ?_)
  have ty1 := tl_1
  have hy1 := r_add ey1 (by omega) (by omega)
  refine va_sld hx hb hX hbl hbA hS (vp_in_iff.mpr ⟨by omega, by omega⟩) dL_law_384 ?_
  refine lv_topi (fun z2 _ => ?_)
  obtain ⟨_, _, _, e8, _⟩ := (show okX8 ad tx 0 (f 0) from hTx.1 0 (by decide))
  refine tVI (As := [.int z2]) (rest := []) (i := 0) ⟨hx, hb, hml, hown, hts⟩ hK hE hP hD hS hA hAB (s_X8_fault_0 l s.heap.size adK adV D cy ad f tx rby rnx f hTx z2 _) (cwV 1 hts gL_law_X8_fault rfl rfl rfl (by decide +kernel) ⟨Nat.le_of_ble_eq_true rfl, Nat.le_of_ble_eq_true rfl⟩) (by decide) 8 e8 rfl rfl hl.1 rfl (Nat.le_of_ble_eq_true rfl) dL_law_385 ⟨Nat.le_of_ble_eq_true rfl, Nat.le_of_ble_eq_true rfl⟩ (fun r3 g H locs hw hP hD hS => ?_)
  obtain ⟨_, rfl⟩ := hw
  refine lv_pop hx hb dL_law_388 rfl ?_
  refine lv_aload_n hx hb dL_law_389 rfl (lv_at hl 1 rfl) ?_
  refine lv_aload_n hx hb dL_law_390 rfl (lv_at hl 3 rfl) ?_
  refine lv_iload_n hx hb dL_law_391 rfl (lv_at hl 0 rfl) ?_
  refine lv_iconst (v := 1) hx hb dL_law_392 (by decide) ?_
  refine lv_iadd hx hb dL_law_393 ?_
  refine lv_topi (fun y4 ey4 => ?_)
  have ty4 := tl_1
  have hy4 := r_add ey4 (by omega) (by omega)
  refine va_sld hx hb hX hbl hbA hS (vp_in_iff.mpr ⟨by omega, by omega⟩) dL_law_394 ?_
  refine lv_topi (fun z5 _ => ?_)
  have e8 := (show okX9 ad m_taped m_size m_faultKind m_faultPlace m_at m_end m_token m_number m_name m_bank m_rb m_codes m_within m_piled m_unitsInRule m_askStrand m_askTied m_thoughtClaim m_thoughtNeed m_thoughtAll m_acts m_undone m_laid m_firstMove m_seens m_time m_waysNow m_fitting 148 (f 148) from hTm.1 148 (by decide)).1
  refine tVI (As := [.int z5]) (rest := []) (i := 148) ⟨hx, hb, hml, hown, hts⟩ hK hE hP hD hS hA hAB (s_X9_fault_0 l s.heap.size adK adV D cy ad f c_text m_taped m_size m_faultKind m_faultPlace m_at m_end m_token m_number m_name c_points c_strands c_units c_told c_ruleFrom c_ruleTo c_code c_eWhat c_eSign m_bank m_rb m_codes m_within m_piled m_unitsInRule m_askStrand m_askTied m_thoughtClaim m_thoughtNeed m_thoughtAll c_roundOf m_acts m_undone m_laid m_firstMove m_seens m_time m_waysNow m_fitting f hTm z5 _) (cwV 1 hts gL_law_X9_fault rfl rfl rfl (by decide +kernel) ⟨Nat.le_of_ble_eq_true rfl, Nat.le_of_ble_eq_true rfl⟩) (by decide) 9 e8 rfl rfl hl.1 rfl (Nat.le_of_ble_eq_true rfl) dL_law_395 ⟨Nat.le_of_ble_eq_true rfl, Nat.le_of_ble_eq_true rfl⟩ (fun r6 g H locs hw hP hD hS => ?_)
  obtain ⟨_, rfl⟩ := hw
  refine lv_pop hx hb dL_law_398 rfl ?_
  refine lv_goto (tgt := 1720) hx hb dL_law_399 (by decide) ?_
  exact hk _ _ _ ⟨tx, rby, rnx, c_text, m_taped, m_size, m_faultKind, m_faultPlace, m_at, m_end, m_token, m_number, m_name, c_points, c_strands, c_units, c_told, c_ruleFrom, c_ruleTo, c_code, c_eWhat, c_eSign, m_bank, m_rb, m_codes, m_within, m_piled, m_unitsInRule, m_askStrand, m_askTied, m_thoughtClaim, m_thoughtNeed, m_thoughtAll, c_roundOf, m_acts, m_undone, m_laid, m_firstMove, m_seens, m_time, m_waysNow, m_fitting, hTx, hTm, by omega, hCV, by omega, by omega⟩ hP hD hS
set_option maxHeartbeats 4000000 in
set_option maxRecDepth 100000 in
theorem lo_4 {p : Program} {e : Env} {s : State} {m : MethodId} {below : List Frame} {meth : Method} {c : Code} {l : Launch} {b L : Nat} {xs : Nat → Int32} {D : va_G} {cy : Nat → ClassId} {ad : Nat → Nat} {adK adV : Nat → Nat} {f : Nat → va_E} {H : Heap} {locs : List Loc} {ls : Array Slot} (C : LX p s m meth c b L xs D cy) (hE : EN s.heap.size adK adV s) (hLI : LI ad cy f) (hP : va_P D vwCl (wl ad f) H) (hD : va_D (fun q : Nat => s.heap.size ≤ q) (wl ad f)) (hS : va_S (fun q : Nat => s.heap.size ≤ q) s.heap H locs) (x : Int32) (hx0 : 0 ≤ x.toInt ∧ x.toInt + 6 ≤ L) (hL : L ≤ 3072) (hl : lv_has ls 4 [(3, .int x), (2, .ref (ad 148)), (1, .ref (ad 0)), (0, .ref b)]) (hk : ∀ (f : Nat → va_E) (H : Heap) (locs : List Loc), LI ad cy f → va_P D vwCl (wl ad f) H → va_D (fun q : Nat => s.heap.size ≤ q) (wl ad f) → va_S (fun q : Nat => s.heap.size ≤ q) s.heap H locs → W p l e room_1 s m #[Value.ref b] below meth c H locs 185 12666 (lw_Z below #[Value.ref b] s) (F0 m 1720 ls [])) : W p l e room_1 s m #[Value.ref b] below meth c H locs 185 12666 (lw_Z below #[Value.ref b] s) (F0 m 402 ls []) := by
  obtain ⟨hx, hb, hr, hlk, hml, hown, hts, hX, hbl, hK⟩ := id C
  obtain ⟨tx, rby, rnx, c_text, m_taped, m_size, m_faultKind, m_faultPlace, m_at, m_end, m_token, m_number, m_name, c_points, c_strands, c_units, c_told, c_ruleFrom, c_ruleTo, c_code, c_eWhat, c_eSign, m_bank, m_rb, m_codes, m_within, m_piled, m_unitsInRule, m_askStrand, m_askTied, m_thoughtClaim, m_thoughtNeed, m_thoughtAll, c_roundOf, m_acts, m_undone, m_laid, m_firstMove, m_seens, m_time, m_waysNow, m_fitting, hTx, hTm, hAU, hCV, hTT, hTR⟩ := hLI
  have hA : ∀ q : Nat, s.heap.size ≤ q → (fun q : Nat => s.heap.size ≤ q) q := fun _ h => h
  have hAB : ∀ q : Nat, (fun q : Nat => s.heap.size ≤ q) q → s.heap.size ≤ q := fun _ h => h
  have hbA : ¬ (fun q : Nat => s.heap.size ≤ q) b := Nat.not_le.mpr hbl
  refine lv_aload_n hx hb dL_law_402 rfl (lv_at hl 2 rfl) ?_
  refine lv_aload_n hx hb dL_law_403 rfl (lv_at hl 3 rfl) ?_
  refine lv_iload_n hx hb dL_law_404 rfl (lv_at hl 0 rfl) ?_
  refine lv_iconst (v := 1) hx hb dL_law_405 (by decide) ?_
  refine lv_iadd hx hb dL_law_406 ?_
  refine lv_topi (fun y1 ey1 => ?_)
  have ty1 := tl_1
  have hy1 := r_add ey1 (by omega) (by omega)
  refine va_sld hx hb hX hbl hbA hS (vp_in_iff.mpr ⟨by omega, by omega⟩) dL_law_407 ?_
  refine lv_topi (fun z2 _ => ?_)
  refine lv_aload_n hx hb dL_law_408 rfl (lv_at hl 3 rfl) ?_
  refine lv_iload_n hx hb dL_law_409 rfl (lv_at hl 0 rfl) ?_
  refine lv_iconst (v := 2) hx hb dL_law_410 (by decide) ?_
  refine lv_iadd hx hb dL_law_411 ?_
  refine lv_topi (fun y3 ey3 => ?_)
  have ty3 := tl_2
  have hy3 := r_add ey3 (by omega) (by omega)
  refine va_sld hx hb hX hbl hbA hS (vp_in_iff.mpr ⟨by omega, by omega⟩) dL_law_412 ?_
  refine lv_topi (fun z4 _ => ?_)
  obtain ⟨_, _, _, e8, _⟩ := (show okX8 ad tx 0 (f 0) from hTx.1 0 (by decide))
  refine tVI (As := [.int z2, .int z4]) (rest := []) (i := 0) ⟨hx, hb, hml, hown, hts⟩ hK hE hP hD hS hA hAB (s_X8_point_0 l s.heap.size adK adV D cy ad f tx rby rnx f hTx z2 z4 _) (cwV 2 hts gL_law_X8_point rfl rfl rfl (by decide +kernel) ⟨Nat.le_of_ble_eq_true rfl, Nat.le_of_ble_eq_true rfl⟩) (by decide) 8 e8 rfl rfl hl.1 rfl (Nat.le_of_ble_eq_true rfl) dL_law_413 ⟨Nat.le_of_ble_eq_true rfl, Nat.le_of_ble_eq_true rfl⟩ (fun r5 g H locs hw hP hD hS => ?_)
  obtain ⟨_, rfl⟩ := hw
  refine lv_pop hx hb dL_law_416 rfl ?_
  refine lv_aload_n hx hb dL_law_417 rfl (lv_at hl 1 rfl) ?_
  refine lv_aload_n hx hb dL_law_418 rfl (lv_at hl 3 rfl) ?_
  refine lv_iload_n hx hb dL_law_419 rfl (lv_at hl 0 rfl) ?_
  refine lv_iconst (v := 1) hx hb dL_law_420 (by decide) ?_
  refine lv_iadd hx hb dL_law_421 ?_
  refine lv_topi (fun y6 ey6 => ?_)
  have ty6 := tl_1
  have hy6 := r_add ey6 (by omega) (by omega)
  refine va_sld hx hb hX hbl hbA hS (vp_in_iff.mpr ⟨by omega, by omega⟩) dL_law_422 ?_
  refine lv_topi (fun z7 _ => ?_)
  refine lv_aload_n hx hb dL_law_423 rfl (lv_at hl 3 rfl) ?_
  refine lv_iload_n hx hb dL_law_424 rfl (lv_at hl 0 rfl) ?_
  refine lv_iconst (v := 2) hx hb dL_law_425 (by decide) ?_
  refine lv_iadd hx hb dL_law_426 ?_
  refine lv_topi (fun y8 ey8 => ?_)
  have ty8 := tl_2
  have hy8 := r_add ey8 (by omega) (by omega)
  refine va_sld hx hb hX hbl hbA hS (vp_in_iff.mpr ⟨by omega, by omega⟩) dL_law_427 ?_
  refine lv_topi (fun z9 _ => ?_)
  have e8 := (show okX9 ad m_taped m_size m_faultKind m_faultPlace m_at m_end m_token m_number m_name m_bank m_rb m_codes m_within m_piled m_unitsInRule m_askStrand m_askTied m_thoughtClaim m_thoughtNeed m_thoughtAll m_acts m_undone m_laid m_firstMove m_seens m_time m_waysNow m_fitting 148 (f 148) from hTm.1 148 (by decide)).1
  refine tVI (As := [.int z7, .int z9]) (rest := []) (i := 148) ⟨hx, hb, hml, hown, hts⟩ hK hE hP hD hS hA hAB (s_X9_point_0 l s.heap.size adK adV D cy ad f c_text m_taped m_size m_faultKind m_faultPlace m_at m_end m_token m_number m_name c_points c_strands c_units c_told c_ruleFrom c_ruleTo c_code c_eWhat c_eSign m_bank m_rb m_codes m_within m_piled m_unitsInRule m_askStrand m_askTied m_thoughtClaim m_thoughtNeed m_thoughtAll c_roundOf m_acts m_undone m_laid m_firstMove m_seens m_time m_waysNow m_fitting f hTm z7 z9 _) (cwV 2 hts gL_law_X9_point rfl rfl rfl (by decide +kernel) ⟨Nat.le_of_ble_eq_true rfl, Nat.le_of_ble_eq_true rfl⟩) (by decide) 9 e8 rfl rfl hl.1 rfl (Nat.le_of_ble_eq_true rfl) dL_law_428 ⟨Nat.le_of_ble_eq_true rfl, Nat.le_of_ble_eq_true rfl⟩ (fun r10 g H locs hw hP hD hS => ?_)
  obtain ⟨_, rfl⟩ := hw
  refine lv_pop hx hb dL_law_431 rfl ?_
  refine lv_goto (tgt := 1720) hx hb dL_law_432 (by decide) ?_
  exact hk _ _ _ ⟨tx, rby, rnx, c_text, m_taped, m_size, m_faultKind, m_faultPlace, m_at, m_end, m_token, m_number, m_name, c_points, c_strands, c_units, c_told, c_ruleFrom, c_ruleTo, c_code, c_eWhat, c_eSign, m_bank, m_rb, m_codes, m_within, m_piled, m_unitsInRule, m_askStrand, m_askTied, m_thoughtClaim, m_thoughtNeed, m_thoughtAll, c_roundOf, m_acts, m_undone, m_laid, m_firstMove, m_seens, m_time, m_waysNow, m_fitting, hTx, hTm, by omega, hCV, by omega, by omega⟩ hP hD hS
set_option maxHeartbeats 4000000 in
set_option maxRecDepth 100000 in
theorem lo_5 {p : Program} {e : Env} {s : State} {m : MethodId} {below : List Frame} {meth : Method} {c : Code} {l : Launch} {b L : Nat} {xs : Nat → Int32} {D : va_G} {cy : Nat → ClassId} {ad : Nat → Nat} {adK adV : Nat → Nat} {f : Nat → va_E} {H : Heap} {locs : List Loc} {ls : Array Slot} (C : LX p s m meth c b L xs D cy) (hE : EN s.heap.size adK adV s) (hLI : LI ad cy f) (hP : va_P D vwCl (wl ad f) H) (hD : va_D (fun q : Nat => s.heap.size ≤ q) (wl ad f)) (hS : va_S (fun q : Nat => s.heap.size ≤ q) s.heap H locs) (x : Int32) (hx0 : 0 ≤ x.toInt ∧ x.toInt + 6 ≤ L) (hL : L ≤ 3072) (hl : lv_has ls 4 [(3, .int x), (2, .ref (ad 148)), (1, .ref (ad 0)), (0, .ref b)]) (hk : ∀ (f : Nat → va_E) (H : Heap) (locs : List Loc), LI ad cy f → va_P D vwCl (wl ad f) H → va_D (fun q : Nat => s.heap.size ≤ q) (wl ad f) → va_S (fun q : Nat => s.heap.size ≤ q) s.heap H locs → W p l e room_1 s m #[Value.ref b] below meth c H locs 185 12666 (lw_Z below #[Value.ref b] s) (F0 m 1720 ls [])) : W p l e room_1 s m #[Value.ref b] below meth c H locs 185 12666 (lw_Z below #[Value.ref b] s) (F0 m 435 ls []) := by
  obtain ⟨hx, hb, hr, hlk, hml, hown, hts, hX, hbl, hK⟩ := id C
  obtain ⟨tx, rby, rnx, c_text, m_taped, m_size, m_faultKind, m_faultPlace, m_at, m_end, m_token, m_number, m_name, c_points, c_strands, c_units, c_told, c_ruleFrom, c_ruleTo, c_code, c_eWhat, c_eSign, m_bank, m_rb, m_codes, m_within, m_piled, m_unitsInRule, m_askStrand, m_askTied, m_thoughtClaim, m_thoughtNeed, m_thoughtAll, c_roundOf, m_acts, m_undone, m_laid, m_firstMove, m_seens, m_time, m_waysNow, m_fitting, hTx, hTm, hAU, hCV, hTT, hTR⟩ := hLI
  have hA : ∀ q : Nat, s.heap.size ≤ q → (fun q : Nat => s.heap.size ≤ q) q := fun _ h => h
  have hAB : ∀ q : Nat, (fun q : Nat => s.heap.size ≤ q) q → s.heap.size ≤ q := fun _ h => h
  have hbA : ¬ (fun q : Nat => s.heap.size ≤ q) b := Nat.not_le.mpr hbl
  refine lv_aload_n hx hb dL_law_435 rfl (lv_at hl 2 rfl) ?_
  refine lv_aload_n hx hb dL_law_436 rfl (lv_at hl 3 rfl) ?_
  refine lv_iload_n hx hb dL_law_437 rfl (lv_at hl 0 rfl) ?_
  refine lv_iconst (v := 1) hx hb dL_law_438 (by decide) ?_
  refine lv_iadd hx hb dL_law_439 ?_
  refine lv_topi (fun y1 ey1 => ?_)
  have ty1 := tl_1
  have hy1 := r_add ey1 (by omega) (by omega)
  refine va_sld hx hb hX hbl hbA hS (vp_in_iff.mpr ⟨by omega, by omega⟩) dL_law_440 ?_
  refine lv_topi (fun z2 _ => ?_)
  refine lv_aload_n hx hb dL_law_441 rfl (lv_at hl 3 rfl) ?_
  refine lv_iload_n hx hb dL_law_442 rfl (lv_at hl 0 rfl) ?_
  refine lv_iconst (v := 2) hx hb dL_law_443 (by decide) ?_
  refine lv_iadd hx hb dL_law_444 ?_
  refine lv_topi (fun y3 ey3 => ?_)
  have ty3 := tl_2
  have hy3 := r_add ey3 (by omega) (by omega)
  refine va_sld hx hb hX hbl hbA hS (vp_in_iff.mpr ⟨by omega, by omega⟩) dL_law_445 ?_
  refine lv_topi (fun z4 _ => ?_)
  obtain ⟨_, _, _, e8, _⟩ := (show okX8 ad tx 0 (f 0) from hTx.1 0 (by decide))
  refine tVI (As := [.int z2, .int z4]) (rest := []) (i := 0) ⟨hx, hb, hml, hown, hts⟩ hK hE hP hD hS hA hAB (s_X8_strand_0 l s.heap.size adK adV D cy ad f tx rby rnx f hTx z2 z4 _) (cwV 2 hts gL_law_X8_strand rfl rfl rfl (by decide +kernel) ⟨Nat.le_of_ble_eq_true rfl, Nat.le_of_ble_eq_true rfl⟩) (by decide) 8 e8 rfl rfl hl.1 rfl (Nat.le_of_ble_eq_true rfl) dL_law_446 ⟨Nat.le_of_ble_eq_true rfl, Nat.le_of_ble_eq_true rfl⟩ (fun r5 f H locs hw hP hD hS => ?_)
  obtain ⟨_, hT2⟩ := hw
  obtain ⟨hTx, hTm⟩ := LX_c hT2 hTm
  refine lv_pop hx hb dL_law_449 rfl ?_
  refine lv_aload_n hx hb dL_law_450 rfl (lv_at hl 1 rfl) ?_
  refine lv_aload_n hx hb dL_law_451 rfl (lv_at hl 3 rfl) ?_
  refine lv_iload_n hx hb dL_law_452 rfl (lv_at hl 0 rfl) ?_
  refine lv_iconst (v := 1) hx hb dL_law_453 (by decide) ?_
  refine lv_iadd hx hb dL_law_454 ?_
  refine lv_topi (fun y6 ey6 => ?_)
  have ty6 := tl_1
  have hy6 := r_add ey6 (by omega) (by omega)
  refine va_sld hx hb hX hbl hbA hS (vp_in_iff.mpr ⟨by omega, by omega⟩) dL_law_455 ?_
  refine lv_topi (fun z7 _ => ?_)
  refine lv_aload_n hx hb dL_law_456 rfl (lv_at hl 3 rfl) ?_
  refine lv_iload_n hx hb dL_law_457 rfl (lv_at hl 0 rfl) ?_
  refine lv_iconst (v := 2) hx hb dL_law_458 (by decide) ?_
  refine lv_iadd hx hb dL_law_459 ?_
  refine lv_topi (fun y8 ey8 => ?_)
  have ty8 := tl_2
  have hy8 := r_add ey8 (by omega) (by omega)
  refine va_sld hx hb hX hbl hbA hS (vp_in_iff.mpr ⟨by omega, by omega⟩) dL_law_460 ?_
  refine lv_topi (fun z9 _ => ?_)
  have e8 := (show okX9 ad m_taped m_size m_faultKind m_faultPlace m_at m_end m_token m_number m_name m_bank m_rb m_codes m_within m_piled m_unitsInRule m_askStrand m_askTied m_thoughtClaim m_thoughtNeed m_thoughtAll m_acts m_undone m_laid m_firstMove m_seens m_time m_waysNow m_fitting 148 (f 148) from hTm.1 148 (by decide)).1
  refine tVI (As := [.int z7, .int z9]) (rest := []) (i := 148) ⟨hx, hb, hml, hown, hts⟩ hK hE hP hD hS hA hAB (s_X9_strand_0 l s.heap.size adK adV D cy ad f c_text m_taped m_size m_faultKind m_faultPlace m_at m_end m_token m_number m_name c_points c_strands c_units c_told c_ruleFrom c_ruleTo c_code c_eWhat c_eSign m_bank m_rb m_codes m_within m_piled m_unitsInRule m_askStrand m_askTied m_thoughtClaim m_thoughtNeed m_thoughtAll c_roundOf m_acts m_undone m_laid m_firstMove m_seens m_time m_waysNow m_fitting f hTm z7 z9 hCV _) (cwV 2 hts gL_law_X9_strand rfl rfl rfl (by decide +kernel) ⟨Nat.le_of_ble_eq_true rfl, Nat.le_of_ble_eq_true rfl⟩) (by decide) 9 e8 rfl rfl hl.1 rfl (Nat.le_of_ble_eq_true rfl) dL_law_461 ⟨Nat.le_of_ble_eq_true rfl, Nat.le_of_ble_eq_true rfl⟩ (fun r10 f H locs hw hP hD hS => ?_)
  obtain ⟨_, w11, w12, hT2⟩ := hw
  obtain ⟨hTx, hTm⟩ := LX_m hT2 hTx
  refine lv_pop hx hb dL_law_464 rfl ?_
  refine lv_goto (tgt := 1720) hx hb dL_law_465 (by decide) ?_
  exact hk _ _ _ ⟨tx, rby, rnx, c_text, m_taped, m_size, m_faultKind, m_faultPlace, m_at, m_end, m_token, m_number, m_name, c_points, c_strands, c_units, c_told, c_ruleFrom, c_ruleTo, c_code, c_eWhat, c_eSign, m_bank, m_rb, m_codes, m_within, m_piled, m_unitsInRule, w11, w12, m_thoughtClaim, m_thoughtNeed, m_thoughtAll, c_roundOf, m_acts, m_undone, m_laid, m_firstMove, m_seens, m_time, m_waysNow, m_fitting, hTx, hTm, by omega, hCV, by omega, by omega⟩ hP hD hS
set_option maxHeartbeats 4000000 in
set_option maxRecDepth 100000 in
theorem lo_6 {p : Program} {e : Env} {s : State} {m : MethodId} {below : List Frame} {meth : Method} {c : Code} {l : Launch} {b L : Nat} {xs : Nat → Int32} {D : va_G} {cy : Nat → ClassId} {ad : Nat → Nat} {adK adV : Nat → Nat} {f : Nat → va_E} {H : Heap} {locs : List Loc} {ls : Array Slot} (C : LX p s m meth c b L xs D cy) (hE : EN s.heap.size adK adV s) (hLI : LI ad cy f) (hP : va_P D vwCl (wl ad f) H) (hD : va_D (fun q : Nat => s.heap.size ≤ q) (wl ad f)) (hS : va_S (fun q : Nat => s.heap.size ≤ q) s.heap H locs) (x : Int32) (hx0 : 0 ≤ x.toInt ∧ x.toInt + 6 ≤ L) (hL : L ≤ 3072) (hl : lv_has ls 4 [(3, .int x), (2, .ref (ad 148)), (1, .ref (ad 0)), (0, .ref b)]) (hk : ∀ (f : Nat → va_E) (H : Heap) (locs : List Loc), LI ad cy f → va_P D vwCl (wl ad f) H → va_D (fun q : Nat => s.heap.size ≤ q) (wl ad f) → va_S (fun q : Nat => s.heap.size ≤ q) s.heap H locs → W p l e room_1 s m #[Value.ref b] below meth c H locs 185 12666 (lw_Z below #[Value.ref b] s) (F0 m 1720 ls [])) : W p l e room_1 s m #[Value.ref b] below meth c H locs 185 12666 (lw_Z below #[Value.ref b] s) (F0 m 468 ls []) := by
  obtain ⟨hx, hb, hr, hlk, hml, hown, hts, hX, hbl, hK⟩ := id C
  obtain ⟨tx, rby, rnx, c_text, m_taped, m_size, m_faultKind, m_faultPlace, m_at, m_end, m_token, m_number, m_name, c_points, c_strands, c_units, c_told, c_ruleFrom, c_ruleTo, c_code, c_eWhat, c_eSign, m_bank, m_rb, m_codes, m_within, m_piled, m_unitsInRule, m_askStrand, m_askTied, m_thoughtClaim, m_thoughtNeed, m_thoughtAll, c_roundOf, m_acts, m_undone, m_laid, m_firstMove, m_seens, m_time, m_waysNow, m_fitting, hTx, hTm, hAU, hCV, hTT, hTR⟩ := hLI
  have hA : ∀ q : Nat, s.heap.size ≤ q → (fun q : Nat => s.heap.size ≤ q) q := fun _ h => h
  have hAB : ∀ q : Nat, (fun q : Nat => s.heap.size ≤ q) q → s.heap.size ≤ q := fun _ h => h
  have hbA : ¬ (fun q : Nat => s.heap.size ≤ q) b := Nat.not_le.mpr hbl
  refine lv_aload_n hx hb dL_law_468 rfl (lv_at hl 2 rfl) ?_
  refine lv_aload_n hx hb dL_law_469 rfl (lv_at hl 3 rfl) ?_
  refine lv_iload_n hx hb dL_law_470 rfl (lv_at hl 0 rfl) ?_
  refine lv_iconst (v := 1) hx hb dL_law_471 (by decide) ?_
  refine lv_iadd hx hb dL_law_472 ?_
  refine lv_topi (fun y1 ey1 => ?_)
  have ty1 := tl_1
  have hy1 := r_add ey1 (by omega) (by omega)
  refine va_sld hx hb hX hbl hbA hS (vp_in_iff.mpr ⟨by omega, by omega⟩) dL_law_473 ?_
  refine lv_topi (fun z2 _ => ?_)
  obtain ⟨_, _, _, e8, _⟩ := (show okX8 ad tx 0 (f 0) from hTx.1 0 (by decide))
  refine tVI (As := [.int z2]) (rest := []) (i := 0) ⟨hx, hb, hml, hown, hts⟩ hK hE hP hD hS hA hAB (s_X8_cut_0 l s.heap.size adK adV D cy ad f tx rby rnx f hTx z2 _) (cwV 1 hts gL_law_X8_cut rfl rfl rfl (by decide +kernel) ⟨Nat.le_of_ble_eq_true rfl, Nat.le_of_ble_eq_true rfl⟩) (by decide) 8 e8 rfl rfl hl.1 rfl (Nat.le_of_ble_eq_true rfl) dL_law_474 ⟨Nat.le_of_ble_eq_true rfl, Nat.le_of_ble_eq_true rfl⟩ (fun r3 f H locs hw hP hD hS => ?_)
  obtain ⟨_, hT2⟩ := hw
  obtain ⟨hTx, hTm⟩ := LX_c hT2 hTm
  refine lv_pop hx hb dL_law_477 rfl ?_
  refine lv_aload_n hx hb dL_law_478 rfl (lv_at hl 1 rfl) ?_
  refine lv_aload_n hx hb dL_law_479 rfl (lv_at hl 3 rfl) ?_
  refine lv_iload_n hx hb dL_law_480 rfl (lv_at hl 0 rfl) ?_
  refine lv_iconst (v := 1) hx hb dL_law_481 (by decide) ?_
  refine lv_iadd hx hb dL_law_482 ?_
  refine lv_topi (fun y4 ey4 => ?_)
  have ty4 := tl_1
  have hy4 := r_add ey4 (by omega) (by omega)
  refine va_sld hx hb hX hbl hbA hS (vp_in_iff.mpr ⟨by omega, by omega⟩) dL_law_483 ?_
  refine lv_topi (fun z5 _ => ?_)
  have e8 := (show okX9 ad m_taped m_size m_faultKind m_faultPlace m_at m_end m_token m_number m_name m_bank m_rb m_codes m_within m_piled m_unitsInRule m_askStrand m_askTied m_thoughtClaim m_thoughtNeed m_thoughtAll m_acts m_undone m_laid m_firstMove m_seens m_time m_waysNow m_fitting 148 (f 148) from hTm.1 148 (by decide)).1
  refine tVI (As := [.int z5]) (rest := []) (i := 148) ⟨hx, hb, hml, hown, hts⟩ hK hE hP hD hS hA hAB (s_X9_cut_0 l s.heap.size adK adV D cy ad f c_text m_taped m_size m_faultKind m_faultPlace m_at m_end m_token m_number m_name c_points c_strands c_units c_told c_ruleFrom c_ruleTo c_code c_eWhat c_eSign m_bank m_rb m_codes m_within m_piled m_unitsInRule m_askStrand m_askTied m_thoughtClaim m_thoughtNeed m_thoughtAll c_roundOf m_acts m_undone m_laid m_firstMove m_seens m_time m_waysNow m_fitting f hTm z5 (by omega) hCV _) (cwV 1 hts gL_law_X9_cut rfl rfl rfl (by decide +kernel) ⟨Nat.le_of_ble_eq_true rfl, Nat.le_of_ble_eq_true rfl⟩) (by decide) 9 e8 rfl rfl hl.1 rfl (Nat.le_of_ble_eq_true rfl) dL_law_484 ⟨Nat.le_of_ble_eq_true rfl, Nat.le_of_ble_eq_true rfl⟩ (fun r6 f H locs hw hP hD hS => ?_)
  obtain ⟨_, w7, w8, w9, w10, w11, hT2, h12⟩ := hw
  obtain ⟨hTx, hTm⟩ := LX_m hT2 hTx
  refine lv_pop hx hb dL_law_487 rfl ?_
  refine lv_goto (tgt := 1720) hx hb dL_law_488 (by decide) ?_
  exact hk _ _ _ ⟨tx, rby, rnx, c_text, m_taped, m_size, m_faultKind, m_faultPlace, m_at, m_end, m_token, m_number, m_name, c_points, c_strands, c_units, c_told, c_ruleFrom, c_ruleTo, c_code, c_eWhat, c_eSign, m_bank, m_rb, m_codes, m_within, m_piled, m_unitsInRule, w7, w8, m_thoughtClaim, m_thoughtNeed, m_thoughtAll, w9, w10, w11, m_laid, m_firstMove, m_seens, m_time, m_waysNow, m_fitting, hTx, hTm, by omega, hCV, by omega, by omega⟩ hP hD hS
set_option maxHeartbeats 4000000 in
set_option maxRecDepth 100000 in
theorem lo_7 {p : Program} {e : Env} {s : State} {m : MethodId} {below : List Frame} {meth : Method} {c : Code} {l : Launch} {b L : Nat} {xs : Nat → Int32} {D : va_G} {cy : Nat → ClassId} {ad : Nat → Nat} {adK adV : Nat → Nat} {f : Nat → va_E} {H : Heap} {locs : List Loc} {ls : Array Slot} (C : LX p s m meth c b L xs D cy) (hE : EN s.heap.size adK adV s) (hLI : LI ad cy f) (hP : va_P D vwCl (wl ad f) H) (hD : va_D (fun q : Nat => s.heap.size ≤ q) (wl ad f)) (hS : va_S (fun q : Nat => s.heap.size ≤ q) s.heap H locs) (x : Int32) (hx0 : 0 ≤ x.toInt ∧ x.toInt + 6 ≤ L) (hL : L ≤ 3072) (hl : lv_has ls 4 [(3, .int x), (2, .ref (ad 148)), (1, .ref (ad 0)), (0, .ref b)]) (hk : ∀ (f : Nat → va_E) (H : Heap) (locs : List Loc), LI ad cy f → va_P D vwCl (wl ad f) H → va_D (fun q : Nat => s.heap.size ≤ q) (wl ad f) → va_S (fun q : Nat => s.heap.size ≤ q) s.heap H locs → W p l e room_1 s m #[Value.ref b] below meth c H locs 185 12666 (lw_Z below #[Value.ref b] s) (F0 m 1720 ls [])) : W p l e room_1 s m #[Value.ref b] below meth c H locs 185 12666 (lw_Z below #[Value.ref b] s) (F0 m 491 ls []) := by
  obtain ⟨hx, hb, hr, hlk, hml, hown, hts, hX, hbl, hK⟩ := id C
  obtain ⟨tx, rby, rnx, c_text, m_taped, m_size, m_faultKind, m_faultPlace, m_at, m_end, m_token, m_number, m_name, c_points, c_strands, c_units, c_told, c_ruleFrom, c_ruleTo, c_code, c_eWhat, c_eSign, m_bank, m_rb, m_codes, m_within, m_piled, m_unitsInRule, m_askStrand, m_askTied, m_thoughtClaim, m_thoughtNeed, m_thoughtAll, c_roundOf, m_acts, m_undone, m_laid, m_firstMove, m_seens, m_time, m_waysNow, m_fitting, hTx, hTm, hAU, hCV, hTT, hTR⟩ := hLI
  have hA : ∀ q : Nat, s.heap.size ≤ q → (fun q : Nat => s.heap.size ≤ q) q := fun _ h => h
  have hAB : ∀ q : Nat, (fun q : Nat => s.heap.size ≤ q) q → s.heap.size ≤ q := fun _ h => h
  have hbA : ¬ (fun q : Nat => s.heap.size ≤ q) b := Nat.not_le.mpr hbl
  refine lv_aload_n hx hb dL_law_491 rfl (lv_at hl 2 rfl) ?_
  refine lv_aload_n hx hb dL_law_492 rfl (lv_at hl 3 rfl) ?_
  refine lv_iload_n hx hb dL_law_493 rfl (lv_at hl 0 rfl) ?_
  refine lv_iconst (v := 1) hx hb dL_law_494 (by decide) ?_
  refine lv_iadd hx hb dL_law_495 ?_
  refine lv_topi (fun y1 ey1 => ?_)
  have ty1 := tl_1
  have hy1 := r_add ey1 (by omega) (by omega)
  refine va_sld hx hb hX hbl hbA hS (vp_in_iff.mpr ⟨by omega, by omega⟩) dL_law_496 ?_
  refine lv_topi (fun z2 _ => ?_)
  obtain ⟨_, _, _, e8, _⟩ := (show okX8 ad tx 0 (f 0) from hTx.1 0 (by decide))
  refine tVI (As := [.int z2]) (rest := []) (i := 0) ⟨hx, hb, hml, hown, hts⟩ hK hE hP hD hS hA hAB (s_X8_tie_0 l s.heap.size adK adV D cy ad f tx rby rnx f hTx z2 _) (cwV 1 hts gL_law_X8_tie rfl rfl rfl (by decide +kernel) ⟨Nat.le_of_ble_eq_true rfl, Nat.le_of_ble_eq_true rfl⟩) (by decide) 8 e8 rfl rfl hl.1 rfl (Nat.le_of_ble_eq_true rfl) dL_law_497 ⟨Nat.le_of_ble_eq_true rfl, Nat.le_of_ble_eq_true rfl⟩ (fun r3 f H locs hw hP hD hS => ?_)
  obtain ⟨_, hT2⟩ := hw
  obtain ⟨hTx, hTm⟩ := LX_c hT2 hTm
  refine lv_pop hx hb dL_law_500 rfl ?_
  refine lv_aload_n hx hb dL_law_501 rfl (lv_at hl 1 rfl) ?_
  refine lv_aload_n hx hb dL_law_502 rfl (lv_at hl 3 rfl) ?_
  refine lv_iload_n hx hb dL_law_503 rfl (lv_at hl 0 rfl) ?_
  refine lv_iconst (v := 1) hx hb dL_law_504 (by decide) ?_
  refine lv_iadd hx hb dL_law_505 ?_
  refine lv_topi (fun y4 ey4 => ?_)
  have ty4 := tl_1
  have hy4 := r_add ey4 (by omega) (by omega)
  refine va_sld hx hb hX hbl hbA hS (vp_in_iff.mpr ⟨by omega, by omega⟩) dL_law_506 ?_
  refine lv_topi (fun z5 _ => ?_)
  have e8 := (show okX9 ad m_taped m_size m_faultKind m_faultPlace m_at m_end m_token m_number m_name m_bank m_rb m_codes m_within m_piled m_unitsInRule m_askStrand m_askTied m_thoughtClaim m_thoughtNeed m_thoughtAll m_acts m_undone m_laid m_firstMove m_seens m_time m_waysNow m_fitting 148 (f 148) from hTm.1 148 (by decide)).1
  refine tVI (As := [.int z5]) (rest := []) (i := 148) ⟨hx, hb, hml, hown, hts⟩ hK hE hP hD hS hA hAB (s_X9_tie_0 l s.heap.size adK adV D cy ad f c_text m_taped m_size m_faultKind m_faultPlace m_at m_end m_token m_number m_name c_points c_strands c_units c_told c_ruleFrom c_ruleTo c_code c_eWhat c_eSign m_bank m_rb m_codes m_within m_piled m_unitsInRule m_askStrand m_askTied m_thoughtClaim m_thoughtNeed m_thoughtAll c_roundOf m_acts m_undone m_laid m_firstMove m_seens m_time m_waysNow m_fitting f hTm z5 (by omega) hCV _) (cwV 1 hts gL_law_X9_tie rfl rfl rfl (by decide +kernel) ⟨Nat.le_of_ble_eq_true rfl, Nat.le_of_ble_eq_true rfl⟩) (by decide) 9 e8 rfl rfl hl.1 rfl (Nat.le_of_ble_eq_true rfl) dL_law_507 ⟨Nat.le_of_ble_eq_true rfl, Nat.le_of_ble_eq_true rfl⟩ (fun r6 f H locs hw hP hD hS => ?_)
  obtain ⟨_, w7, w8, w9, w10, w11, hT2, h12⟩ := hw
  obtain ⟨hTx, hTm⟩ := LX_m hT2 hTx
  refine lv_pop hx hb dL_law_510 rfl ?_
  refine lv_goto (tgt := 1720) hx hb dL_law_511 (by decide) ?_
  exact hk _ _ _ ⟨tx, rby, rnx, c_text, m_taped, m_size, m_faultKind, m_faultPlace, m_at, m_end, m_token, m_number, m_name, c_points, c_strands, c_units, c_told, c_ruleFrom, c_ruleTo, c_code, c_eWhat, c_eSign, m_bank, m_rb, m_codes, m_within, m_piled, m_unitsInRule, w7, w8, m_thoughtClaim, m_thoughtNeed, m_thoughtAll, w9, w10, w11, m_laid, m_firstMove, m_seens, m_time, m_waysNow, m_fitting, hTx, hTm, by omega, hCV, by omega, by omega⟩ hP hD hS
set_option maxHeartbeats 4000000 in
set_option maxRecDepth 100000 in
theorem lo_8 {p : Program} {e : Env} {s : State} {m : MethodId} {below : List Frame} {meth : Method} {c : Code} {l : Launch} {b L : Nat} {xs : Nat → Int32} {D : va_G} {cy : Nat → ClassId} {ad : Nat → Nat} {adK adV : Nat → Nat} {f : Nat → va_E} {H : Heap} {locs : List Loc} {ls : Array Slot} (C : LX p s m meth c b L xs D cy) (hE : EN s.heap.size adK adV s) (hLI : LI ad cy f) (hP : va_P D vwCl (wl ad f) H) (hD : va_D (fun q : Nat => s.heap.size ≤ q) (wl ad f)) (hS : va_S (fun q : Nat => s.heap.size ≤ q) s.heap H locs) (x : Int32) (hx0 : 0 ≤ x.toInt ∧ x.toInt + 6 ≤ L) (hL : L ≤ 3072) (hl : lv_has ls 4 [(3, .int x), (2, .ref (ad 148)), (1, .ref (ad 0)), (0, .ref b)]) (hk : ∀ (f : Nat → va_E) (H : Heap) (locs : List Loc), LI ad cy f → va_P D vwCl (wl ad f) H → va_D (fun q : Nat => s.heap.size ≤ q) (wl ad f) → va_S (fun q : Nat => s.heap.size ≤ q) s.heap H locs → W p l e room_1 s m #[Value.ref b] below meth c H locs 185 12666 (lw_Z below #[Value.ref b] s) (F0 m 1720 ls [])) : W p l e room_1 s m #[Value.ref b] below meth c H locs 185 12666 (lw_Z below #[Value.ref b] s) (F0 m 514 ls []) := by
  obtain ⟨hx, hb, hr, hlk, hml, hown, hts, hX, hbl, hK⟩ := id C
  obtain ⟨tx, rby, rnx, c_text, m_taped, m_size, m_faultKind, m_faultPlace, m_at, m_end, m_token, m_number, m_name, c_points, c_strands, c_units, c_told, c_ruleFrom, c_ruleTo, c_code, c_eWhat, c_eSign, m_bank, m_rb, m_codes, m_within, m_piled, m_unitsInRule, m_askStrand, m_askTied, m_thoughtClaim, m_thoughtNeed, m_thoughtAll, c_roundOf, m_acts, m_undone, m_laid, m_firstMove, m_seens, m_time, m_waysNow, m_fitting, hTx, hTm, hAU, hCV, hTT, hTR⟩ := hLI
  have hA : ∀ q : Nat, s.heap.size ≤ q → (fun q : Nat => s.heap.size ≤ q) q := fun _ h => h
  have hAB : ∀ q : Nat, (fun q : Nat => s.heap.size ≤ q) q → s.heap.size ≤ q := fun _ h => h
  have hbA : ¬ (fun q : Nat => s.heap.size ≤ q) b := Nat.not_le.mpr hbl
  refine lv_aload_n hx hb dL_law_514 rfl (lv_at hl 2 rfl) ?_
  refine lv_aload_n hx hb dL_law_515 rfl (lv_at hl 3 rfl) ?_
  refine lv_iload_n hx hb dL_law_516 rfl (lv_at hl 0 rfl) ?_
  refine lv_iconst (v := 1) hx hb dL_law_517 (by decide) ?_
  refine lv_iadd hx hb dL_law_518 ?_
  refine lv_topi (fun y1 ey1 => ?_)
  have ty1 := tl_1
  have hy1 := r_add ey1 (by omega) (by omega)
  refine va_sld hx hb hX hbl hbA hS (vp_in_iff.mpr ⟨by omega, by omega⟩) dL_law_519 ?_
  refine lv_topi (fun z2 _ => ?_)
  refine lv_aload_n hx hb dL_law_520 rfl (lv_at hl 3 rfl) ?_
  refine lv_iload_n hx hb dL_law_521 rfl (lv_at hl 0 rfl) ?_
  refine lv_iconst (v := 2) hx hb dL_law_522 (by decide) ?_
  refine lv_iadd hx hb dL_law_523 ?_
  refine lv_topi (fun y3 ey3 => ?_)
  have ty3 := tl_2
  have hy3 := r_add ey3 (by omega) (by omega)
  refine va_sld hx hb hX hbl hbA hS (vp_in_iff.mpr ⟨by omega, by omega⟩) dL_law_524 ?_
  refine lv_topi (fun z4 _ => ?_)
  obtain ⟨_, _, _, e8, _⟩ := (show okX8 ad tx 0 (f 0) from hTx.1 0 (by decide))
  refine tVI (As := [.int z2, .int z4]) (rest := []) (i := 0) ⟨hx, hb, hml, hown, hts⟩ hK hE hP hD hS hA hAB (s_X8_tighten_0 l s.heap.size adK adV D cy ad f tx rby rnx f hTx z2 z4 _) (cwV 2 hts gL_law_X8_tighten rfl rfl rfl (by decide +kernel) ⟨Nat.le_of_ble_eq_true rfl, Nat.le_of_ble_eq_true rfl⟩) (by decide) 8 e8 rfl rfl hl.1 rfl (Nat.le_of_ble_eq_true rfl) dL_law_525 ⟨Nat.le_of_ble_eq_true rfl, Nat.le_of_ble_eq_true rfl⟩ (fun r5 f H locs hw hP hD hS => ?_)
  obtain ⟨_, hT2⟩ := hw
  obtain ⟨hTx, hTm⟩ := LX_c hT2 hTm
  refine lv_pop hx hb dL_law_528 rfl ?_
  refine lv_aload_n hx hb dL_law_529 rfl (lv_at hl 1 rfl) ?_
  refine lv_aload_n hx hb dL_law_530 rfl (lv_at hl 3 rfl) ?_
  refine lv_iload_n hx hb dL_law_531 rfl (lv_at hl 0 rfl) ?_
  refine lv_iconst (v := 1) hx hb dL_law_532 (by decide) ?_
  refine lv_iadd hx hb dL_law_533 ?_
  refine lv_topi (fun y6 ey6 => ?_)
  have ty6 := tl_1
  have hy6 := r_add ey6 (by omega) (by omega)
  refine va_sld hx hb hX hbl hbA hS (vp_in_iff.mpr ⟨by omega, by omega⟩) dL_law_534 ?_
  refine lv_topi (fun z7 _ => ?_)
  refine lv_aload_n hx hb dL_law_535 rfl (lv_at hl 3 rfl) ?_
  refine lv_iload_n hx hb dL_law_536 rfl (lv_at hl 0 rfl) ?_
  refine lv_iconst (v := 2) hx hb dL_law_537 (by decide) ?_
  refine lv_iadd hx hb dL_law_538 ?_
  refine lv_topi (fun y8 ey8 => ?_)
  have ty8 := tl_2
  have hy8 := r_add ey8 (by omega) (by omega)
  refine va_sld hx hb hX hbl hbA hS (vp_in_iff.mpr ⟨by omega, by omega⟩) dL_law_539 ?_
  refine lv_topi (fun z9 _ => ?_)
  have e8 := (show okX9 ad m_taped m_size m_faultKind m_faultPlace m_at m_end m_token m_number m_name m_bank m_rb m_codes m_within m_piled m_unitsInRule m_askStrand m_askTied m_thoughtClaim m_thoughtNeed m_thoughtAll m_acts m_undone m_laid m_firstMove m_seens m_time m_waysNow m_fitting 148 (f 148) from hTm.1 148 (by decide)).1
  refine tVI (As := [.int z7, .int z9]) (rest := []) (i := 148) ⟨hx, hb, hml, hown, hts⟩ hK hE hP hD hS hA hAB (s_X9_tighten_0 l s.heap.size adK adV D cy ad f c_text m_taped m_size m_faultKind m_faultPlace m_at m_end m_token m_number m_name c_points c_strands c_units c_told c_ruleFrom c_ruleTo c_code c_eWhat c_eSign m_bank m_rb m_codes m_within m_piled m_unitsInRule m_askStrand m_askTied m_thoughtClaim m_thoughtNeed m_thoughtAll c_roundOf m_acts m_undone m_laid m_firstMove m_seens m_time m_waysNow m_fitting f hTm z7 z9 (by omega) _) (cwV 2 hts gL_law_X9_tighten rfl rfl rfl (by decide +kernel) ⟨Nat.le_of_ble_eq_true rfl, Nat.le_of_ble_eq_true rfl⟩) (by decide) 9 e8 rfl rfl hl.1 rfl (Nat.le_of_ble_eq_true rfl) dL_law_540 ⟨Nat.le_of_ble_eq_true rfl, Nat.le_of_ble_eq_true rfl⟩ (fun r10 f H locs hw hP hD hS => ?_)
  obtain ⟨_, w11, w12, hT2, h13⟩ := hw
  obtain ⟨hTx, hTm⟩ := LX_m hT2 hTx
  refine lv_pop hx hb dL_law_543 rfl ?_
  refine lv_goto (tgt := 1720) hx hb dL_law_544 (by decide) ?_
  exact hk _ _ _ ⟨tx, rby, rnx, c_text, m_taped, m_size, m_faultKind, m_faultPlace, m_at, m_end, m_token, m_number, m_name, c_points, c_strands, c_units, c_told, c_ruleFrom, c_ruleTo, c_code, c_eWhat, c_eSign, m_bank, m_rb, m_codes, m_within, m_piled, m_unitsInRule, m_askStrand, m_askTied, m_thoughtClaim, m_thoughtNeed, m_thoughtAll, c_roundOf, w11, w12, m_laid, m_firstMove, m_seens, m_time, m_waysNow, m_fitting, hTx, hTm, by omega, hCV, by omega, by omega⟩ hP hD hS
set_option maxHeartbeats 4000000 in
set_option maxRecDepth 100000 in
theorem lo_9 {p : Program} {e : Env} {s : State} {m : MethodId} {below : List Frame} {meth : Method} {c : Code} {l : Launch} {b L : Nat} {xs : Nat → Int32} {D : va_G} {cy : Nat → ClassId} {ad : Nat → Nat} {adK adV : Nat → Nat} {f : Nat → va_E} {H : Heap} {locs : List Loc} {ls : Array Slot} (C : LX p s m meth c b L xs D cy) (hE : EN s.heap.size adK adV s) (hLI : LI ad cy f) (hP : va_P D vwCl (wl ad f) H) (hD : va_D (fun q : Nat => s.heap.size ≤ q) (wl ad f)) (hS : va_S (fun q : Nat => s.heap.size ≤ q) s.heap H locs) (x : Int32) (hx0 : 0 ≤ x.toInt ∧ x.toInt + 6 ≤ L) (hL : L ≤ 3072) (hl : lv_has ls 4 [(3, .int x), (2, .ref (ad 148)), (1, .ref (ad 0)), (0, .ref b)]) (hk : ∀ (f : Nat → va_E) (H : Heap) (locs : List Loc), LI ad cy f → va_P D vwCl (wl ad f) H → va_D (fun q : Nat => s.heap.size ≤ q) (wl ad f) → va_S (fun q : Nat => s.heap.size ≤ q) s.heap H locs → W p l e room_1 s m #[Value.ref b] below meth c H locs 185 12666 (lw_Z below #[Value.ref b] s) (F0 m 1720 ls [])) : W p l e room_1 s m #[Value.ref b] below meth c H locs 185 12666 (lw_Z below #[Value.ref b] s) (F0 m 547 ls []) := by
  obtain ⟨hx, hb, hr, hlk, hml, hown, hts, hX, hbl, hK⟩ := id C
  obtain ⟨tx, rby, rnx, c_text, m_taped, m_size, m_faultKind, m_faultPlace, m_at, m_end, m_token, m_number, m_name, c_points, c_strands, c_units, c_told, c_ruleFrom, c_ruleTo, c_code, c_eWhat, c_eSign, m_bank, m_rb, m_codes, m_within, m_piled, m_unitsInRule, m_askStrand, m_askTied, m_thoughtClaim, m_thoughtNeed, m_thoughtAll, c_roundOf, m_acts, m_undone, m_laid, m_firstMove, m_seens, m_time, m_waysNow, m_fitting, hTx, hTm, hAU, hCV, hTT, hTR⟩ := hLI
  have hA : ∀ q : Nat, s.heap.size ≤ q → (fun q : Nat => s.heap.size ≤ q) q := fun _ h => h
  have hAB : ∀ q : Nat, (fun q : Nat => s.heap.size ≤ q) q → s.heap.size ≤ q := fun _ h => h
  have hbA : ¬ (fun q : Nat => s.heap.size ≤ q) b := Nat.not_le.mpr hbl
  refine lv_aload_n hx hb dL_law_547 rfl (lv_at hl 2 rfl) ?_
  refine lv_aload_n hx hb dL_law_548 rfl (lv_at hl 3 rfl) ?_
  refine lv_iload_n hx hb dL_law_549 rfl (lv_at hl 0 rfl) ?_
  refine lv_iconst (v := 1) hx hb dL_law_550 (by decide) ?_
  refine lv_iadd hx hb dL_law_551 ?_
  refine lv_topi (fun y1 ey1 => ?_)
  have ty1 := tl_1
  have hy1 := r_add ey1 (by omega) (by omega)
  refine va_sld hx hb hX hbl hbA hS (vp_in_iff.mpr ⟨by omega, by omega⟩) dL_law_552 ?_
  refine lv_topi (fun z2 _ => ?_)
  obtain ⟨_, _, _, e8, _⟩ := (show okX8 ad tx 0 (f 0) from hTx.1 0 (by decide))
  refine tVI (As := [.int z2]) (rest := []) (i := 0) ⟨hx, hb, hml, hown, hts⟩ hK hE hP hD hS hA hAB (s_X8_strike_0 l s.heap.size adK adV D cy ad f tx rby rnx f hTx z2 _) (cwV 1 hts gL_law_X8_strike rfl rfl rfl (by decide +kernel) ⟨Nat.le_of_ble_eq_true rfl, Nat.le_of_ble_eq_true rfl⟩) (by decide) 8 e8 rfl rfl hl.1 rfl (Nat.le_of_ble_eq_true rfl) dL_law_553 ⟨Nat.le_of_ble_eq_true rfl, Nat.le_of_ble_eq_true rfl⟩ (fun r3 f H locs hw hP hD hS => ?_)
  obtain ⟨_, hT2⟩ := hw
  obtain ⟨hTx, hTm⟩ := LX_c hT2 hTm
  refine lv_pop hx hb dL_law_556 rfl ?_
  refine lv_aload_n hx hb dL_law_557 rfl (lv_at hl 1 rfl) ?_
  refine lv_aload_n hx hb dL_law_558 rfl (lv_at hl 3 rfl) ?_
  refine lv_iload_n hx hb dL_law_559 rfl (lv_at hl 0 rfl) ?_
  refine lv_iconst (v := 1) hx hb dL_law_560 (by decide) ?_
  refine lv_iadd hx hb dL_law_561 ?_
  refine lv_topi (fun y4 ey4 => ?_)
  have ty4 := tl_1
  have hy4 := r_add ey4 (by omega) (by omega)
  refine va_sld hx hb hX hbl hbA hS (vp_in_iff.mpr ⟨by omega, by omega⟩) dL_law_562 ?_
  refine lv_topi (fun z5 _ => ?_)
  have e8 := (show okX9 ad m_taped m_size m_faultKind m_faultPlace m_at m_end m_token m_number m_name m_bank m_rb m_codes m_within m_piled m_unitsInRule m_askStrand m_askTied m_thoughtClaim m_thoughtNeed m_thoughtAll m_acts m_undone m_laid m_firstMove m_seens m_time m_waysNow m_fitting 148 (f 148) from hTm.1 148 (by decide)).1
  refine tVI (As := [.int z5]) (rest := []) (i := 148) ⟨hx, hb, hml, hown, hts⟩ hK hE hP hD hS hA hAB (s_X9_strike_0 l s.heap.size adK adV D cy ad f c_text m_taped m_size m_faultKind m_faultPlace m_at m_end m_token m_number m_name c_points c_strands c_units c_told c_ruleFrom c_ruleTo c_code c_eWhat c_eSign m_bank m_rb m_codes m_within m_piled m_unitsInRule m_askStrand m_askTied m_thoughtClaim m_thoughtNeed m_thoughtAll c_roundOf m_acts m_undone m_laid m_firstMove m_seens m_time m_waysNow m_fitting f hTm z5 (by omega) hCV _) (cwV 1 hts gL_law_X9_strike rfl rfl rfl (by decide +kernel) ⟨Nat.le_of_ble_eq_true rfl, Nat.le_of_ble_eq_true rfl⟩) (by decide) 9 e8 rfl rfl hl.1 rfl (Nat.le_of_ble_eq_true rfl) dL_law_563 ⟨Nat.le_of_ble_eq_true rfl, Nat.le_of_ble_eq_true rfl⟩ (fun r6 f H locs hw hP hD hS => ?_)
  obtain ⟨_, w7, w8, w9, w10, w11, hT2, h12⟩ := hw
  obtain ⟨hTx, hTm⟩ := LX_m hT2 hTx
  refine lv_pop hx hb dL_law_566 rfl ?_
  refine lv_goto (tgt := 1720) hx hb dL_law_567 (by decide) ?_
  exact hk _ _ _ ⟨tx, rby, rnx, c_text, m_taped, m_size, m_faultKind, m_faultPlace, m_at, m_end, m_token, m_number, m_name, c_points, c_strands, c_units, c_told, c_ruleFrom, c_ruleTo, c_code, c_eWhat, c_eSign, m_bank, m_rb, m_codes, m_within, m_piled, m_unitsInRule, w7, w8, m_thoughtClaim, m_thoughtNeed, m_thoughtAll, w9, w10, w11, m_laid, m_firstMove, m_seens, m_time, m_waysNow, m_fitting, hTx, hTm, by omega, hCV, by omega, by omega⟩ hP hD hS
set_option maxHeartbeats 4000000 in
set_option maxRecDepth 100000 in
theorem lo_10 {p : Program} {e : Env} {s : State} {m : MethodId} {below : List Frame} {meth : Method} {c : Code} {l : Launch} {b L : Nat} {xs : Nat → Int32} {D : va_G} {cy : Nat → ClassId} {ad : Nat → Nat} {adK adV : Nat → Nat} {f : Nat → va_E} {H : Heap} {locs : List Loc} {ls : Array Slot} (C : LX p s m meth c b L xs D cy) (hE : EN s.heap.size adK adV s) (hLI : LI ad cy f) (hP : va_P D vwCl (wl ad f) H) (hD : va_D (fun q : Nat => s.heap.size ≤ q) (wl ad f)) (hS : va_S (fun q : Nat => s.heap.size ≤ q) s.heap H locs) (x : Int32) (hx0 : 0 ≤ x.toInt ∧ x.toInt + 6 ≤ L) (hL : L ≤ 3072) (hl : lv_has ls 4 [(3, .int x), (2, .ref (ad 148)), (1, .ref (ad 0)), (0, .ref b)]) (hk : ∀ (f : Nat → va_E) (H : Heap) (locs : List Loc), LI ad cy f → va_P D vwCl (wl ad f) H → va_D (fun q : Nat => s.heap.size ≤ q) (wl ad f) → va_S (fun q : Nat => s.heap.size ≤ q) s.heap H locs → W p l e room_1 s m #[Value.ref b] below meth c H locs 185 12666 (lw_Z below #[Value.ref b] s) (F0 m 1720 ls [])) : W p l e room_1 s m #[Value.ref b] below meth c H locs 185 12666 (lw_Z below #[Value.ref b] s) (F0 m 570 ls []) := by
  obtain ⟨hx, hb, hr, hlk, hml, hown, hts, hX, hbl, hK⟩ := id C
  obtain ⟨tx, rby, rnx, c_text, m_taped, m_size, m_faultKind, m_faultPlace, m_at, m_end, m_token, m_number, m_name, c_points, c_strands, c_units, c_told, c_ruleFrom, c_ruleTo, c_code, c_eWhat, c_eSign, m_bank, m_rb, m_codes, m_within, m_piled, m_unitsInRule, m_askStrand, m_askTied, m_thoughtClaim, m_thoughtNeed, m_thoughtAll, c_roundOf, m_acts, m_undone, m_laid, m_firstMove, m_seens, m_time, m_waysNow, m_fitting, hTx, hTm, hAU, hCV, hTT, hTR⟩ := hLI
  have hA : ∀ q : Nat, s.heap.size ≤ q → (fun q : Nat => s.heap.size ≤ q) q := fun _ h => h
  have hAB : ∀ q : Nat, (fun q : Nat => s.heap.size ≤ q) q → s.heap.size ≤ q := fun _ h => h
  have hbA : ¬ (fun q : Nat => s.heap.size ≤ q) b := Nat.not_le.mpr hbl
  refine lv_aload_n hx hb dL_law_570 rfl (lv_at hl 2 rfl) ?_
  refine lv_aload_n hx hb dL_law_571 rfl (lv_at hl 3 rfl) ?_
  refine lv_iload_n hx hb dL_law_572 rfl (lv_at hl 0 rfl) ?_
  refine lv_iconst (v := 1) hx hb dL_law_573 (by decide) ?_
  refine lv_iadd hx hb dL_law_574 ?_
  refine lv_topi (fun y1 ey1 => ?_)
  have ty1 := tl_1
  have hy1 := r_add ey1 (by omega) (by omega)
  refine va_sld hx hb hX hbl hbA hS (vp_in_iff.mpr ⟨by omega, by omega⟩) dL_law_575 ?_
  refine lv_topi (fun z2 _ => ?_)
  obtain ⟨_, _, _, e8, _⟩ := (show okX8 ad tx 0 (f 0) from hTx.1 0 (by decide))
  refine tVI (As := [.int z2]) (rest := []) (i := 0) ⟨hx, hb, hml, hown, hts⟩ hK hE hP hD hS hA hAB (s_X8_prove_0 l s.heap.size adK adV D cy ad f tx rby rnx f hTx z2 _) (cwV 1 hts gL_law_X8_prove rfl rfl rfl (by decide +kernel) ⟨Nat.le_of_ble_eq_true rfl, Nat.le_of_ble_eq_true rfl⟩) (by decide) 8 e8 rfl rfl hl.1 rfl (Nat.le_of_ble_eq_true rfl) dL_law_576 ⟨Nat.le_of_ble_eq_true rfl, Nat.le_of_ble_eq_true rfl⟩ (fun r3 f H locs hw hP hD hS => ?_)
  obtain ⟨_, hT2⟩ := hw
  obtain ⟨hTx, hTm⟩ := LX_c hT2 hTm
  refine lv_pop hx hb dL_law_579 rfl ?_
  refine lv_aload_n hx hb dL_law_580 rfl (lv_at hl 1 rfl) ?_
  refine lv_aload_n hx hb dL_law_581 rfl (lv_at hl 3 rfl) ?_
  refine lv_iload_n hx hb dL_law_582 rfl (lv_at hl 0 rfl) ?_
  refine lv_iconst (v := 1) hx hb dL_law_583 (by decide) ?_
  refine lv_iadd hx hb dL_law_584 ?_
  refine lv_topi (fun y4 ey4 => ?_)
  have ty4 := tl_1
  have hy4 := r_add ey4 (by omega) (by omega)
  refine va_sld hx hb hX hbl hbA hS (vp_in_iff.mpr ⟨by omega, by omega⟩) dL_law_585 ?_
  refine lv_topi (fun z5 _ => ?_)
  have e8 := (show okX9 ad m_taped m_size m_faultKind m_faultPlace m_at m_end m_token m_number m_name m_bank m_rb m_codes m_within m_piled m_unitsInRule m_askStrand m_askTied m_thoughtClaim m_thoughtNeed m_thoughtAll m_acts m_undone m_laid m_firstMove m_seens m_time m_waysNow m_fitting 148 (f 148) from hTm.1 148 (by decide)).1
  refine tVI (As := [.int z5]) (rest := []) (i := 148) ⟨hx, hb, hml, hown, hts⟩ hK hE hP hD hS hA hAB (s_X9_prove_0 l s.heap.size adK adV D cy ad f c_text m_taped m_size m_faultKind m_faultPlace m_at m_end m_token m_number m_name c_points c_strands c_units c_told c_ruleFrom c_ruleTo c_code c_eWhat c_eSign m_bank m_rb m_codes m_within m_piled m_unitsInRule m_askStrand m_askTied m_thoughtClaim m_thoughtNeed m_thoughtAll c_roundOf m_acts m_undone m_laid m_firstMove m_seens m_time m_waysNow m_fitting f hTm z5 (by omega) hCV _) (cwV 1 hts gL_law_X9_prove rfl rfl rfl (by decide +kernel) ⟨Nat.le_of_ble_eq_true rfl, Nat.le_of_ble_eq_true rfl⟩) (by decide) 9 e8 rfl rfl hl.1 rfl (Nat.le_of_ble_eq_true rfl) dL_law_586 ⟨Nat.le_of_ble_eq_true rfl, Nat.le_of_ble_eq_true rfl⟩ (fun r6 f H locs hw hP hD hS => ?_)
  obtain ⟨_, w7, w8, w9, w10, w11, hT2, h12⟩ := hw
  obtain ⟨hTx, hTm⟩ := LX_m hT2 hTx
  refine lv_pop hx hb dL_law_589 rfl ?_
  refine lv_goto (tgt := 1720) hx hb dL_law_590 (by decide) ?_
  exact hk _ _ _ ⟨tx, rby, rnx, c_text, m_taped, m_size, m_faultKind, m_faultPlace, m_at, m_end, m_token, m_number, m_name, c_points, c_strands, c_units, c_told, c_ruleFrom, c_ruleTo, c_code, c_eWhat, c_eSign, m_bank, m_rb, m_codes, m_within, m_piled, m_unitsInRule, w7, w8, m_thoughtClaim, m_thoughtNeed, m_thoughtAll, w9, w10, w11, m_laid, m_firstMove, m_seens, m_time, m_waysNow, m_fitting, hTx, hTm, by omega, hCV, by omega, by omega⟩ hP hD hS
set_option maxHeartbeats 4000000 in
set_option maxRecDepth 100000 in
theorem lo_11 {p : Program} {e : Env} {s : State} {m : MethodId} {below : List Frame} {meth : Method} {c : Code} {l : Launch} {b L : Nat} {xs : Nat → Int32} {D : va_G} {cy : Nat → ClassId} {ad : Nat → Nat} {adK adV : Nat → Nat} {f : Nat → va_E} {H : Heap} {locs : List Loc} {ls : Array Slot} (C : LX p s m meth c b L xs D cy) (hE : EN s.heap.size adK adV s) (hLI : LI ad cy f) (hP : va_P D vwCl (wl ad f) H) (hD : va_D (fun q : Nat => s.heap.size ≤ q) (wl ad f)) (hS : va_S (fun q : Nat => s.heap.size ≤ q) s.heap H locs) (x : Int32) (hx0 : 0 ≤ x.toInt ∧ x.toInt + 6 ≤ L) (hL : L ≤ 3072) (hl : lv_has ls 4 [(3, .int x), (2, .ref (ad 148)), (1, .ref (ad 0)), (0, .ref b)]) (hk : ∀ (f : Nat → va_E) (H : Heap) (locs : List Loc), LI ad cy f → va_P D vwCl (wl ad f) H → va_D (fun q : Nat => s.heap.size ≤ q) (wl ad f) → va_S (fun q : Nat => s.heap.size ≤ q) s.heap H locs → W p l e room_1 s m #[Value.ref b] below meth c H locs 185 12666 (lw_Z below #[Value.ref b] s) (F0 m 1720 ls [])) : W p l e room_1 s m #[Value.ref b] below meth c H locs 185 12666 (lw_Z below #[Value.ref b] s) (F0 m 593 ls []) := by
  obtain ⟨hx, hb, hr, hlk, hml, hown, hts, hX, hbl, hK⟩ := id C
  obtain ⟨tx, rby, rnx, c_text, m_taped, m_size, m_faultKind, m_faultPlace, m_at, m_end, m_token, m_number, m_name, c_points, c_strands, c_units, c_told, c_ruleFrom, c_ruleTo, c_code, c_eWhat, c_eSign, m_bank, m_rb, m_codes, m_within, m_piled, m_unitsInRule, m_askStrand, m_askTied, m_thoughtClaim, m_thoughtNeed, m_thoughtAll, c_roundOf, m_acts, m_undone, m_laid, m_firstMove, m_seens, m_time, m_waysNow, m_fitting, hTx, hTm, hAU, hCV, hTT, hTR⟩ := hLI
  have hA : ∀ q : Nat, s.heap.size ≤ q → (fun q : Nat => s.heap.size ≤ q) q := fun _ h => h
  have hAB : ∀ q : Nat, (fun q : Nat => s.heap.size ≤ q) q → s.heap.size ≤ q := fun _ h => h
  have hbA : ¬ (fun q : Nat => s.heap.size ≤ q) b := Nat.not_le.mpr hbl
  refine lv_aload_n hx hb dL_law_593 rfl (lv_at hl 2 rfl) ?_
  obtain ⟨_, _, _, e8, _⟩ := (show okX8 ad tx 0 (f 0) from hTx.1 0 (by decide))
  refine tVI (As := []) (rest := []) (i := 0) ⟨hx, hb, hml, hown, hts⟩ hK hE hP hD hS hA hAB (s_X8_day_0 l s.heap.size adK adV D cy ad f tx rby rnx f hTx _) (cwV 0 hts gL_law_X8_day rfl rfl rfl (by decide +kernel) ⟨Nat.le_of_ble_eq_true rfl, Nat.le_of_ble_eq_true rfl⟩) (by decide) 8 e8 rfl rfl hl.1 rfl (Nat.le_of_ble_eq_true rfl) dL_law_594 ⟨Nat.le_of_ble_eq_true rfl, Nat.le_of_ble_eq_true rfl⟩ (fun r1 f H locs hw hP hD hS => ?_)
  obtain ⟨_, hT2⟩ := hw
  obtain ⟨hTx, hTm⟩ := LX_c hT2 hTm
  refine lv_pop hx hb dL_law_597 rfl ?_
  refine lv_aload_n hx hb dL_law_598 rfl (lv_at hl 1 rfl) ?_
  have e8 := (show okX9 ad m_taped m_size m_faultKind m_faultPlace m_at m_end m_token m_number m_name m_bank m_rb m_codes m_within m_piled m_unitsInRule m_askStrand m_askTied m_thoughtClaim m_thoughtNeed m_thoughtAll m_acts m_undone m_laid m_firstMove m_seens m_time m_waysNow m_fitting 148 (f 148) from hTm.1 148 (by decide)).1
  refine tVI (As := []) (rest := []) (i := 148) ⟨hx, hb, hml, hown, hts⟩ hK hE hP hD hS hA hAB (s_X9_day_0 l s.heap.size adK adV D cy ad f c_text m_taped m_size m_faultKind m_faultPlace m_at m_end m_token m_number m_name c_points c_strands c_units c_told c_ruleFrom c_ruleTo c_code c_eWhat c_eSign m_bank m_rb m_codes m_within m_piled m_unitsInRule m_askStrand m_askTied m_thoughtClaim m_thoughtNeed m_thoughtAll c_roundOf m_acts m_undone m_laid m_firstMove m_seens m_time m_waysNow m_fitting f hTm (by omega) _) (cwV 0 hts gL_law_X9_day rfl rfl rfl (by decide +kernel) ⟨Nat.le_of_ble_eq_true rfl, Nat.le_of_ble_eq_true rfl⟩) (by decide) 9 e8 rfl rfl hl.1 rfl (Nat.le_of_ble_eq_true rfl) dL_law_599 ⟨Nat.le_of_ble_eq_true rfl, Nat.le_of_ble_eq_true rfl⟩ (fun r2 f H locs hw hP hD hS => ?_)
  obtain ⟨_, w3, w4, hT2, h5⟩ := hw
  obtain ⟨hTx, hTm⟩ := LX_m hT2 hTx
  refine lv_pop hx hb dL_law_602 rfl ?_
  refine lv_goto (tgt := 1720) hx hb dL_law_603 (by decide) ?_
  exact hk _ _ _ ⟨tx, rby, rnx, c_text, m_taped, m_size, m_faultKind, m_faultPlace, m_at, m_end, m_token, m_number, m_name, c_points, c_strands, c_units, c_told, c_ruleFrom, c_ruleTo, c_code, c_eWhat, c_eSign, m_bank, m_rb, m_codes, m_within, m_piled, m_unitsInRule, m_askStrand, m_askTied, m_thoughtClaim, m_thoughtNeed, m_thoughtAll, c_roundOf, w3, w4, m_laid, m_firstMove, m_seens, m_time, m_waysNow, m_fitting, hTx, hTm, by omega, hCV, by omega, by omega⟩ hP hD hS
set_option maxHeartbeats 4000000 in
set_option maxRecDepth 100000 in
theorem lo_12 {p : Program} {e : Env} {s : State} {m : MethodId} {below : List Frame} {meth : Method} {c : Code} {l : Launch} {b L : Nat} {xs : Nat → Int32} {D : va_G} {cy : Nat → ClassId} {ad : Nat → Nat} {adK adV : Nat → Nat} {f : Nat → va_E} {H : Heap} {locs : List Loc} {ls : Array Slot} (C : LX p s m meth c b L xs D cy) (hE : EN s.heap.size adK adV s) (hLI : LI ad cy f) (hP : va_P D vwCl (wl ad f) H) (hD : va_D (fun q : Nat => s.heap.size ≤ q) (wl ad f)) (hS : va_S (fun q : Nat => s.heap.size ≤ q) s.heap H locs) (x : Int32) (hx0 : 0 ≤ x.toInt ∧ x.toInt + 6 ≤ L) (hL : L ≤ 3072) (hl : lv_has ls 4 [(3, .int x), (2, .ref (ad 148)), (1, .ref (ad 0)), (0, .ref b)]) (hk : ∀ (f : Nat → va_E) (H : Heap) (locs : List Loc), LI ad cy f → va_P D vwCl (wl ad f) H → va_D (fun q : Nat => s.heap.size ≤ q) (wl ad f) → va_S (fun q : Nat => s.heap.size ≤ q) s.heap H locs → W p l e room_1 s m #[Value.ref b] below meth c H locs 185 12666 (lw_Z below #[Value.ref b] s) (F0 m 1720 ls [])) : W p l e room_1 s m #[Value.ref b] below meth c H locs 185 12666 (lw_Z below #[Value.ref b] s) (F0 m 606 ls []) := by
  obtain ⟨hx, hb, hr, hlk, hml, hown, hts, hX, hbl, hK⟩ := id C
  obtain ⟨tx, rby, rnx, c_text, m_taped, m_size, m_faultKind, m_faultPlace, m_at, m_end, m_token, m_number, m_name, c_points, c_strands, c_units, c_told, c_ruleFrom, c_ruleTo, c_code, c_eWhat, c_eSign, m_bank, m_rb, m_codes, m_within, m_piled, m_unitsInRule, m_askStrand, m_askTied, m_thoughtClaim, m_thoughtNeed, m_thoughtAll, c_roundOf, m_acts, m_undone, m_laid, m_firstMove, m_seens, m_time, m_waysNow, m_fitting, hTx, hTm, hAU, hCV, hTT, hTR⟩ := hLI
  have hA : ∀ q : Nat, s.heap.size ≤ q → (fun q : Nat => s.heap.size ≤ q) q := fun _ h => h
  have hAB : ∀ q : Nat, (fun q : Nat => s.heap.size ≤ q) q → s.heap.size ≤ q := fun _ h => h
  have hbA : ¬ (fun q : Nat => s.heap.size ≤ q) b := Nat.not_le.mpr hbl
  refine lv_aload_n hx hb dL_law_606 rfl (lv_at hl 2 rfl) ?_
  obtain ⟨_, _, _, e8, _⟩ := (show okX8 ad tx 0 (f 0) from hTx.1 0 (by decide))
  refine tVI (As := []) (rest := []) (i := 0) ⟨hx, hb, hml, hown, hts⟩ hK hE hP hD hS hA hAB (s_X8_undo_0 l s.heap.size adK adV D cy ad f tx rby rnx f hTx _) (cwV 0 hts gL_law_X8_undo rfl rfl rfl (by decide +kernel) ⟨Nat.le_of_ble_eq_true rfl, Nat.le_of_ble_eq_true rfl⟩) (by decide) 8 e8 rfl rfl hl.1 rfl (Nat.le_of_ble_eq_true rfl) dL_law_607 ⟨Nat.le_of_ble_eq_true rfl, Nat.le_of_ble_eq_true rfl⟩ (fun r1 f H locs hw hP hD hS => ?_)
  obtain ⟨_, hT2⟩ := hw
  obtain ⟨hTx, hTm⟩ := LX_c hT2 hTm
  refine lv_pop hx hb dL_law_610 rfl ?_
  refine lv_aload_n hx hb dL_law_611 rfl (lv_at hl 1 rfl) ?_
  have e8 := (show okX9 ad m_taped m_size m_faultKind m_faultPlace m_at m_end m_token m_number m_name m_bank m_rb m_codes m_within m_piled m_unitsInRule m_askStrand m_askTied m_thoughtClaim m_thoughtNeed m_thoughtAll m_acts m_undone m_laid m_firstMove m_seens m_time m_waysNow m_fitting 148 (f 148) from hTm.1 148 (by decide)).1
  refine tVI (As := []) (rest := []) (i := 148) ⟨hx, hb, hml, hown, hts⟩ hK hE hP hD hS hA hAB (s_X9_undo_0 l s.heap.size adK adV D cy ad f c_text m_taped m_size m_faultKind m_faultPlace m_at m_end m_token m_number m_name c_points c_strands c_units c_told c_ruleFrom c_ruleTo c_code c_eWhat c_eSign m_bank m_rb m_codes m_within m_piled m_unitsInRule m_askStrand m_askTied m_thoughtClaim m_thoughtNeed m_thoughtAll c_roundOf m_acts m_undone m_laid m_firstMove m_seens m_time m_waysNow m_fitting f hTm (by omega) _) (cwV 0 hts gL_law_X9_undo rfl rfl rfl (by decide +kernel) ⟨Nat.le_of_ble_eq_true rfl, Nat.le_of_ble_eq_true rfl⟩) (by decide) 9 e8 rfl rfl hl.1 rfl (Nat.le_of_ble_eq_true rfl) dL_law_612 ⟨Nat.le_of_ble_eq_true rfl, Nat.le_of_ble_eq_true rfl⟩ (fun r2 f H locs hw hP hD hS => ?_)
  obtain ⟨_, w3, w4, hT2, h5, h6⟩ := hw
  obtain ⟨hTx, hTm⟩ := LX_m hT2 hTx
  refine lv_pop hx hb dL_law_615 rfl ?_
  refine lv_goto (tgt := 1720) hx hb dL_law_616 (by decide) ?_
  exact hk _ _ _ ⟨tx, rby, rnx, c_text, m_taped, m_size, m_faultKind, m_faultPlace, m_at, m_end, m_token, m_number, m_name, c_points, c_strands, c_units, c_told, c_ruleFrom, c_ruleTo, c_code, c_eWhat, c_eSign, m_bank, m_rb, m_codes, m_within, m_piled, m_unitsInRule, m_askStrand, m_askTied, m_thoughtClaim, m_thoughtNeed, m_thoughtAll, c_roundOf, w3, w4, m_laid, m_firstMove, m_seens, m_time, m_waysNow, m_fitting, hTx, hTm, by omega, hCV, by omega, by omega⟩ hP hD hS
set_option maxHeartbeats 4000000 in
set_option maxRecDepth 100000 in
theorem lo_13 {p : Program} {e : Env} {s : State} {m : MethodId} {below : List Frame} {meth : Method} {c : Code} {l : Launch} {b L : Nat} {xs : Nat → Int32} {D : va_G} {cy : Nat → ClassId} {ad : Nat → Nat} {adK adV : Nat → Nat} {f : Nat → va_E} {H : Heap} {locs : List Loc} {ls : Array Slot} (C : LX p s m meth c b L xs D cy) (hE : EN s.heap.size adK adV s) (hLI : LI ad cy f) (hP : va_P D vwCl (wl ad f) H) (hD : va_D (fun q : Nat => s.heap.size ≤ q) (wl ad f)) (hS : va_S (fun q : Nat => s.heap.size ≤ q) s.heap H locs) (x : Int32) (hx0 : 0 ≤ x.toInt ∧ x.toInt + 6 ≤ L) (hL : L ≤ 3072) (hl : lv_has ls 4 [(3, .int x), (2, .ref (ad 148)), (1, .ref (ad 0)), (0, .ref b)]) (hk : ∀ (f : Nat → va_E) (H : Heap) (locs : List Loc), LI ad cy f → va_P D vwCl (wl ad f) H → va_D (fun q : Nat => s.heap.size ≤ q) (wl ad f) → va_S (fun q : Nat => s.heap.size ≤ q) s.heap H locs → W p l e room_1 s m #[Value.ref b] below meth c H locs 185 12666 (lw_Z below #[Value.ref b] s) (F0 m 1720 ls [])) : W p l e room_1 s m #[Value.ref b] below meth c H locs 185 12666 (lw_Z below #[Value.ref b] s) (F0 m 619 ls []) := by
  obtain ⟨hx, hb, hr, hlk, hml, hown, hts, hX, hbl, hK⟩ := id C
  obtain ⟨tx, rby, rnx, c_text, m_taped, m_size, m_faultKind, m_faultPlace, m_at, m_end, m_token, m_number, m_name, c_points, c_strands, c_units, c_told, c_ruleFrom, c_ruleTo, c_code, c_eWhat, c_eSign, m_bank, m_rb, m_codes, m_within, m_piled, m_unitsInRule, m_askStrand, m_askTied, m_thoughtClaim, m_thoughtNeed, m_thoughtAll, c_roundOf, m_acts, m_undone, m_laid, m_firstMove, m_seens, m_time, m_waysNow, m_fitting, hTx, hTm, hAU, hCV, hTT, hTR⟩ := hLI
  have hA : ∀ q : Nat, s.heap.size ≤ q → (fun q : Nat => s.heap.size ≤ q) q := fun _ h => h
  have hAB : ∀ q : Nat, (fun q : Nat => s.heap.size ≤ q) q → s.heap.size ≤ q := fun _ h => h
  have hbA : ¬ (fun q : Nat => s.heap.size ≤ q) b := Nat.not_le.mpr hbl
  refine lv_aload_n hx hb dL_law_619 rfl (lv_at hl 2 rfl) ?_
  obtain ⟨_, _, _, e8, _⟩ := (show okX8 ad tx 0 (f 0) from hTx.1 0 (by decide))
  refine tVI (As := []) (rest := []) (i := 0) ⟨hx, hb, hml, hown, hts⟩ hK hE hP hD hS hA hAB (s_X8_redo_0 l s.heap.size adK adV D cy ad f tx rby rnx f hTx _) (cwV 0 hts gL_law_X8_redo rfl rfl rfl (by decide +kernel) ⟨Nat.le_of_ble_eq_true rfl, Nat.le_of_ble_eq_true rfl⟩) (by decide) 8 e8 rfl rfl hl.1 rfl (Nat.le_of_ble_eq_true rfl) dL_law_620 ⟨Nat.le_of_ble_eq_true rfl, Nat.le_of_ble_eq_true rfl⟩ (fun r1 f H locs hw hP hD hS => ?_)
  obtain ⟨_, hT2⟩ := hw
  obtain ⟨hTx, hTm⟩ := LX_c hT2 hTm
  refine lv_pop hx hb dL_law_623 rfl ?_
  refine lv_aload_n hx hb dL_law_624 rfl (lv_at hl 1 rfl) ?_
  have e8 := (show okX9 ad m_taped m_size m_faultKind m_faultPlace m_at m_end m_token m_number m_name m_bank m_rb m_codes m_within m_piled m_unitsInRule m_askStrand m_askTied m_thoughtClaim m_thoughtNeed m_thoughtAll m_acts m_undone m_laid m_firstMove m_seens m_time m_waysNow m_fitting 148 (f 148) from hTm.1 148 (by decide)).1
  refine tVI (As := []) (rest := []) (i := 148) ⟨hx, hb, hml, hown, hts⟩ hK hE hP hD hS hA hAB (s_X9_redo_0 l s.heap.size adK adV D cy ad f c_text m_taped m_size m_faultKind m_faultPlace m_at m_end m_token m_number m_name c_points c_strands c_units c_told c_ruleFrom c_ruleTo c_code c_eWhat c_eSign m_bank m_rb m_codes m_within m_piled m_unitsInRule m_askStrand m_askTied m_thoughtClaim m_thoughtNeed m_thoughtAll c_roundOf m_acts m_undone m_laid m_firstMove m_seens m_time m_waysNow m_fitting f hTm (by omega) _) (cwV 0 hts gL_law_X9_redo rfl rfl rfl (by decide +kernel) ⟨Nat.le_of_ble_eq_true rfl, Nat.le_of_ble_eq_true rfl⟩) (by decide) 9 e8 rfl rfl hl.1 rfl (Nat.le_of_ble_eq_true rfl) dL_law_625 ⟨Nat.le_of_ble_eq_true rfl, Nat.le_of_ble_eq_true rfl⟩ (fun r2 f H locs hw hP hD hS => ?_)
  obtain ⟨_, w3, w4, hT2, h5, h6⟩ := hw
  obtain ⟨hTx, hTm⟩ := LX_m hT2 hTx
  refine lv_pop hx hb dL_law_628 rfl ?_
  refine lv_goto (tgt := 1720) hx hb dL_law_629 (by decide) ?_
  exact hk _ _ _ ⟨tx, rby, rnx, c_text, m_taped, m_size, m_faultKind, m_faultPlace, m_at, m_end, m_token, m_number, m_name, c_points, c_strands, c_units, c_told, c_ruleFrom, c_ruleTo, c_code, c_eWhat, c_eSign, m_bank, m_rb, m_codes, m_within, m_piled, m_unitsInRule, m_askStrand, m_askTied, m_thoughtClaim, m_thoughtNeed, m_thoughtAll, c_roundOf, w3, w4, m_laid, m_firstMove, m_seens, m_time, m_waysNow, m_fitting, hTx, hTm, by omega, hCV, by omega, by omega⟩ hP hD hS
set_option maxHeartbeats 4000000 in
set_option maxRecDepth 100000 in
theorem lo_14 {p : Program} {e : Env} {s : State} {m : MethodId} {below : List Frame} {meth : Method} {c : Code} {l : Launch} {b L : Nat} {xs : Nat → Int32} {D : va_G} {cy : Nat → ClassId} {ad : Nat → Nat} {adK adV : Nat → Nat} {f : Nat → va_E} {H : Heap} {locs : List Loc} {ls : Array Slot} (C : LX p s m meth c b L xs D cy) (hE : EN s.heap.size adK adV s) (hLI : LI ad cy f) (hP : va_P D vwCl (wl ad f) H) (hD : va_D (fun q : Nat => s.heap.size ≤ q) (wl ad f)) (hS : va_S (fun q : Nat => s.heap.size ≤ q) s.heap H locs) (x : Int32) (hx0 : 0 ≤ x.toInt ∧ x.toInt + 6 ≤ L) (hL : L ≤ 3072) (hl : lv_has ls 4 [(3, .int x), (2, .ref (ad 148)), (1, .ref (ad 0)), (0, .ref b)]) (hk : ∀ (f : Nat → va_E) (H : Heap) (locs : List Loc), LI ad cy f → va_P D vwCl (wl ad f) H → va_D (fun q : Nat => s.heap.size ≤ q) (wl ad f) → va_S (fun q : Nat => s.heap.size ≤ q) s.heap H locs → W p l e room_1 s m #[Value.ref b] below meth c H locs 185 12666 (lw_Z below #[Value.ref b] s) (F0 m 1720 ls [])) : W p l e room_1 s m #[Value.ref b] below meth c H locs 185 12666 (lw_Z below #[Value.ref b] s) (F0 m 632 ls []) := by
  obtain ⟨hx, hb, hr, hlk, hml, hown, hts, hX, hbl, hK⟩ := id C
  obtain ⟨tx, rby, rnx, c_text, m_taped, m_size, m_faultKind, m_faultPlace, m_at, m_end, m_token, m_number, m_name, c_points, c_strands, c_units, c_told, c_ruleFrom, c_ruleTo, c_code, c_eWhat, c_eSign, m_bank, m_rb, m_codes, m_within, m_piled, m_unitsInRule, m_askStrand, m_askTied, m_thoughtClaim, m_thoughtNeed, m_thoughtAll, c_roundOf, m_acts, m_undone, m_laid, m_firstMove, m_seens, m_time, m_waysNow, m_fitting, hTx, hTm, hAU, hCV, hTT, hTR⟩ := hLI
  have hA : ∀ q : Nat, s.heap.size ≤ q → (fun q : Nat => s.heap.size ≤ q) q := fun _ h => h
  have hAB : ∀ q : Nat, (fun q : Nat => s.heap.size ≤ q) q → s.heap.size ≤ q := fun _ h => h
  have hbA : ¬ (fun q : Nat => s.heap.size ≤ q) b := Nat.not_le.mpr hbl
  refine lv_aload_n hx hb dL_law_632 rfl (lv_at hl 2 rfl) ?_
  obtain ⟨_, _, _, e8, _⟩ := (show okX8 ad tx 0 (f 0) from hTx.1 0 (by decide))
  refine tVI (As := []) (rest := []) (i := 0) ⟨hx, hb, hml, hown, hts⟩ hK hE hP hD hS hA hAB (s_X8_stands_0 l s.heap.size adK adV D cy ad f tx rby rnx f hTx _) (cwV 0 hts gL_law_X8_stands rfl rfl rfl (by decide +kernel) ⟨Nat.le_of_ble_eq_true rfl, Nat.le_of_ble_eq_true rfl⟩) (by decide) 8 e8 rfl rfl hl.1 rfl (Nat.le_of_ble_eq_true rfl) dL_law_633 ⟨Nat.le_of_ble_eq_true rfl, Nat.le_of_ble_eq_true rfl⟩ (fun r1 f H locs hw hP hD hS => ?_)
  obtain ⟨_, hT2⟩ := hw
  obtain ⟨hTx, hTm⟩ := LX_c hT2 hTm
  refine lv_pop hx hb dL_law_636 rfl ?_
  refine lv_aload_n hx hb dL_law_637 rfl (lv_at hl 1 rfl) ?_
  have e8 := (show okX9 ad m_taped m_size m_faultKind m_faultPlace m_at m_end m_token m_number m_name m_bank m_rb m_codes m_within m_piled m_unitsInRule m_askStrand m_askTied m_thoughtClaim m_thoughtNeed m_thoughtAll m_acts m_undone m_laid m_firstMove m_seens m_time m_waysNow m_fitting 148 (f 148) from hTm.1 148 (by decide)).1
  refine tVI (As := []) (rest := []) (i := 148) ⟨hx, hb, hml, hown, hts⟩ hK hE hP hD hS hA hAB (s_X9_stands_0 l s.heap.size adK adV D cy ad f c_text m_taped m_size m_faultKind m_faultPlace m_at m_end m_token m_number m_name c_points c_strands c_units c_told c_ruleFrom c_ruleTo c_code c_eWhat c_eSign m_bank m_rb m_codes m_within m_piled m_unitsInRule m_askStrand m_askTied m_thoughtClaim m_thoughtNeed m_thoughtAll c_roundOf m_acts m_undone m_laid m_firstMove m_seens m_time m_waysNow m_fitting f hTm hCV _) (cwV 0 hts gL_law_X9_stands rfl rfl rfl (by decide +kernel) ⟨Nat.le_of_ble_eq_true rfl, Nat.le_of_ble_eq_true rfl⟩) (by decide) 9 e8 rfl rfl hl.1 rfl (Nat.le_of_ble_eq_true rfl) dL_law_638 ⟨Nat.le_of_ble_eq_true rfl, Nat.le_of_ble_eq_true rfl⟩ (fun r2 f H locs hw hP hD hS => ?_)
  obtain ⟨_, w3, w4, w5, hT2, h6⟩ := hw
  obtain ⟨hTx, hTm⟩ := LX_m hT2 hTx
  refine lv_pop hx hb dL_law_641 rfl ?_
  refine lv_goto (tgt := 1720) hx hb dL_law_642 (by decide) ?_
  exact hk _ _ _ ⟨tx, rby, rnx, c_text, m_taped, m_size, m_faultKind, m_faultPlace, m_at, m_end, m_token, m_number, m_name, c_points, c_strands, c_units, c_told, c_ruleFrom, c_ruleTo, c_code, c_eWhat, c_eSign, m_bank, m_rb, m_codes, m_within, m_piled, m_unitsInRule, w3, w4, m_thoughtClaim, m_thoughtNeed, m_thoughtAll, w5, m_acts, m_undone, m_laid, m_firstMove, m_seens, m_time, m_waysNow, m_fitting, hTx, hTm, by omega, hCV, by omega, by omega⟩ hP hD hS
set_option maxHeartbeats 4000000 in
set_option maxRecDepth 100000 in
theorem lo_15 {p : Program} {e : Env} {s : State} {m : MethodId} {below : List Frame} {meth : Method} {c : Code} {l : Launch} {b L : Nat} {xs : Nat → Int32} {D : va_G} {cy : Nat → ClassId} {ad : Nat → Nat} {adK adV : Nat → Nat} {f : Nat → va_E} {H : Heap} {locs : List Loc} {ls : Array Slot} (C : LX p s m meth c b L xs D cy) (hE : EN s.heap.size adK adV s) (hLI : LI ad cy f) (hP : va_P D vwCl (wl ad f) H) (hD : va_D (fun q : Nat => s.heap.size ≤ q) (wl ad f)) (hS : va_S (fun q : Nat => s.heap.size ≤ q) s.heap H locs) (x : Int32) (hx0 : 0 ≤ x.toInt ∧ x.toInt + 6 ≤ L) (hL : L ≤ 3072) (hl : lv_has ls 4 [(3, .int x), (2, .ref (ad 148)), (1, .ref (ad 0)), (0, .ref b)]) (hk : ∀ (f : Nat → va_E) (H : Heap) (locs : List Loc), LI ad cy f → va_P D vwCl (wl ad f) H → va_D (fun q : Nat => s.heap.size ≤ q) (wl ad f) → va_S (fun q : Nat => s.heap.size ≤ q) s.heap H locs → W p l e room_1 s m #[Value.ref b] below meth c H locs 185 12666 (lw_Z below #[Value.ref b] s) (F0 m 1720 ls [])) : W p l e room_1 s m #[Value.ref b] below meth c H locs 185 12666 (lw_Z below #[Value.ref b] s) (F0 m 645 ls []) := by
  obtain ⟨hx, hb, hr, hlk, hml, hown, hts, hX, hbl, hK⟩ := id C
  obtain ⟨tx, rby, rnx, c_text, m_taped, m_size, m_faultKind, m_faultPlace, m_at, m_end, m_token, m_number, m_name, c_points, c_strands, c_units, c_told, c_ruleFrom, c_ruleTo, c_code, c_eWhat, c_eSign, m_bank, m_rb, m_codes, m_within, m_piled, m_unitsInRule, m_askStrand, m_askTied, m_thoughtClaim, m_thoughtNeed, m_thoughtAll, c_roundOf, m_acts, m_undone, m_laid, m_firstMove, m_seens, m_time, m_waysNow, m_fitting, hTx, hTm, hAU, hCV, hTT, hTR⟩ := hLI
  have hA : ∀ q : Nat, s.heap.size ≤ q → (fun q : Nat => s.heap.size ≤ q) q := fun _ h => h
  have hAB : ∀ q : Nat, (fun q : Nat => s.heap.size ≤ q) q → s.heap.size ≤ q := fun _ h => h
  have hbA : ¬ (fun q : Nat => s.heap.size ≤ q) b := Nat.not_le.mpr hbl
  refine lv_aload_n hx hb dL_law_645 rfl (lv_at hl 2 rfl) ?_
  obtain ⟨_, _, _, e8, _⟩ := (show okX8 ad tx 0 (f 0) from hTx.1 0 (by decide))
  refine tVI (As := []) (rest := []) (i := 0) ⟨hx, hb, hml, hown, hts⟩ hK hE hP hD hS hA hAB (s_X8_tight_0 l s.heap.size adK adV D cy ad f tx rby rnx f hTx _) (cwV 0 hts gL_law_X8_tight rfl rfl rfl (by decide +kernel) ⟨Nat.le_of_ble_eq_true rfl, Nat.le_of_ble_eq_true rfl⟩) (by decide) 8 e8 rfl rfl hl.1 rfl (Nat.le_of_ble_eq_true rfl) dL_law_646 ⟨Nat.le_of_ble_eq_true rfl, Nat.le_of_ble_eq_true rfl⟩ (fun r1 f H locs hw hP hD hS => ?_)
  obtain ⟨_, hT2⟩ := hw
  obtain ⟨hTx, hTm⟩ := LX_c hT2 hTm
  refine lv_pop hx hb dL_law_649 rfl ?_
  refine lv_aload_n hx hb dL_law_650 rfl (lv_at hl 1 rfl) ?_
  have e8 := (show okX9 ad m_taped m_size m_faultKind m_faultPlace m_at m_end m_token m_number m_name m_bank m_rb m_codes m_within m_piled m_unitsInRule m_askStrand m_askTied m_thoughtClaim m_thoughtNeed m_thoughtAll m_acts m_undone m_laid m_firstMove m_seens m_time m_waysNow m_fitting 148 (f 148) from hTm.1 148 (by decide)).1
  refine tVI (As := []) (rest := []) (i := 148) ⟨hx, hb, hml, hown, hts⟩ hK hE hP hD hS hA hAB (s_X9_tight_0 l s.heap.size adK adV D cy ad f c_text m_taped m_size m_faultKind m_faultPlace m_at m_end m_token m_number m_name c_points c_strands c_units c_told c_ruleFrom c_ruleTo c_code c_eWhat c_eSign m_bank m_rb m_codes m_within m_piled m_unitsInRule m_askStrand m_askTied m_thoughtClaim m_thoughtNeed m_thoughtAll c_roundOf m_acts m_undone m_laid m_firstMove m_seens m_time m_waysNow m_fitting f hTm hCV _) (cwV 0 hts gL_law_X9_tight rfl rfl rfl (by decide +kernel) ⟨Nat.le_of_ble_eq_true rfl, Nat.le_of_ble_eq_true rfl⟩) (by decide) 9 e8 rfl rfl hl.1 rfl (Nat.le_of_ble_eq_true rfl) dL_law_651 ⟨Nat.le_of_ble_eq_true rfl, Nat.le_of_ble_eq_true rfl⟩ (fun r2 f H locs hw hP hD hS => ?_)
  obtain ⟨_, w3, w4, hT2, h5⟩ := hw
  obtain ⟨hTx, hTm⟩ := LX_m hT2 hTx
  refine lv_pop hx hb dL_law_654 rfl ?_
  refine lv_goto (tgt := 1720) hx hb dL_law_655 (by decide) ?_
  exact hk _ _ _ ⟨tx, rby, rnx, c_text, m_taped, m_size, m_faultKind, m_faultPlace, m_at, m_end, m_token, m_number, m_name, c_points, c_strands, c_units, c_told, c_ruleFrom, c_ruleTo, c_code, c_eWhat, c_eSign, m_bank, m_rb, m_codes, m_within, m_piled, m_unitsInRule, w3, w4, m_thoughtClaim, m_thoughtNeed, m_thoughtAll, c_roundOf, m_acts, m_undone, m_laid, m_firstMove, m_seens, m_time, m_waysNow, m_fitting, hTx, hTm, by omega, hCV, by omega, by omega⟩ hP hD hS
set_option maxHeartbeats 4000000 in
set_option maxRecDepth 100000 in
theorem lo_16 {p : Program} {e : Env} {s : State} {m : MethodId} {below : List Frame} {meth : Method} {c : Code} {l : Launch} {b L : Nat} {xs : Nat → Int32} {D : va_G} {cy : Nat → ClassId} {ad : Nat → Nat} {adK adV : Nat → Nat} {f : Nat → va_E} {H : Heap} {locs : List Loc} {ls : Array Slot} (C : LX p s m meth c b L xs D cy) (hE : EN s.heap.size adK adV s) (hLI : LI ad cy f) (hP : va_P D vwCl (wl ad f) H) (hD : va_D (fun q : Nat => s.heap.size ≤ q) (wl ad f)) (hS : va_S (fun q : Nat => s.heap.size ≤ q) s.heap H locs) (x : Int32) (hx0 : 0 ≤ x.toInt ∧ x.toInt + 6 ≤ L) (hL : L ≤ 3072) (hl : lv_has ls 4 [(3, .int x), (2, .ref (ad 148)), (1, .ref (ad 0)), (0, .ref b)]) (hk : ∀ (f : Nat → va_E) (H : Heap) (locs : List Loc), LI ad cy f → va_P D vwCl (wl ad f) H → va_D (fun q : Nat => s.heap.size ≤ q) (wl ad f) → va_S (fun q : Nat => s.heap.size ≤ q) s.heap H locs → W p l e room_1 s m #[Value.ref b] below meth c H locs 185 12666 (lw_Z below #[Value.ref b] s) (F0 m 1720 ls [])) : W p l e room_1 s m #[Value.ref b] below meth c H locs 185 12666 (lw_Z below #[Value.ref b] s) (F0 m 658 ls []) := by
  obtain ⟨hx, hb, hr, hlk, hml, hown, hts, hX, hbl, hK⟩ := id C
  obtain ⟨tx, rby, rnx, c_text, m_taped, m_size, m_faultKind, m_faultPlace, m_at, m_end, m_token, m_number, m_name, c_points, c_strands, c_units, c_told, c_ruleFrom, c_ruleTo, c_code, c_eWhat, c_eSign, m_bank, m_rb, m_codes, m_within, m_piled, m_unitsInRule, m_askStrand, m_askTied, m_thoughtClaim, m_thoughtNeed, m_thoughtAll, c_roundOf, m_acts, m_undone, m_laid, m_firstMove, m_seens, m_time, m_waysNow, m_fitting, hTx, hTm, hAU, hCV, hTT, hTR⟩ := hLI
  have hA : ∀ q : Nat, s.heap.size ≤ q → (fun q : Nat => s.heap.size ≤ q) q := fun _ h => h
  have hAB : ∀ q : Nat, (fun q : Nat => s.heap.size ≤ q) q → s.heap.size ≤ q := fun _ h => h
  have hbA : ¬ (fun q : Nat => s.heap.size ≤ q) b := Nat.not_le.mpr hbl
  refine lv_aload_n hx hb dL_law_658 rfl (lv_at hl 2 rfl) ?_
  obtain ⟨_, _, _, e8, _⟩ := (show okX8 ad tx 0 (f 0) from hTx.1 0 (by decide))
  refine tVI (As := []) (rest := []) (i := 0) ⟨hx, hb, hml, hown, hts⟩ hK hE hP hD hS hA hAB (s_X8_hollow_0 l s.heap.size adK adV D cy ad f tx rby rnx f hTx _) (cwV 0 hts gL_law_X8_hollow rfl rfl rfl (by decide +kernel) ⟨Nat.le_of_ble_eq_true rfl, Nat.le_of_ble_eq_true rfl⟩) (by decide) 8 e8 rfl rfl hl.1 rfl (Nat.le_of_ble_eq_true rfl) dL_law_659 ⟨Nat.le_of_ble_eq_true rfl, Nat.le_of_ble_eq_true rfl⟩ (fun r1 f H locs hw hP hD hS => ?_)
  obtain ⟨_, hT2⟩ := hw
  obtain ⟨hTx, hTm⟩ := LX_c hT2 hTm
  refine lv_pop hx hb dL_law_662 rfl ?_
  refine lv_aload_n hx hb dL_law_663 rfl (lv_at hl 1 rfl) ?_
  have e8 := (show okX9 ad m_taped m_size m_faultKind m_faultPlace m_at m_end m_token m_number m_name m_bank m_rb m_codes m_within m_piled m_unitsInRule m_askStrand m_askTied m_thoughtClaim m_thoughtNeed m_thoughtAll m_acts m_undone m_laid m_firstMove m_seens m_time m_waysNow m_fitting 148 (f 148) from hTm.1 148 (by decide)).1
  refine tVI (As := []) (rest := []) (i := 148) ⟨hx, hb, hml, hown, hts⟩ hK hE hP hD hS hA hAB (s_X9_hollow_0 l s.heap.size adK adV D cy ad f c_text m_taped m_size m_faultKind m_faultPlace m_at m_end m_token m_number m_name c_points c_strands c_units c_told c_ruleFrom c_ruleTo c_code c_eWhat c_eSign m_bank m_rb m_codes m_within m_piled m_unitsInRule m_askStrand m_askTied m_thoughtClaim m_thoughtNeed m_thoughtAll c_roundOf m_acts m_undone m_laid m_firstMove m_seens m_time m_waysNow m_fitting f hTm hCV _) (cwV 0 hts gL_law_X9_hollow rfl rfl rfl (by decide +kernel) ⟨Nat.le_of_ble_eq_true rfl, Nat.le_of_ble_eq_true rfl⟩) (by decide) 9 e8 rfl rfl hl.1 rfl (Nat.le_of_ble_eq_true rfl) dL_law_664 ⟨Nat.le_of_ble_eq_true rfl, Nat.le_of_ble_eq_true rfl⟩ (fun r2 f H locs hw hP hD hS => ?_)
  obtain ⟨_, w3, w4, w5, hT2, h6⟩ := hw
  obtain ⟨hTx, hTm⟩ := LX_m hT2 hTx
  refine lv_pop hx hb dL_law_667 rfl ?_
  refine lv_goto (tgt := 1720) hx hb dL_law_668 (by decide) ?_
  exact hk _ _ _ ⟨tx, rby, rnx, c_text, m_taped, m_size, m_faultKind, m_faultPlace, m_at, m_end, m_token, m_number, m_name, c_points, c_strands, c_units, c_told, c_ruleFrom, c_ruleTo, c_code, c_eWhat, c_eSign, m_bank, m_rb, m_codes, m_within, m_piled, m_unitsInRule, w3, w4, m_thoughtClaim, m_thoughtNeed, m_thoughtAll, w5, m_acts, m_undone, m_laid, m_firstMove, m_seens, m_time, m_waysNow, m_fitting, hTx, hTm, by omega, hCV, by omega, by omega⟩ hP hD hS
set_option maxHeartbeats 4000000 in
set_option maxRecDepth 100000 in
theorem lo_17 {p : Program} {e : Env} {s : State} {m : MethodId} {below : List Frame} {meth : Method} {c : Code} {l : Launch} {b L : Nat} {xs : Nat → Int32} {D : va_G} {cy : Nat → ClassId} {ad : Nat → Nat} {adK adV : Nat → Nat} {f : Nat → va_E} {H : Heap} {locs : List Loc} {ls : Array Slot} (C : LX p s m meth c b L xs D cy) (hE : EN s.heap.size adK adV s) (hLI : LI ad cy f) (hP : va_P D vwCl (wl ad f) H) (hD : va_D (fun q : Nat => s.heap.size ≤ q) (wl ad f)) (hS : va_S (fun q : Nat => s.heap.size ≤ q) s.heap H locs) (x : Int32) (hx0 : 0 ≤ x.toInt ∧ x.toInt + 6 ≤ L) (hL : L ≤ 3072) (hl : lv_has ls 4 [(3, .int x), (2, .ref (ad 148)), (1, .ref (ad 0)), (0, .ref b)]) (hk : ∀ (f : Nat → va_E) (H : Heap) (locs : List Loc), LI ad cy f → va_P D vwCl (wl ad f) H → va_D (fun q : Nat => s.heap.size ≤ q) (wl ad f) → va_S (fun q : Nat => s.heap.size ≤ q) s.heap H locs → W p l e room_1 s m #[Value.ref b] below meth c H locs 185 12666 (lw_Z below #[Value.ref b] s) (F0 m 1720 ls [])) : W p l e room_1 s m #[Value.ref b] below meth c H locs 185 12666 (lw_Z below #[Value.ref b] s) (F0 m 671 ls []) := by
  obtain ⟨hx, hb, hr, hlk, hml, hown, hts, hX, hbl, hK⟩ := id C
  obtain ⟨tx, rby, rnx, c_text, m_taped, m_size, m_faultKind, m_faultPlace, m_at, m_end, m_token, m_number, m_name, c_points, c_strands, c_units, c_told, c_ruleFrom, c_ruleTo, c_code, c_eWhat, c_eSign, m_bank, m_rb, m_codes, m_within, m_piled, m_unitsInRule, m_askStrand, m_askTied, m_thoughtClaim, m_thoughtNeed, m_thoughtAll, c_roundOf, m_acts, m_undone, m_laid, m_firstMove, m_seens, m_time, m_waysNow, m_fitting, hTx, hTm, hAU, hCV, hTT, hTR⟩ := hLI
  have hA : ∀ q : Nat, s.heap.size ≤ q → (fun q : Nat => s.heap.size ≤ q) q := fun _ h => h
  have hAB : ∀ q : Nat, (fun q : Nat => s.heap.size ≤ q) q → s.heap.size ≤ q := fun _ h => h
  have hbA : ¬ (fun q : Nat => s.heap.size ≤ q) b := Nat.not_le.mpr hbl
  refine lv_aload_n hx hb dL_law_671 rfl (lv_at hl 2 rfl) ?_
  refine lv_aload_n hx hb dL_law_672 rfl (lv_at hl 3 rfl) ?_
  refine lv_iload_n hx hb dL_law_673 rfl (lv_at hl 0 rfl) ?_
  refine lv_iconst (v := 1) hx hb dL_law_674 (by decide) ?_
  refine lv_iadd hx hb dL_law_675 ?_
  refine lv_topi (fun y1 ey1 => ?_)
  have ty1 := tl_1
  have hy1 := r_add ey1 (by omega) (by omega)
  refine va_sld hx hb hX hbl hbA hS (vp_in_iff.mpr ⟨by omega, by omega⟩) dL_law_676 ?_
  refine lv_topi (fun z2 _ => ?_)
  refine lv_aload_n hx hb dL_law_677 rfl (lv_at hl 3 rfl) ?_
  refine lv_iload_n hx hb dL_law_678 rfl (lv_at hl 0 rfl) ?_
  refine lv_iconst (v := 2) hx hb dL_law_679 (by decide) ?_
  refine lv_iadd hx hb dL_law_680 ?_
  refine lv_topi (fun y3 ey3 => ?_)
  have ty3 := tl_2
  have hy3 := r_add ey3 (by omega) (by omega)
  refine va_sld hx hb hX hbl hbA hS (vp_in_iff.mpr ⟨by omega, by omega⟩) dL_law_681 ?_
  refine lv_topi (fun z4 _ => ?_)
  obtain ⟨_, _, _, e8, _⟩ := (show okX8 ad tx 0 (f 0) from hTx.1 0 (by decide))
  refine tVI (As := [.int z2, .int z4]) (rest := []) (i := 0) ⟨hx, hb, hml, hown, hts⟩ hK hE hP hD hS hA hAB (s_X8_will_0 l s.heap.size adK adV D cy ad f tx rby rnx f hTx z2 z4 _) (cwV 2 hts gL_law_X8_will rfl rfl rfl (by decide +kernel) ⟨Nat.le_of_ble_eq_true rfl, Nat.le_of_ble_eq_true rfl⟩) (by decide) 8 e8 rfl rfl hl.1 rfl (Nat.le_of_ble_eq_true rfl) dL_law_682 ⟨Nat.le_of_ble_eq_true rfl, Nat.le_of_ble_eq_true rfl⟩ (fun r5 f H locs hw hP hD hS => ?_)
  obtain ⟨_, hT2⟩ := hw
  obtain ⟨hTx, hTm⟩ := LX_c hT2 hTm
  refine lv_pop hx hb dL_law_685 rfl ?_
  refine lv_aload_n hx hb dL_law_686 rfl (lv_at hl 1 rfl) ?_
  refine lv_aload_n hx hb dL_law_687 rfl (lv_at hl 3 rfl) ?_
  refine lv_iload_n hx hb dL_law_688 rfl (lv_at hl 0 rfl) ?_
  refine lv_iconst (v := 1) hx hb dL_law_689 (by decide) ?_
  refine lv_iadd hx hb dL_law_690 ?_
  refine lv_topi (fun y6 ey6 => ?_)
  have ty6 := tl_1
  have hy6 := r_add ey6 (by omega) (by omega)
  refine va_sld hx hb hX hbl hbA hS (vp_in_iff.mpr ⟨by omega, by omega⟩) dL_law_691 ?_
  refine lv_topi (fun z7 _ => ?_)
  refine lv_aload_n hx hb dL_law_692 rfl (lv_at hl 3 rfl) ?_
  refine lv_iload_n hx hb dL_law_693 rfl (lv_at hl 0 rfl) ?_
  refine lv_iconst (v := 2) hx hb dL_law_694 (by decide) ?_
  refine lv_iadd hx hb dL_law_695 ?_
  refine lv_topi (fun y8 ey8 => ?_)
  have ty8 := tl_2
  have hy8 := r_add ey8 (by omega) (by omega)
  refine va_sld hx hb hX hbl hbA hS (vp_in_iff.mpr ⟨by omega, by omega⟩) dL_law_696 ?_
  refine lv_topi (fun z9 _ => ?_)
  have e8 := (show okX9 ad m_taped m_size m_faultKind m_faultPlace m_at m_end m_token m_number m_name m_bank m_rb m_codes m_within m_piled m_unitsInRule m_askStrand m_askTied m_thoughtClaim m_thoughtNeed m_thoughtAll m_acts m_undone m_laid m_firstMove m_seens m_time m_waysNow m_fitting 148 (f 148) from hTm.1 148 (by decide)).1
  refine tVI (As := [.int z7, .int z9]) (rest := []) (i := 148) ⟨hx, hb, hml, hown, hts⟩ hK hE hP hD hS hA hAB (s_X9_will_0 l s.heap.size adK adV D cy ad f c_text m_taped m_size m_faultKind m_faultPlace m_at m_end m_token m_number m_name c_points c_strands c_units c_told c_ruleFrom c_ruleTo c_code c_eWhat c_eSign m_bank m_rb m_codes m_within m_piled m_unitsInRule m_askStrand m_askTied m_thoughtClaim m_thoughtNeed m_thoughtAll c_roundOf m_acts m_undone m_laid m_firstMove m_seens m_time m_waysNow m_fitting f hTm z7 z9 hCV _) (cwV 2 hts gL_law_X9_will rfl rfl rfl (by decide +kernel) ⟨Nat.le_of_ble_eq_true rfl, Nat.le_of_ble_eq_true rfl⟩) (by decide) 9 e8 rfl rfl hl.1 rfl (Nat.le_of_ble_eq_true rfl) dL_law_697 ⟨Nat.le_of_ble_eq_true rfl, Nat.le_of_ble_eq_true rfl⟩ (fun r10 f H locs hw hP hD hS => ?_)
  obtain ⟨_, w11, w12, w13, hT2⟩ := hw
  obtain ⟨hTx, hTm⟩ := LX_m hT2 hTx
  refine lv_pop hx hb dL_law_700 rfl ?_
  refine lv_goto (tgt := 1720) hx hb dL_law_701 (by decide) ?_
  exact hk _ _ _ ⟨tx, rby, rnx, c_text, m_taped, m_size, m_faultKind, m_faultPlace, m_at, m_end, m_token, m_number, m_name, c_points, c_strands, c_units, c_told, c_ruleFrom, c_ruleTo, c_code, c_eWhat, c_eSign, m_bank, m_rb, m_codes, m_within, m_piled, m_unitsInRule, w11, w12, m_thoughtClaim, m_thoughtNeed, m_thoughtAll, w13, m_acts, m_undone, m_laid, m_firstMove, m_seens, m_time, m_waysNow, m_fitting, hTx, hTm, by omega, hCV, by omega, by omega⟩ hP hD hS
set_option maxHeartbeats 4000000 in
set_option maxRecDepth 100000 in
theorem lo_18 {p : Program} {e : Env} {s : State} {m : MethodId} {below : List Frame} {meth : Method} {c : Code} {l : Launch} {b L : Nat} {xs : Nat → Int32} {D : va_G} {cy : Nat → ClassId} {ad : Nat → Nat} {adK adV : Nat → Nat} {f : Nat → va_E} {H : Heap} {locs : List Loc} {ls : Array Slot} (C : LX p s m meth c b L xs D cy) (hE : EN s.heap.size adK adV s) (hLI : LI ad cy f) (hP : va_P D vwCl (wl ad f) H) (hD : va_D (fun q : Nat => s.heap.size ≤ q) (wl ad f)) (hS : va_S (fun q : Nat => s.heap.size ≤ q) s.heap H locs) (x : Int32) (hx0 : 0 ≤ x.toInt ∧ x.toInt + 6 ≤ L) (hL : L ≤ 3072) (hl : lv_has ls 4 [(3, .int x), (2, .ref (ad 148)), (1, .ref (ad 0)), (0, .ref b)]) (hk : ∀ (f : Nat → va_E) (H : Heap) (locs : List Loc), LI ad cy f → va_P D vwCl (wl ad f) H → va_D (fun q : Nat => s.heap.size ≤ q) (wl ad f) → va_S (fun q : Nat => s.heap.size ≤ q) s.heap H locs → W p l e room_1 s m #[Value.ref b] below meth c H locs 185 12666 (lw_Z below #[Value.ref b] s) (F0 m 1720 ls [])) : W p l e room_1 s m #[Value.ref b] below meth c H locs 185 12666 (lw_Z below #[Value.ref b] s) (F0 m 704 ls []) := by
  obtain ⟨hx, hb, hr, hlk, hml, hown, hts, hX, hbl, hK⟩ := id C
  obtain ⟨tx, rby, rnx, c_text, m_taped, m_size, m_faultKind, m_faultPlace, m_at, m_end, m_token, m_number, m_name, c_points, c_strands, c_units, c_told, c_ruleFrom, c_ruleTo, c_code, c_eWhat, c_eSign, m_bank, m_rb, m_codes, m_within, m_piled, m_unitsInRule, m_askStrand, m_askTied, m_thoughtClaim, m_thoughtNeed, m_thoughtAll, c_roundOf, m_acts, m_undone, m_laid, m_firstMove, m_seens, m_time, m_waysNow, m_fitting, hTx, hTm, hAU, hCV, hTT, hTR⟩ := hLI
  have hA : ∀ q : Nat, s.heap.size ≤ q → (fun q : Nat => s.heap.size ≤ q) q := fun _ h => h
  have hAB : ∀ q : Nat, (fun q : Nat => s.heap.size ≤ q) q → s.heap.size ≤ q := fun _ h => h
  have hbA : ¬ (fun q : Nat => s.heap.size ≤ q) b := Nat.not_le.mpr hbl
  refine lv_aload_n hx hb dL_law_704 rfl (lv_at hl 2 rfl) ?_
  refine lv_aload_n hx hb dL_law_705 rfl (lv_at hl 3 rfl) ?_
  refine lv_iload_n hx hb dL_law_706 rfl (lv_at hl 0 rfl) ?_
  refine lv_iconst (v := 1) hx hb dL_law_707 (by decide) ?_
  refine lv_iadd hx hb dL_law_708 ?_
  refine lv_topi (fun y1 ey1 => ?_)
  have ty1 := tl_1
  have hy1 := r_add ey1 (by omega) (by omega)
  refine va_sld hx hb hX hbl hbA hS (vp_in_iff.mpr ⟨by omega, by omega⟩) dL_law_709 ?_
  refine lv_topi (fun z2 _ => ?_)
  refine lv_aload_n hx hb dL_law_710 rfl (lv_at hl 3 rfl) ?_
  refine lv_iload_n hx hb dL_law_711 rfl (lv_at hl 0 rfl) ?_
  refine lv_iconst (v := 2) hx hb dL_law_712 (by decide) ?_
  refine lv_iadd hx hb dL_law_713 ?_
  refine lv_topi (fun y3 ey3 => ?_)
  have ty3 := tl_2
  have hy3 := r_add ey3 (by omega) (by omega)
  refine va_sld hx hb hX hbl hbA hS (vp_in_iff.mpr ⟨by omega, by omega⟩) dL_law_714 ?_
  refine lv_topi (fun z4 _ => ?_)
  obtain ⟨_, _, _, e8, _⟩ := (show okX8 ad tx 0 (f 0) from hTx.1 0 (by decide))
  refine tVI (As := [.int z2, .int z4]) (rest := []) (i := 0) ⟨hx, hb, hml, hown, hts⟩ hK hE hP hD hS hA hAB (s_X8_topple_0 l s.heap.size adK adV D cy ad f tx rby rnx f hTx z2 z4 _) (cwV 2 hts gL_law_X8_topple rfl rfl rfl (by decide +kernel) ⟨Nat.le_of_ble_eq_true rfl, Nat.le_of_ble_eq_true rfl⟩) (by decide) 8 e8 rfl rfl hl.1 rfl (Nat.le_of_ble_eq_true rfl) dL_law_715 ⟨Nat.le_of_ble_eq_true rfl, Nat.le_of_ble_eq_true rfl⟩ (fun r5 f H locs hw hP hD hS => ?_)
  obtain ⟨_, hT2⟩ := hw
  obtain ⟨hTx, hTm⟩ := LX_c hT2 hTm
  refine lv_pop hx hb dL_law_718 rfl ?_
  refine lv_aload_n hx hb dL_law_719 rfl (lv_at hl 1 rfl) ?_
  refine lv_aload_n hx hb dL_law_720 rfl (lv_at hl 3 rfl) ?_
  refine lv_iload_n hx hb dL_law_721 rfl (lv_at hl 0 rfl) ?_
  refine lv_iconst (v := 1) hx hb dL_law_722 (by decide) ?_
  refine lv_iadd hx hb dL_law_723 ?_
  refine lv_topi (fun y6 ey6 => ?_)
  have ty6 := tl_1
  have hy6 := r_add ey6 (by omega) (by omega)
  refine va_sld hx hb hX hbl hbA hS (vp_in_iff.mpr ⟨by omega, by omega⟩) dL_law_724 ?_
  refine lv_topi (fun z7 _ => ?_)
  refine lv_aload_n hx hb dL_law_725 rfl (lv_at hl 3 rfl) ?_
  refine lv_iload_n hx hb dL_law_726 rfl (lv_at hl 0 rfl) ?_
  refine lv_iconst (v := 2) hx hb dL_law_727 (by decide) ?_
  refine lv_iadd hx hb dL_law_728 ?_
  refine lv_topi (fun y8 ey8 => ?_)
  have ty8 := tl_2
  have hy8 := r_add ey8 (by omega) (by omega)
  refine va_sld hx hb hX hbl hbA hS (vp_in_iff.mpr ⟨by omega, by omega⟩) dL_law_729 ?_
  refine lv_topi (fun z9 _ => ?_)
  have e8 := (show okX9 ad m_taped m_size m_faultKind m_faultPlace m_at m_end m_token m_number m_name m_bank m_rb m_codes m_within m_piled m_unitsInRule m_askStrand m_askTied m_thoughtClaim m_thoughtNeed m_thoughtAll m_acts m_undone m_laid m_firstMove m_seens m_time m_waysNow m_fitting 148 (f 148) from hTm.1 148 (by decide)).1
  refine tVI (As := [.int z7, .int z9]) (rest := []) (i := 148) ⟨hx, hb, hml, hown, hts⟩ hK hE hP hD hS hA hAB (s_X9_topple_0 l s.heap.size adK adV D cy ad f c_text m_taped m_size m_faultKind m_faultPlace m_at m_end m_token m_number m_name c_points c_strands c_units c_told c_ruleFrom c_ruleTo c_code c_eWhat c_eSign m_bank m_rb m_codes m_within m_piled m_unitsInRule m_askStrand m_askTied m_thoughtClaim m_thoughtNeed m_thoughtAll c_roundOf m_acts m_undone m_laid m_firstMove m_seens m_time m_waysNow m_fitting f hTm z7 z9 hCV _) (cwV 2 hts gL_law_X9_topple rfl rfl rfl (by decide +kernel) ⟨Nat.le_of_ble_eq_true rfl, Nat.le_of_ble_eq_true rfl⟩) (by decide) 9 e8 rfl rfl hl.1 rfl (Nat.le_of_ble_eq_true rfl) dL_law_730 ⟨Nat.le_of_ble_eq_true rfl, Nat.le_of_ble_eq_true rfl⟩ (fun r10 f H locs hw hP hD hS => ?_)
  obtain ⟨_, w11, w12, w13, hT2⟩ := hw
  obtain ⟨hTx, hTm⟩ := LX_m hT2 hTx
  refine lv_pop hx hb dL_law_733 rfl ?_
  refine lv_goto (tgt := 1720) hx hb dL_law_734 (by decide) ?_
  exact hk _ _ _ ⟨tx, rby, rnx, c_text, m_taped, m_size, m_faultKind, m_faultPlace, m_at, m_end, m_token, m_number, m_name, c_points, c_strands, c_units, c_told, c_ruleFrom, c_ruleTo, c_code, c_eWhat, c_eSign, m_bank, m_rb, m_codes, m_within, m_piled, m_unitsInRule, w11, w12, m_thoughtClaim, m_thoughtNeed, m_thoughtAll, w13, m_acts, m_undone, m_laid, m_firstMove, m_seens, m_time, m_waysNow, m_fitting, hTx, hTm, by omega, hCV, by omega, by omega⟩ hP hD hS
set_option maxHeartbeats 4000000 in
set_option maxRecDepth 100000 in
theorem lo_19 {p : Program} {e : Env} {s : State} {m : MethodId} {below : List Frame} {meth : Method} {c : Code} {l : Launch} {b L : Nat} {xs : Nat → Int32} {D : va_G} {cy : Nat → ClassId} {ad : Nat → Nat} {adK adV : Nat → Nat} {f : Nat → va_E} {H : Heap} {locs : List Loc} {ls : Array Slot} (C : LX p s m meth c b L xs D cy) (hE : EN s.heap.size adK adV s) (hLI : LI ad cy f) (hP : va_P D vwCl (wl ad f) H) (hD : va_D (fun q : Nat => s.heap.size ≤ q) (wl ad f)) (hS : va_S (fun q : Nat => s.heap.size ≤ q) s.heap H locs) (x : Int32) (hx0 : 0 ≤ x.toInt ∧ x.toInt + 6 ≤ L) (hL : L ≤ 3072) (hl : lv_has ls 4 [(3, .int x), (2, .ref (ad 148)), (1, .ref (ad 0)), (0, .ref b)]) (hk : ∀ (f : Nat → va_E) (H : Heap) (locs : List Loc), LI ad cy f → va_P D vwCl (wl ad f) H → va_D (fun q : Nat => s.heap.size ≤ q) (wl ad f) → va_S (fun q : Nat => s.heap.size ≤ q) s.heap H locs → W p l e room_1 s m #[Value.ref b] below meth c H locs 185 12666 (lw_Z below #[Value.ref b] s) (F0 m 1720 ls [])) : W p l e room_1 s m #[Value.ref b] below meth c H locs 185 12666 (lw_Z below #[Value.ref b] s) (F0 m 737 ls []) := by
  obtain ⟨hx, hb, hr, hlk, hml, hown, hts, hX, hbl, hK⟩ := id C
  obtain ⟨tx, rby, rnx, c_text, m_taped, m_size, m_faultKind, m_faultPlace, m_at, m_end, m_token, m_number, m_name, c_points, c_strands, c_units, c_told, c_ruleFrom, c_ruleTo, c_code, c_eWhat, c_eSign, m_bank, m_rb, m_codes, m_within, m_piled, m_unitsInRule, m_askStrand, m_askTied, m_thoughtClaim, m_thoughtNeed, m_thoughtAll, c_roundOf, m_acts, m_undone, m_laid, m_firstMove, m_seens, m_time, m_waysNow, m_fitting, hTx, hTm, hAU, hCV, hTT, hTR⟩ := hLI
  have hA : ∀ q : Nat, s.heap.size ≤ q → (fun q : Nat => s.heap.size ≤ q) q := fun _ h => h
  have hAB : ∀ q : Nat, (fun q : Nat => s.heap.size ≤ q) q → s.heap.size ≤ q := fun _ h => h
  have hbA : ¬ (fun q : Nat => s.heap.size ≤ q) b := Nat.not_le.mpr hbl
  refine lv_aload_n hx hb dL_law_737 rfl (lv_at hl 2 rfl) ?_
  refine lv_aload_n hx hb dL_law_738 rfl (lv_at hl 3 rfl) ?_
  refine lv_iload_n hx hb dL_law_739 rfl (lv_at hl 0 rfl) ?_
  refine lv_iconst (v := 1) hx hb dL_law_740 (by decide) ?_
  refine lv_iadd hx hb dL_law_741 ?_
  refine lv_topi (fun y1 ey1 => ?_)
  have ty1 := tl_1
  have hy1 := r_add ey1 (by omega) (by omega)
  refine va_sld hx hb hX hbl hbA hS (vp_in_iff.mpr ⟨by omega, by omega⟩) dL_law_742 ?_
  refine lv_topi (fun z2 _ => ?_)
  refine lv_aload_n hx hb dL_law_743 rfl (lv_at hl 3 rfl) ?_
  refine lv_iload_n hx hb dL_law_744 rfl (lv_at hl 0 rfl) ?_
  refine lv_iconst (v := 2) hx hb dL_law_745 (by decide) ?_
  refine lv_iadd hx hb dL_law_746 ?_
  refine lv_topi (fun y3 ey3 => ?_)
  have ty3 := tl_2
  have hy3 := r_add ey3 (by omega) (by omega)
  refine va_sld hx hb hX hbl hbA hS (vp_in_iff.mpr ⟨by omega, by omega⟩) dL_law_747 ?_
  refine lv_topi (fun z4 _ => ?_)
  obtain ⟨_, _, _, e8, _⟩ := (show okX8 ad tx 0 (f 0) from hTx.1 0 (by decide))
  refine tVI (As := [.int z2, .int z4]) (rest := []) (i := 0) ⟨hx, hb, hml, hown, hts⟩ hK hE hP hD hS hA hAB (s_X8_prop_0 l s.heap.size adK adV D cy ad f tx rby rnx f hTx z2 z4 _) (cwV 2 hts gL_law_X8_prop rfl rfl rfl (by decide +kernel) ⟨Nat.le_of_ble_eq_true rfl, Nat.le_of_ble_eq_true rfl⟩) (by decide) 8 e8 rfl rfl hl.1 rfl (Nat.le_of_ble_eq_true rfl) dL_law_748 ⟨Nat.le_of_ble_eq_true rfl, Nat.le_of_ble_eq_true rfl⟩ (fun r5 f H locs hw hP hD hS => ?_)
  obtain ⟨_, hT2⟩ := hw
  obtain ⟨hTx, hTm⟩ := LX_c hT2 hTm
  refine lv_pop hx hb dL_law_751 rfl ?_
  refine lv_aload_n hx hb dL_law_752 rfl (lv_at hl 1 rfl) ?_
  refine lv_aload_n hx hb dL_law_753 rfl (lv_at hl 3 rfl) ?_
  refine lv_iload_n hx hb dL_law_754 rfl (lv_at hl 0 rfl) ?_
  refine lv_iconst (v := 1) hx hb dL_law_755 (by decide) ?_
  refine lv_iadd hx hb dL_law_756 ?_
  refine lv_topi (fun y6 ey6 => ?_)
  have ty6 := tl_1
  have hy6 := r_add ey6 (by omega) (by omega)
  refine va_sld hx hb hX hbl hbA hS (vp_in_iff.mpr ⟨by omega, by omega⟩) dL_law_757 ?_
  refine lv_topi (fun z7 _ => ?_)
  refine lv_aload_n hx hb dL_law_758 rfl (lv_at hl 3 rfl) ?_
  refine lv_iload_n hx hb dL_law_759 rfl (lv_at hl 0 rfl) ?_
  refine lv_iconst (v := 2) hx hb dL_law_760 (by decide) ?_
  refine lv_iadd hx hb dL_law_761 ?_
  refine lv_topi (fun y8 ey8 => ?_)
  have ty8 := tl_2
  have hy8 := r_add ey8 (by omega) (by omega)
  refine va_sld hx hb hX hbl hbA hS (vp_in_iff.mpr ⟨by omega, by omega⟩) dL_law_762 ?_
  refine lv_topi (fun z9 _ => ?_)
  have e8 := (show okX9 ad m_taped m_size m_faultKind m_faultPlace m_at m_end m_token m_number m_name m_bank m_rb m_codes m_within m_piled m_unitsInRule m_askStrand m_askTied m_thoughtClaim m_thoughtNeed m_thoughtAll m_acts m_undone m_laid m_firstMove m_seens m_time m_waysNow m_fitting 148 (f 148) from hTm.1 148 (by decide)).1
  refine tVI (As := [.int z7, .int z9]) (rest := []) (i := 148) ⟨hx, hb, hml, hown, hts⟩ hK hE hP hD hS hA hAB (s_X9_prop_0 l s.heap.size adK adV D cy ad f c_text m_taped m_size m_faultKind m_faultPlace m_at m_end m_token m_number m_name c_points c_strands c_units c_told c_ruleFrom c_ruleTo c_code c_eWhat c_eSign m_bank m_rb m_codes m_within m_piled m_unitsInRule m_askStrand m_askTied m_thoughtClaim m_thoughtNeed m_thoughtAll c_roundOf m_acts m_undone m_laid m_firstMove m_seens m_time m_waysNow m_fitting f hTm z7 z9 hCV _) (cwV 2 hts gL_law_X9_prop rfl rfl rfl (by decide +kernel) ⟨Nat.le_of_ble_eq_true rfl, Nat.le_of_ble_eq_true rfl⟩) (by decide) 9 e8 rfl rfl hl.1 rfl (Nat.le_of_ble_eq_true rfl) dL_law_763 ⟨Nat.le_of_ble_eq_true rfl, Nat.le_of_ble_eq_true rfl⟩ (fun r10 f H locs hw hP hD hS => ?_)
  obtain ⟨_, w11, w12, w13, hT2⟩ := hw
  obtain ⟨hTx, hTm⟩ := LX_m hT2 hTx
  refine lv_pop hx hb dL_law_766 rfl ?_
  refine lv_goto (tgt := 1720) hx hb dL_law_767 (by decide) ?_
  exact hk _ _ _ ⟨tx, rby, rnx, c_text, m_taped, m_size, m_faultKind, m_faultPlace, m_at, m_end, m_token, m_number, m_name, c_points, c_strands, c_units, c_told, c_ruleFrom, c_ruleTo, c_code, c_eWhat, c_eSign, m_bank, m_rb, m_codes, m_within, m_piled, m_unitsInRule, w11, w12, m_thoughtClaim, m_thoughtNeed, m_thoughtAll, w13, m_acts, m_undone, m_laid, m_firstMove, m_seens, m_time, m_waysNow, m_fitting, hTx, hTm, by omega, hCV, by omega, by omega⟩ hP hD hS
set_option maxHeartbeats 4000000 in
set_option maxRecDepth 100000 in
theorem lo_20 {p : Program} {e : Env} {s : State} {m : MethodId} {below : List Frame} {meth : Method} {c : Code} {l : Launch} {b L : Nat} {xs : Nat → Int32} {D : va_G} {cy : Nat → ClassId} {ad : Nat → Nat} {adK adV : Nat → Nat} {f : Nat → va_E} {H : Heap} {locs : List Loc} {ls : Array Slot} (C : LX p s m meth c b L xs D cy) (hE : EN s.heap.size adK adV s) (hLI : LI ad cy f) (hP : va_P D vwCl (wl ad f) H) (hD : va_D (fun q : Nat => s.heap.size ≤ q) (wl ad f)) (hS : va_S (fun q : Nat => s.heap.size ≤ q) s.heap H locs) (x : Int32) (hx0 : 0 ≤ x.toInt ∧ x.toInt + 6 ≤ L) (hL : L ≤ 3072) (hl : lv_has ls 4 [(3, .int x), (2, .ref (ad 148)), (1, .ref (ad 0)), (0, .ref b)]) (hk : ∀ (f : Nat → va_E) (H : Heap) (locs : List Loc), LI ad cy f → va_P D vwCl (wl ad f) H → va_D (fun q : Nat => s.heap.size ≤ q) (wl ad f) → va_S (fun q : Nat => s.heap.size ≤ q) s.heap H locs → W p l e room_1 s m #[Value.ref b] below meth c H locs 185 12666 (lw_Z below #[Value.ref b] s) (F0 m 1720 ls [])) : W p l e room_1 s m #[Value.ref b] below meth c H locs 185 12666 (lw_Z below #[Value.ref b] s) (F0 m 770 ls []) := by
  obtain ⟨hx, hb, hr, hlk, hml, hown, hts, hX, hbl, hK⟩ := id C
  obtain ⟨tx, rby, rnx, c_text, m_taped, m_size, m_faultKind, m_faultPlace, m_at, m_end, m_token, m_number, m_name, c_points, c_strands, c_units, c_told, c_ruleFrom, c_ruleTo, c_code, c_eWhat, c_eSign, m_bank, m_rb, m_codes, m_within, m_piled, m_unitsInRule, m_askStrand, m_askTied, m_thoughtClaim, m_thoughtNeed, m_thoughtAll, c_roundOf, m_acts, m_undone, m_laid, m_firstMove, m_seens, m_time, m_waysNow, m_fitting, hTx, hTm, hAU, hCV, hTT, hTR⟩ := hLI
  have hA : ∀ q : Nat, s.heap.size ≤ q → (fun q : Nat => s.heap.size ≤ q) q := fun _ h => h
  have hAB : ∀ q : Nat, (fun q : Nat => s.heap.size ≤ q) q → s.heap.size ≤ q := fun _ h => h
  have hbA : ¬ (fun q : Nat => s.heap.size ≤ q) b := Nat.not_le.mpr hbl
  refine lv_aload_n hx hb dL_law_770 rfl (lv_at hl 2 rfl) ?_
  refine lv_aload_n hx hb dL_law_771 rfl (lv_at hl 3 rfl) ?_
  refine lv_iload_n hx hb dL_law_772 rfl (lv_at hl 0 rfl) ?_
  refine lv_iconst (v := 1) hx hb dL_law_773 (by decide) ?_
  refine lv_iadd hx hb dL_law_774 ?_
  refine lv_topi (fun y1 ey1 => ?_)
  have ty1 := tl_1
  have hy1 := r_add ey1 (by omega) (by omega)
  refine va_sld hx hb hX hbl hbA hS (vp_in_iff.mpr ⟨by omega, by omega⟩) dL_law_775 ?_
  refine lv_topi (fun z2 _ => ?_)
  obtain ⟨_, _, _, e8, _⟩ := (show okX8 ad tx 0 (f 0) from hTx.1 0 (by decide))
  refine tVI (As := [.int z2]) (rest := []) (i := 0) ⟨hx, hb, hml, hown, hts⟩ hK hE hP hD hS hA hAB (s_X8_pivots_0 l s.heap.size adK adV D cy ad f tx rby rnx f hTx z2 _) (cwV 1 hts gL_law_X8_pivots rfl rfl rfl (by decide +kernel) ⟨Nat.le_of_ble_eq_true rfl, Nat.le_of_ble_eq_true rfl⟩) (by decide) 8 e8 rfl rfl hl.1 rfl (Nat.le_of_ble_eq_true rfl) dL_law_776 ⟨Nat.le_of_ble_eq_true rfl, Nat.le_of_ble_eq_true rfl⟩ (fun r3 f H locs hw hP hD hS => ?_)
  obtain ⟨_, hT2⟩ := hw
  obtain ⟨hTx, hTm⟩ := LX_c hT2 hTm
  refine lv_pop hx hb dL_law_779 rfl ?_
  refine lv_aload_n hx hb dL_law_780 rfl (lv_at hl 1 rfl) ?_
  refine lv_aload_n hx hb dL_law_781 rfl (lv_at hl 3 rfl) ?_
  refine lv_iload_n hx hb dL_law_782 rfl (lv_at hl 0 rfl) ?_
  refine lv_iconst (v := 1) hx hb dL_law_783 (by decide) ?_
  refine lv_iadd hx hb dL_law_784 ?_
  refine lv_topi (fun y4 ey4 => ?_)
  have ty4 := tl_1
  have hy4 := r_add ey4 (by omega) (by omega)
  refine va_sld hx hb hX hbl hbA hS (vp_in_iff.mpr ⟨by omega, by omega⟩) dL_law_785 ?_
  refine lv_topi (fun z5 _ => ?_)
  have e8 := (show okX9 ad m_taped m_size m_faultKind m_faultPlace m_at m_end m_token m_number m_name m_bank m_rb m_codes m_within m_piled m_unitsInRule m_askStrand m_askTied m_thoughtClaim m_thoughtNeed m_thoughtAll m_acts m_undone m_laid m_firstMove m_seens m_time m_waysNow m_fitting 148 (f 148) from hTm.1 148 (by decide)).1
  refine tVI (As := [.int z5]) (rest := []) (i := 148) ⟨hx, hb, hml, hown, hts⟩ hK hE hP hD hS hA hAB (s_X9_pivots_0 l s.heap.size adK adV D cy ad f c_text m_taped m_size m_faultKind m_faultPlace m_at m_end m_token m_number m_name c_points c_strands c_units c_told c_ruleFrom c_ruleTo c_code c_eWhat c_eSign m_bank m_rb m_codes m_within m_piled m_unitsInRule m_askStrand m_askTied m_thoughtClaim m_thoughtNeed m_thoughtAll c_roundOf m_acts m_undone m_laid m_firstMove m_seens m_time m_waysNow m_fitting f hTm z5 hCV _) (cwV 1 hts gL_law_X9_pivots rfl rfl rfl (by decide +kernel) ⟨Nat.le_of_ble_eq_true rfl, Nat.le_of_ble_eq_true rfl⟩) (by decide) 9 e8 rfl rfl hl.1 rfl (Nat.le_of_ble_eq_true rfl) dL_law_786 ⟨Nat.le_of_ble_eq_true rfl, Nat.le_of_ble_eq_true rfl⟩ (fun r6 f H locs hw hP hD hS => ?_)
  obtain ⟨_, w7, w8, w9, hT2⟩ := hw
  obtain ⟨hTx, hTm⟩ := LX_m hT2 hTx
  refine lv_pop hx hb dL_law_789 rfl ?_
  refine lv_goto (tgt := 1720) hx hb dL_law_790 (by decide) ?_
  exact hk _ _ _ ⟨tx, rby, rnx, c_text, m_taped, m_size, m_faultKind, m_faultPlace, m_at, m_end, m_token, m_number, m_name, c_points, c_strands, c_units, c_told, c_ruleFrom, c_ruleTo, c_code, c_eWhat, c_eSign, m_bank, m_rb, m_codes, m_within, m_piled, m_unitsInRule, w7, w8, m_thoughtClaim, m_thoughtNeed, m_thoughtAll, w9, m_acts, m_undone, m_laid, m_firstMove, m_seens, m_time, m_waysNow, m_fitting, hTx, hTm, by omega, hCV, by omega, by omega⟩ hP hD hS
set_option maxHeartbeats 4000000 in
set_option maxRecDepth 100000 in
theorem lo_21 {p : Program} {e : Env} {s : State} {m : MethodId} {below : List Frame} {meth : Method} {c : Code} {l : Launch} {b L : Nat} {xs : Nat → Int32} {D : va_G} {cy : Nat → ClassId} {ad : Nat → Nat} {adK adV : Nat → Nat} {f : Nat → va_E} {H : Heap} {locs : List Loc} {ls : Array Slot} (C : LX p s m meth c b L xs D cy) (hE : EN s.heap.size adK adV s) (hLI : LI ad cy f) (hP : va_P D vwCl (wl ad f) H) (hD : va_D (fun q : Nat => s.heap.size ≤ q) (wl ad f)) (hS : va_S (fun q : Nat => s.heap.size ≤ q) s.heap H locs) (x : Int32) (hx0 : 0 ≤ x.toInt ∧ x.toInt + 6 ≤ L) (hL : L ≤ 3072) (hl : lv_has ls 4 [(3, .int x), (2, .ref (ad 148)), (1, .ref (ad 0)), (0, .ref b)]) (hk : ∀ (f : Nat → va_E) (H : Heap) (locs : List Loc), LI ad cy f → va_P D vwCl (wl ad f) H → va_D (fun q : Nat => s.heap.size ≤ q) (wl ad f) → va_S (fun q : Nat => s.heap.size ≤ q) s.heap H locs → W p l e room_1 s m #[Value.ref b] below meth c H locs 185 12666 (lw_Z below #[Value.ref b] s) (F0 m 1720 ls [])) : W p l e room_1 s m #[Value.ref b] below meth c H locs 185 12666 (lw_Z below #[Value.ref b] s) (F0 m 793 ls []) := by
  obtain ⟨hx, hb, hr, hlk, hml, hown, hts, hX, hbl, hK⟩ := id C
  obtain ⟨tx, rby, rnx, c_text, m_taped, m_size, m_faultKind, m_faultPlace, m_at, m_end, m_token, m_number, m_name, c_points, c_strands, c_units, c_told, c_ruleFrom, c_ruleTo, c_code, c_eWhat, c_eSign, m_bank, m_rb, m_codes, m_within, m_piled, m_unitsInRule, m_askStrand, m_askTied, m_thoughtClaim, m_thoughtNeed, m_thoughtAll, c_roundOf, m_acts, m_undone, m_laid, m_firstMove, m_seens, m_time, m_waysNow, m_fitting, hTx, hTm, hAU, hCV, hTT, hTR⟩ := hLI
  have hA : ∀ q : Nat, s.heap.size ≤ q → (fun q : Nat => s.heap.size ≤ q) q := fun _ h => h
  have hAB : ∀ q : Nat, (fun q : Nat => s.heap.size ≤ q) q → s.heap.size ≤ q := fun _ h => h
  have hbA : ¬ (fun q : Nat => s.heap.size ≤ q) b := Nat.not_le.mpr hbl
  refine lv_aload_n hx hb dL_law_793 rfl (lv_at hl 2 rfl) ?_
  refine lv_aload_n hx hb dL_law_794 rfl (lv_at hl 3 rfl) ?_
  refine lv_iload_n hx hb dL_law_795 rfl (lv_at hl 0 rfl) ?_
  refine lv_iconst (v := 1) hx hb dL_law_796 (by decide) ?_
  refine lv_iadd hx hb dL_law_797 ?_
  refine lv_topi (fun y1 ey1 => ?_)
  have ty1 := tl_1
  have hy1 := r_add ey1 (by omega) (by omega)
  refine va_sld hx hb hX hbl hbA hS (vp_in_iff.mpr ⟨by omega, by omega⟩) dL_law_798 ?_
  refine lv_topi (fun z2 _ => ?_)
  refine lv_aload_n hx hb dL_law_799 rfl (lv_at hl 3 rfl) ?_
  refine lv_iload_n hx hb dL_law_800 rfl (lv_at hl 0 rfl) ?_
  refine lv_iconst (v := 2) hx hb dL_law_801 (by decide) ?_
  refine lv_iadd hx hb dL_law_802 ?_
  refine lv_topi (fun y3 ey3 => ?_)
  have ty3 := tl_2
  have hy3 := r_add ey3 (by omega) (by omega)
  refine va_sld hx hb hX hbl hbA hS (vp_in_iff.mpr ⟨by omega, by omega⟩) dL_law_803 ?_
  refine lv_topi (fun z4 _ => ?_)
  obtain ⟨_, _, _, e8, _⟩ := (show okX8 ad tx 0 (f 0) from hTx.1 0 (by decide))
  refine tVI (As := [.int z2, .int z4]) (rest := []) (i := 0) ⟨hx, hb, hml, hown, hts⟩ hK hE hP hD hS hA hAB (s_X8_power_0 l s.heap.size adK adV D cy ad f tx rby rnx f hTx z2 z4 _) (cwV 2 hts gL_law_X8_power rfl rfl rfl (by decide +kernel) ⟨Nat.le_of_ble_eq_true rfl, Nat.le_of_ble_eq_true rfl⟩) (by decide) 8 e8 rfl rfl hl.1 rfl (Nat.le_of_ble_eq_true rfl) dL_law_804 ⟨Nat.le_of_ble_eq_true rfl, Nat.le_of_ble_eq_true rfl⟩ (fun r5 f H locs hw hP hD hS => ?_)
  obtain ⟨_, hT2⟩ := hw
  obtain ⟨hTx, hTm⟩ := LX_c hT2 hTm
  refine lv_pop hx hb dL_law_807 rfl ?_
  refine lv_aload_n hx hb dL_law_808 rfl (lv_at hl 1 rfl) ?_
  refine lv_aload_n hx hb dL_law_809 rfl (lv_at hl 3 rfl) ?_
  refine lv_iload_n hx hb dL_law_810 rfl (lv_at hl 0 rfl) ?_
  refine lv_iconst (v := 1) hx hb dL_law_811 (by decide) ?_
  refine lv_iadd hx hb dL_law_812 ?_
  refine lv_topi (fun y6 ey6 => ?_)
  have ty6 := tl_1
  have hy6 := r_add ey6 (by omega) (by omega)
  refine va_sld hx hb hX hbl hbA hS (vp_in_iff.mpr ⟨by omega, by omega⟩) dL_law_813 ?_
  refine lv_topi (fun z7 _ => ?_)
  refine lv_aload_n hx hb dL_law_814 rfl (lv_at hl 3 rfl) ?_
  refine lv_iload_n hx hb dL_law_815 rfl (lv_at hl 0 rfl) ?_
  refine lv_iconst (v := 2) hx hb dL_law_816 (by decide) ?_
  refine lv_iadd hx hb dL_law_817 ?_
  refine lv_topi (fun y8 ey8 => ?_)
  have ty8 := tl_2
  have hy8 := r_add ey8 (by omega) (by omega)
  refine va_sld hx hb hX hbl hbA hS (vp_in_iff.mpr ⟨by omega, by omega⟩) dL_law_818 ?_
  refine lv_topi (fun z9 _ => ?_)
  have e8 := (show okX9 ad m_taped m_size m_faultKind m_faultPlace m_at m_end m_token m_number m_name m_bank m_rb m_codes m_within m_piled m_unitsInRule m_askStrand m_askTied m_thoughtClaim m_thoughtNeed m_thoughtAll m_acts m_undone m_laid m_firstMove m_seens m_time m_waysNow m_fitting 148 (f 148) from hTm.1 148 (by decide)).1
  refine tVI (As := [.int z7, .int z9]) (rest := []) (i := 148) ⟨hx, hb, hml, hown, hts⟩ hK hE hP hD hS hA hAB (s_X9_power_0 l s.heap.size adK adV D cy ad f c_text m_taped m_size m_faultKind m_faultPlace m_at m_end m_token m_number m_name c_points c_strands c_units c_told c_ruleFrom c_ruleTo c_code c_eWhat c_eSign m_bank m_rb m_codes m_within m_piled m_unitsInRule m_askStrand m_askTied m_thoughtClaim m_thoughtNeed m_thoughtAll c_roundOf m_acts m_undone m_laid m_firstMove m_seens m_time m_waysNow m_fitting f hTm z7 z9 hCV _) (cwV 2 hts gL_law_X9_power rfl rfl rfl (by decide +kernel) ⟨Nat.le_of_ble_eq_true rfl, Nat.le_of_ble_eq_true rfl⟩) (by decide) 9 e8 rfl rfl hl.1 rfl (Nat.le_of_ble_eq_true rfl) dL_law_819 ⟨Nat.le_of_ble_eq_true rfl, Nat.le_of_ble_eq_true rfl⟩ (fun r10 f H locs hw hP hD hS => ?_)
  obtain ⟨_, w11, w12, w13, hT2⟩ := hw
  obtain ⟨hTx, hTm⟩ := LX_m hT2 hTx
  refine lv_pop hx hb dL_law_822 rfl ?_
  refine lv_goto (tgt := 1720) hx hb dL_law_823 (by decide) ?_
  exact hk _ _ _ ⟨tx, rby, rnx, c_text, m_taped, m_size, m_faultKind, m_faultPlace, m_at, m_end, m_token, m_number, m_name, c_points, c_strands, c_units, c_told, c_ruleFrom, c_ruleTo, c_code, c_eWhat, c_eSign, m_bank, m_rb, m_codes, m_within, m_piled, m_unitsInRule, w11, w12, m_thoughtClaim, m_thoughtNeed, m_thoughtAll, w13, m_acts, m_undone, m_laid, m_firstMove, m_seens, m_time, m_waysNow, m_fitting, hTx, hTm, by omega, hCV, by omega, by omega⟩ hP hD hS
set_option maxHeartbeats 4000000 in
set_option maxRecDepth 100000 in
theorem lo_22 {p : Program} {e : Env} {s : State} {m : MethodId} {below : List Frame} {meth : Method} {c : Code} {l : Launch} {b L : Nat} {xs : Nat → Int32} {D : va_G} {cy : Nat → ClassId} {ad : Nat → Nat} {adK adV : Nat → Nat} {f : Nat → va_E} {H : Heap} {locs : List Loc} {ls : Array Slot} (C : LX p s m meth c b L xs D cy) (hE : EN s.heap.size adK adV s) (hLI : LI ad cy f) (hP : va_P D vwCl (wl ad f) H) (hD : va_D (fun q : Nat => s.heap.size ≤ q) (wl ad f)) (hS : va_S (fun q : Nat => s.heap.size ≤ q) s.heap H locs) (x : Int32) (hx0 : 0 ≤ x.toInt ∧ x.toInt + 6 ≤ L) (hL : L ≤ 3072) (hl : lv_has ls 4 [(3, .int x), (2, .ref (ad 148)), (1, .ref (ad 0)), (0, .ref b)]) (hk : ∀ (f : Nat → va_E) (H : Heap) (locs : List Loc), LI ad cy f → va_P D vwCl (wl ad f) H → va_D (fun q : Nat => s.heap.size ≤ q) (wl ad f) → va_S (fun q : Nat => s.heap.size ≤ q) s.heap H locs → W p l e room_1 s m #[Value.ref b] below meth c H locs 185 12666 (lw_Z below #[Value.ref b] s) (F0 m 1720 ls [])) : W p l e room_1 s m #[Value.ref b] below meth c H locs 185 12666 (lw_Z below #[Value.ref b] s) (F0 m 826 ls []) := by
  obtain ⟨hx, hb, hr, hlk, hml, hown, hts, hX, hbl, hK⟩ := id C
  obtain ⟨tx, rby, rnx, c_text, m_taped, m_size, m_faultKind, m_faultPlace, m_at, m_end, m_token, m_number, m_name, c_points, c_strands, c_units, c_told, c_ruleFrom, c_ruleTo, c_code, c_eWhat, c_eSign, m_bank, m_rb, m_codes, m_within, m_piled, m_unitsInRule, m_askStrand, m_askTied, m_thoughtClaim, m_thoughtNeed, m_thoughtAll, c_roundOf, m_acts, m_undone, m_laid, m_firstMove, m_seens, m_time, m_waysNow, m_fitting, hTx, hTm, hAU, hCV, hTT, hTR⟩ := hLI
  have hA : ∀ q : Nat, s.heap.size ≤ q → (fun q : Nat => s.heap.size ≤ q) q := fun _ h => h
  have hAB : ∀ q : Nat, (fun q : Nat => s.heap.size ≤ q) q → s.heap.size ≤ q := fun _ h => h
  have hbA : ¬ (fun q : Nat => s.heap.size ≤ q) b := Nat.not_le.mpr hbl
  refine lv_aload_n hx hb dL_law_826 rfl (lv_at hl 2 rfl) ?_
  refine lv_aload_n hx hb dL_law_827 rfl (lv_at hl 3 rfl) ?_
  refine lv_iload_n hx hb dL_law_828 rfl (lv_at hl 0 rfl) ?_
  refine lv_iconst (v := 1) hx hb dL_law_829 (by decide) ?_
  refine lv_iadd hx hb dL_law_830 ?_
  refine lv_topi (fun y1 ey1 => ?_)
  have ty1 := tl_1
  have hy1 := r_add ey1 (by omega) (by omega)
  refine va_sld hx hb hX hbl hbA hS (vp_in_iff.mpr ⟨by omega, by omega⟩) dL_law_831 ?_
  refine lv_topi (fun z2 _ => ?_)
  obtain ⟨_, _, _, e8, _⟩ := (show okX8 ad tx 0 (f 0) from hTx.1 0 (by decide))
  refine tVI (As := [.int z2]) (rest := []) (i := 0) ⟨hx, hb, hml, hown, hts⟩ hK hE hP hD hS hA hAB (s_X8_lack_0 l s.heap.size adK adV D cy ad f tx rby rnx f hTx z2 _) (cwV 1 hts gL_law_X8_lack rfl rfl rfl (by decide +kernel) ⟨Nat.le_of_ble_eq_true rfl, Nat.le_of_ble_eq_true rfl⟩) (by decide) 8 e8 rfl rfl hl.1 rfl (Nat.le_of_ble_eq_true rfl) dL_law_832 ⟨Nat.le_of_ble_eq_true rfl, Nat.le_of_ble_eq_true rfl⟩ (fun r3 f H locs hw hP hD hS => ?_)
  obtain ⟨_, hT2⟩ := hw
  obtain ⟨hTx, hTm⟩ := LX_c hT2 hTm
  refine lv_pop hx hb dL_law_835 rfl ?_
  refine lv_aload_n hx hb dL_law_836 rfl (lv_at hl 1 rfl) ?_
  refine lv_aload_n hx hb dL_law_837 rfl (lv_at hl 3 rfl) ?_
  refine lv_iload_n hx hb dL_law_838 rfl (lv_at hl 0 rfl) ?_
  refine lv_iconst (v := 1) hx hb dL_law_839 (by decide) ?_
  refine lv_iadd hx hb dL_law_840 ?_
  refine lv_topi (fun y4 ey4 => ?_)
  have ty4 := tl_1
  have hy4 := r_add ey4 (by omega) (by omega)
  refine va_sld hx hb hX hbl hbA hS (vp_in_iff.mpr ⟨by omega, by omega⟩) dL_law_841 ?_
  refine lv_topi (fun z5 _ => ?_)
  have e8 := (show okX9 ad m_taped m_size m_faultKind m_faultPlace m_at m_end m_token m_number m_name m_bank m_rb m_codes m_within m_piled m_unitsInRule m_askStrand m_askTied m_thoughtClaim m_thoughtNeed m_thoughtAll m_acts m_undone m_laid m_firstMove m_seens m_time m_waysNow m_fitting 148 (f 148) from hTm.1 148 (by decide)).1
  refine tVI (As := [.int z5]) (rest := []) (i := 148) ⟨hx, hb, hml, hown, hts⟩ hK hE hP hD hS hA hAB (s_X9_lack_0 l s.heap.size adK adV D cy ad f c_text m_taped m_size m_faultKind m_faultPlace m_at m_end m_token m_number m_name c_points c_strands c_units c_told c_ruleFrom c_ruleTo c_code c_eWhat c_eSign m_bank m_rb m_codes m_within m_piled m_unitsInRule m_askStrand m_askTied m_thoughtClaim m_thoughtNeed m_thoughtAll c_roundOf m_acts m_undone m_laid m_firstMove m_seens m_time m_waysNow m_fitting f hTm z5 hCV _) (cwV 1 hts gL_law_X9_lack rfl rfl rfl (by decide +kernel) ⟨Nat.le_of_ble_eq_true rfl, Nat.le_of_ble_eq_true rfl⟩) (by decide) 9 e8 rfl rfl hl.1 rfl (Nat.le_of_ble_eq_true rfl) dL_law_842 ⟨Nat.le_of_ble_eq_true rfl, Nat.le_of_ble_eq_true rfl⟩ (fun r6 f H locs hw hP hD hS => ?_)
  obtain ⟨_, w7, w8, w9, hT2⟩ := hw
  obtain ⟨hTx, hTm⟩ := LX_m hT2 hTx
  refine lv_pop hx hb dL_law_845 rfl ?_
  refine lv_goto (tgt := 1720) hx hb dL_law_846 (by decide) ?_
  exact hk _ _ _ ⟨tx, rby, rnx, c_text, m_taped, m_size, m_faultKind, m_faultPlace, m_at, m_end, m_token, m_number, m_name, c_points, c_strands, c_units, c_told, c_ruleFrom, c_ruleTo, c_code, c_eWhat, c_eSign, m_bank, m_rb, m_codes, m_within, m_piled, m_unitsInRule, w7, w8, m_thoughtClaim, m_thoughtNeed, m_thoughtAll, w9, m_acts, m_undone, m_laid, m_firstMove, m_seens, m_time, m_waysNow, m_fitting, hTx, hTm, by omega, hCV, by omega, by omega⟩ hP hD hS
set_option maxHeartbeats 4000000 in
set_option maxRecDepth 100000 in
theorem lo_23 {p : Program} {e : Env} {s : State} {m : MethodId} {below : List Frame} {meth : Method} {c : Code} {l : Launch} {b L : Nat} {xs : Nat → Int32} {D : va_G} {cy : Nat → ClassId} {ad : Nat → Nat} {adK adV : Nat → Nat} {f : Nat → va_E} {H : Heap} {locs : List Loc} {ls : Array Slot} (C : LX p s m meth c b L xs D cy) (hE : EN s.heap.size adK adV s) (hLI : LI ad cy f) (hP : va_P D vwCl (wl ad f) H) (hD : va_D (fun q : Nat => s.heap.size ≤ q) (wl ad f)) (hS : va_S (fun q : Nat => s.heap.size ≤ q) s.heap H locs) (x : Int32) (hx0 : 0 ≤ x.toInt ∧ x.toInt + 6 ≤ L) (hL : L ≤ 3072) (hl : lv_has ls 4 [(3, .int x), (2, .ref (ad 148)), (1, .ref (ad 0)), (0, .ref b)]) (hk : ∀ (f : Nat → va_E) (H : Heap) (locs : List Loc), LI ad cy f → va_P D vwCl (wl ad f) H → va_D (fun q : Nat => s.heap.size ≤ q) (wl ad f) → va_S (fun q : Nat => s.heap.size ≤ q) s.heap H locs → W p l e room_1 s m #[Value.ref b] below meth c H locs 185 12666 (lw_Z below #[Value.ref b] s) (F0 m 1720 ls [])) : W p l e room_1 s m #[Value.ref b] below meth c H locs 185 12666 (lw_Z below #[Value.ref b] s) (F0 m 849 ls []) := by
  obtain ⟨hx, hb, hr, hlk, hml, hown, hts, hX, hbl, hK⟩ := id C
  obtain ⟨tx, rby, rnx, c_text, m_taped, m_size, m_faultKind, m_faultPlace, m_at, m_end, m_token, m_number, m_name, c_points, c_strands, c_units, c_told, c_ruleFrom, c_ruleTo, c_code, c_eWhat, c_eSign, m_bank, m_rb, m_codes, m_within, m_piled, m_unitsInRule, m_askStrand, m_askTied, m_thoughtClaim, m_thoughtNeed, m_thoughtAll, c_roundOf, m_acts, m_undone, m_laid, m_firstMove, m_seens, m_time, m_waysNow, m_fitting, hTx, hTm, hAU, hCV, hTT, hTR⟩ := hLI
  have hA : ∀ q : Nat, s.heap.size ≤ q → (fun q : Nat => s.heap.size ≤ q) q := fun _ h => h
  have hAB : ∀ q : Nat, (fun q : Nat => s.heap.size ≤ q) q → s.heap.size ≤ q := fun _ h => h
  have hbA : ¬ (fun q : Nat => s.heap.size ≤ q) b := Nat.not_le.mpr hbl
  refine lv_aload_n hx hb dL_law_849 rfl (lv_at hl 2 rfl) ?_
  refine lv_aload_n hx hb dL_law_850 rfl (lv_at hl 3 rfl) ?_
  refine lv_iload_n hx hb dL_law_851 rfl (lv_at hl 0 rfl) ?_
  refine lv_iconst (v := 1) hx hb dL_law_852 (by decide) ?_
  refine lv_iadd hx hb dL_law_853 ?_
  refine lv_topi (fun y1 ey1 => ?_)
  have ty1 := tl_1
  have hy1 := r_add ey1 (by omega) (by omega)
  refine va_sld hx hb hX hbl hbA hS (vp_in_iff.mpr ⟨by omega, by omega⟩) dL_law_854 ?_
  refine lv_topi (fun z2 _ => ?_)
  obtain ⟨_, _, _, e8, _⟩ := (show okX8 ad tx 0 (f 0) from hTx.1 0 (by decide))
  refine tVI (As := [.int z2]) (rest := []) (i := 0) ⟨hx, hb, hml, hown, hts⟩ hK hE hP hD hS hA hAB (s_X8_rank_0 l s.heap.size adK adV D cy ad f tx rby rnx f hTx z2 _) (cwV 1 hts gL_law_X8_rank rfl rfl rfl (by decide +kernel) ⟨Nat.le_of_ble_eq_true rfl, Nat.le_of_ble_eq_true rfl⟩) (by decide) 8 e8 rfl rfl hl.1 rfl (Nat.le_of_ble_eq_true rfl) dL_law_855 ⟨Nat.le_of_ble_eq_true rfl, Nat.le_of_ble_eq_true rfl⟩ (fun r3 f H locs hw hP hD hS => ?_)
  obtain ⟨_, hT2⟩ := hw
  obtain ⟨hTx, hTm⟩ := LX_c hT2 hTm
  refine lv_pop hx hb dL_law_858 rfl ?_
  refine lv_aload_n hx hb dL_law_859 rfl (lv_at hl 1 rfl) ?_
  refine lv_aload_n hx hb dL_law_860 rfl (lv_at hl 3 rfl) ?_
  refine lv_iload_n hx hb dL_law_861 rfl (lv_at hl 0 rfl) ?_
  refine lv_iconst (v := 1) hx hb dL_law_862 (by decide) ?_
  refine lv_iadd hx hb dL_law_863 ?_
  refine lv_topi (fun y4 ey4 => ?_)
  have ty4 := tl_1
  have hy4 := r_add ey4 (by omega) (by omega)
  refine va_sld hx hb hX hbl hbA hS (vp_in_iff.mpr ⟨by omega, by omega⟩) dL_law_864 ?_
  refine lv_topi (fun z5 _ => ?_)
  have e8 := (show okX9 ad m_taped m_size m_faultKind m_faultPlace m_at m_end m_token m_number m_name m_bank m_rb m_codes m_within m_piled m_unitsInRule m_askStrand m_askTied m_thoughtClaim m_thoughtNeed m_thoughtAll m_acts m_undone m_laid m_firstMove m_seens m_time m_waysNow m_fitting 148 (f 148) from hTm.1 148 (by decide)).1
  refine tVI (As := [.int z5]) (rest := []) (i := 148) ⟨hx, hb, hml, hown, hts⟩ hK hE hP hD hS hA hAB (s_X9_rank_0 l s.heap.size adK adV D cy ad f c_text m_taped m_size m_faultKind m_faultPlace m_at m_end m_token m_number m_name c_points c_strands c_units c_told c_ruleFrom c_ruleTo c_code c_eWhat c_eSign m_bank m_rb m_codes m_within m_piled m_unitsInRule m_askStrand m_askTied m_thoughtClaim m_thoughtNeed m_thoughtAll c_roundOf m_acts m_undone m_laid m_firstMove m_seens m_time m_waysNow m_fitting f hTm z5 hCV _) (cwV 1 hts gL_law_X9_rank rfl rfl rfl (by decide +kernel) ⟨Nat.le_of_ble_eq_true rfl, Nat.le_of_ble_eq_true rfl⟩) (by decide) 9 e8 rfl rfl hl.1 rfl (Nat.le_of_ble_eq_true rfl) dL_law_865 ⟨Nat.le_of_ble_eq_true rfl, Nat.le_of_ble_eq_true rfl⟩ (fun r6 f H locs hw hP hD hS => ?_)
  obtain ⟨_, w7, w8, w9, hT2⟩ := hw
  obtain ⟨hTx, hTm⟩ := LX_m hT2 hTx
  refine lv_pop hx hb dL_law_868 rfl ?_
  refine lv_goto (tgt := 1720) hx hb dL_law_869 (by decide) ?_
  exact hk _ _ _ ⟨tx, rby, rnx, c_text, m_taped, m_size, m_faultKind, m_faultPlace, m_at, m_end, m_token, m_number, m_name, c_points, c_strands, c_units, c_told, c_ruleFrom, c_ruleTo, c_code, c_eWhat, c_eSign, m_bank, m_rb, m_codes, m_within, m_piled, m_unitsInRule, w7, w8, m_thoughtClaim, m_thoughtNeed, m_thoughtAll, w9, m_acts, m_undone, m_laid, m_firstMove, m_seens, m_time, m_waysNow, m_fitting, hTx, hTm, by omega, hCV, by omega, by omega⟩ hP hD hS
set_option maxHeartbeats 4000000 in
set_option maxRecDepth 100000 in
theorem lo_24 {p : Program} {e : Env} {s : State} {m : MethodId} {below : List Frame} {meth : Method} {c : Code} {l : Launch} {b L : Nat} {xs : Nat → Int32} {D : va_G} {cy : Nat → ClassId} {ad : Nat → Nat} {adK adV : Nat → Nat} {f : Nat → va_E} {H : Heap} {locs : List Loc} {ls : Array Slot} (C : LX p s m meth c b L xs D cy) (hE : EN s.heap.size adK adV s) (hLI : LI ad cy f) (hP : va_P D vwCl (wl ad f) H) (hD : va_D (fun q : Nat => s.heap.size ≤ q) (wl ad f)) (hS : va_S (fun q : Nat => s.heap.size ≤ q) s.heap H locs) (x : Int32) (hx0 : 0 ≤ x.toInt ∧ x.toInt + 6 ≤ L) (hL : L ≤ 3072) (hl : lv_has ls 4 [(3, .int x), (2, .ref (ad 148)), (1, .ref (ad 0)), (0, .ref b)]) (hk : ∀ (f : Nat → va_E) (H : Heap) (locs : List Loc), LI ad cy f → va_P D vwCl (wl ad f) H → va_D (fun q : Nat => s.heap.size ≤ q) (wl ad f) → va_S (fun q : Nat => s.heap.size ≤ q) s.heap H locs → W p l e room_1 s m #[Value.ref b] below meth c H locs 185 12666 (lw_Z below #[Value.ref b] s) (F0 m 1720 ls [])) : W p l e room_1 s m #[Value.ref b] below meth c H locs 185 12666 (lw_Z below #[Value.ref b] s) (F0 m 872 ls []) := by
  obtain ⟨hx, hb, hr, hlk, hml, hown, hts, hX, hbl, hK⟩ := id C
  obtain ⟨tx, rby, rnx, c_text, m_taped, m_size, m_faultKind, m_faultPlace, m_at, m_end, m_token, m_number, m_name, c_points, c_strands, c_units, c_told, c_ruleFrom, c_ruleTo, c_code, c_eWhat, c_eSign, m_bank, m_rb, m_codes, m_within, m_piled, m_unitsInRule, m_askStrand, m_askTied, m_thoughtClaim, m_thoughtNeed, m_thoughtAll, c_roundOf, m_acts, m_undone, m_laid, m_firstMove, m_seens, m_time, m_waysNow, m_fitting, hTx, hTm, hAU, hCV, hTT, hTR⟩ := hLI
  have hA : ∀ q : Nat, s.heap.size ≤ q → (fun q : Nat => s.heap.size ≤ q) q := fun _ h => h
  have hAB : ∀ q : Nat, (fun q : Nat => s.heap.size ≤ q) q → s.heap.size ≤ q := fun _ h => h
  have hbA : ¬ (fun q : Nat => s.heap.size ≤ q) b := Nat.not_le.mpr hbl
  refine lv_aload_n hx hb dL_law_872 rfl (lv_at hl 2 rfl) ?_
  refine lv_aload_n hx hb dL_law_873 rfl (lv_at hl 3 rfl) ?_
  refine lv_iload_n hx hb dL_law_874 rfl (lv_at hl 0 rfl) ?_
  refine lv_iconst (v := 1) hx hb dL_law_875 (by decide) ?_
  refine lv_iadd hx hb dL_law_876 ?_
  refine lv_topi (fun y1 ey1 => ?_)
  have ty1 := tl_1
  have hy1 := r_add ey1 (by omega) (by omega)
  refine va_sld hx hb hX hbl hbA hS (vp_in_iff.mpr ⟨by omega, by omega⟩) dL_law_877 ?_
  refine lv_topi (fun z2 _ => ?_)
  obtain ⟨_, _, _, e8, _⟩ := (show okX8 ad tx 0 (f 0) from hTx.1 0 (by decide))
  refine tVI (As := [.int z2]) (rest := []) (i := 0) ⟨hx, hb, hml, hown, hts⟩ hK hE hP hD hS hA hAB (s_X8_ring_0 l s.heap.size adK adV D cy ad f tx rby rnx f hTx z2 _) (cwV 1 hts gL_law_X8_ring rfl rfl rfl (by decide +kernel) ⟨Nat.le_of_ble_eq_true rfl, Nat.le_of_ble_eq_true rfl⟩) (by decide) 8 e8 rfl rfl hl.1 rfl (Nat.le_of_ble_eq_true rfl) dL_law_878 ⟨Nat.le_of_ble_eq_true rfl, Nat.le_of_ble_eq_true rfl⟩ (fun r3 f H locs hw hP hD hS => ?_)
  obtain ⟨_, hT2⟩ := hw
  obtain ⟨hTx, hTm⟩ := LX_c hT2 hTm
  refine lv_pop hx hb dL_law_881 rfl ?_
  refine lv_aload_n hx hb dL_law_882 rfl (lv_at hl 1 rfl) ?_
  refine lv_aload_n hx hb dL_law_883 rfl (lv_at hl 3 rfl) ?_
  refine lv_iload_n hx hb dL_law_884 rfl (lv_at hl 0 rfl) ?_
  refine lv_iconst (v := 1) hx hb dL_law_885 (by decide) ?_
  refine lv_iadd hx hb dL_law_886 ?_
  refine lv_topi (fun y4 ey4 => ?_)
  have ty4 := tl_1
  have hy4 := r_add ey4 (by omega) (by omega)
  refine va_sld hx hb hX hbl hbA hS (vp_in_iff.mpr ⟨by omega, by omega⟩) dL_law_887 ?_
  refine lv_topi (fun z5 _ => ?_)
  have e8 := (show okX9 ad m_taped m_size m_faultKind m_faultPlace m_at m_end m_token m_number m_name m_bank m_rb m_codes m_within m_piled m_unitsInRule m_askStrand m_askTied m_thoughtClaim m_thoughtNeed m_thoughtAll m_acts m_undone m_laid m_firstMove m_seens m_time m_waysNow m_fitting 148 (f 148) from hTm.1 148 (by decide)).1
  refine tVI (As := [.int z5]) (rest := []) (i := 148) ⟨hx, hb, hml, hown, hts⟩ hK hE hP hD hS hA hAB (s_X9_ring_0 l s.heap.size adK adV D cy ad f c_text m_taped m_size m_faultKind m_faultPlace m_at m_end m_token m_number m_name c_points c_strands c_units c_told c_ruleFrom c_ruleTo c_code c_eWhat c_eSign m_bank m_rb m_codes m_within m_piled m_unitsInRule m_askStrand m_askTied m_thoughtClaim m_thoughtNeed m_thoughtAll c_roundOf m_acts m_undone m_laid m_firstMove m_seens m_time m_waysNow m_fitting f hTm z5 hCV _) (cwV 1 hts gL_law_X9_ring rfl rfl rfl (by decide +kernel) ⟨Nat.le_of_ble_eq_true rfl, Nat.le_of_ble_eq_true rfl⟩) (by decide) 9 e8 rfl rfl hl.1 rfl (Nat.le_of_ble_eq_true rfl) dL_law_888 ⟨Nat.le_of_ble_eq_true rfl, Nat.le_of_ble_eq_true rfl⟩ (fun r6 f H locs hw hP hD hS => ?_)
  obtain ⟨_, w7, w8, hT2⟩ := hw
  obtain ⟨hTx, hTm⟩ := LX_m hT2 hTx
  refine lv_pop hx hb dL_law_891 rfl ?_
  refine lv_goto (tgt := 1720) hx hb dL_law_892 (by decide) ?_
  exact hk _ _ _ ⟨tx, rby, rnx, c_text, m_taped, m_size, m_faultKind, m_faultPlace, m_at, m_end, m_token, m_number, m_name, c_points, c_strands, c_units, c_told, c_ruleFrom, c_ruleTo, c_code, c_eWhat, c_eSign, m_bank, m_rb, m_codes, m_within, m_piled, m_unitsInRule, w7, w8, m_thoughtClaim, m_thoughtNeed, m_thoughtAll, c_roundOf, m_acts, m_undone, m_laid, m_firstMove, m_seens, m_time, m_waysNow, m_fitting, hTx, hTm, by omega, hCV, by omega, by omega⟩ hP hD hS
set_option maxHeartbeats 4000000 in
set_option maxRecDepth 100000 in
theorem lo_25 {p : Program} {e : Env} {s : State} {m : MethodId} {below : List Frame} {meth : Method} {c : Code} {l : Launch} {b L : Nat} {xs : Nat → Int32} {D : va_G} {cy : Nat → ClassId} {ad : Nat → Nat} {adK adV : Nat → Nat} {f : Nat → va_E} {H : Heap} {locs : List Loc} {ls : Array Slot} (C : LX p s m meth c b L xs D cy) (hE : EN s.heap.size adK adV s) (hLI : LI ad cy f) (hP : va_P D vwCl (wl ad f) H) (hD : va_D (fun q : Nat => s.heap.size ≤ q) (wl ad f)) (hS : va_S (fun q : Nat => s.heap.size ≤ q) s.heap H locs) (x : Int32) (hx0 : 0 ≤ x.toInt ∧ x.toInt + 6 ≤ L) (hL : L ≤ 3072) (hl : lv_has ls 4 [(3, .int x), (2, .ref (ad 148)), (1, .ref (ad 0)), (0, .ref b)]) (hk : ∀ (f : Nat → va_E) (H : Heap) (locs : List Loc), LI ad cy f → va_P D vwCl (wl ad f) H → va_D (fun q : Nat => s.heap.size ≤ q) (wl ad f) → va_S (fun q : Nat => s.heap.size ≤ q) s.heap H locs → W p l e room_1 s m #[Value.ref b] below meth c H locs 185 12666 (lw_Z below #[Value.ref b] s) (F0 m 1720 ls [])) : W p l e room_1 s m #[Value.ref b] below meth c H locs 185 12666 (lw_Z below #[Value.ref b] s) (F0 m 895 ls []) := by
  obtain ⟨hx, hb, hr, hlk, hml, hown, hts, hX, hbl, hK⟩ := id C
  obtain ⟨tx, rby, rnx, c_text, m_taped, m_size, m_faultKind, m_faultPlace, m_at, m_end, m_token, m_number, m_name, c_points, c_strands, c_units, c_told, c_ruleFrom, c_ruleTo, c_code, c_eWhat, c_eSign, m_bank, m_rb, m_codes, m_within, m_piled, m_unitsInRule, m_askStrand, m_askTied, m_thoughtClaim, m_thoughtNeed, m_thoughtAll, c_roundOf, m_acts, m_undone, m_laid, m_firstMove, m_seens, m_time, m_waysNow, m_fitting, hTx, hTm, hAU, hCV, hTT, hTR⟩ := hLI
  have hA : ∀ q : Nat, s.heap.size ≤ q → (fun q : Nat => s.heap.size ≤ q) q := fun _ h => h
  have hAB : ∀ q : Nat, (fun q : Nat => s.heap.size ≤ q) q → s.heap.size ≤ q := fun _ h => h
  have hbA : ¬ (fun q : Nat => s.heap.size ≤ q) b := Nat.not_le.mpr hbl
  refine lv_aload_n hx hb dL_law_895 rfl (lv_at hl 2 rfl) ?_
  refine lv_aload_n hx hb dL_law_896 rfl (lv_at hl 3 rfl) ?_
  refine lv_iload_n hx hb dL_law_897 rfl (lv_at hl 0 rfl) ?_
  refine lv_iconst (v := 1) hx hb dL_law_898 (by decide) ?_
  refine lv_iadd hx hb dL_law_899 ?_
  refine lv_topi (fun y1 ey1 => ?_)
  have ty1 := tl_1
  have hy1 := r_add ey1 (by omega) (by omega)
  refine va_sld hx hb hX hbl hbA hS (vp_in_iff.mpr ⟨by omega, by omega⟩) dL_law_900 ?_
  refine lv_topi (fun z2 _ => ?_)
  refine lv_aload_n hx hb dL_law_901 rfl (lv_at hl 3 rfl) ?_
  refine lv_iload_n hx hb dL_law_902 rfl (lv_at hl 0 rfl) ?_
  refine lv_iconst (v := 2) hx hb dL_law_903 (by decide) ?_
  refine lv_iadd hx hb dL_law_904 ?_
  refine lv_topi (fun y3 ey3 => ?_)
  have ty3 := tl_2
  have hy3 := r_add ey3 (by omega) (by omega)
  refine va_sld hx hb hX hbl hbA hS (vp_in_iff.mpr ⟨by omega, by omega⟩) dL_law_905 ?_
  refine lv_topi (fun z4 _ => ?_)
  refine lv_aload_n hx hb dL_law_906 rfl (lv_at hl 3 rfl) ?_
  refine lv_iload_n hx hb dL_law_907 rfl (lv_at hl 0 rfl) ?_
  refine lv_iconst (v := 3) hx hb dL_law_908 (by decide) ?_
  refine lv_iadd hx hb dL_law_909 ?_
  refine lv_topi (fun y5 ey5 => ?_)
  have ty5 := tl_3
  have hy5 := r_add ey5 (by omega) (by omega)
  refine va_sld hx hb hX hbl hbA hS (vp_in_iff.mpr ⟨by omega, by omega⟩) dL_law_910 ?_
  refine lv_topi (fun z6 _ => ?_)
  obtain ⟨_, _, _, e8, _⟩ := (show okX8 ad tx 0 (f 0) from hTx.1 0 (by decide))
  refine tVI (As := [.int z2, .int z4, .int z6]) (rest := []) (i := 0) ⟨hx, hb, hml, hown, hts⟩ hK hE hP hD hS hA hAB (s_X8_moot_0 l s.heap.size adK adV D cy ad f tx rby rnx f hTx z2 z4 z6 _) (cwV 3 hts gL_law_X8_moot rfl rfl rfl (by decide +kernel) ⟨Nat.le_of_ble_eq_true rfl, Nat.le_of_ble_eq_true rfl⟩) (by decide) 8 e8 rfl rfl hl.1 rfl (Nat.le_of_ble_eq_true rfl) dL_law_911 ⟨Nat.le_of_ble_eq_true rfl, Nat.le_of_ble_eq_true rfl⟩ (fun r7 f H locs hw hP hD hS => ?_)
  obtain ⟨_, hT2⟩ := hw
  obtain ⟨hTx, hTm⟩ := LX_c hT2 hTm
  refine lv_pop hx hb dL_law_914 rfl ?_
  refine lv_aload_n hx hb dL_law_915 rfl (lv_at hl 1 rfl) ?_
  refine lv_aload_n hx hb dL_law_916 rfl (lv_at hl 3 rfl) ?_
  refine lv_iload_n hx hb dL_law_917 rfl (lv_at hl 0 rfl) ?_
  refine lv_iconst (v := 1) hx hb dL_law_918 (by decide) ?_
  refine lv_iadd hx hb dL_law_919 ?_
  refine lv_topi (fun y8 ey8 => ?_)
  have ty8 := tl_1
  have hy8 := r_add ey8 (by omega) (by omega)
  refine va_sld hx hb hX hbl hbA hS (vp_in_iff.mpr ⟨by omega, by omega⟩) dL_law_920 ?_
  refine lv_topi (fun z9 _ => ?_)
  refine lv_aload_n hx hb dL_law_921 rfl (lv_at hl 3 rfl) ?_
  refine lv_iload_n hx hb dL_law_922 rfl (lv_at hl 0 rfl) ?_
  refine lv_iconst (v := 2) hx hb dL_law_923 (by decide) ?_
  refine lv_iadd hx hb dL_law_924 ?_
  refine lv_topi (fun y10 ey10 => ?_)
  have ty10 := tl_2
  have hy10 := r_add ey10 (by omega) (by omega)
  refine va_sld hx hb hX hbl hbA hS (vp_in_iff.mpr ⟨by omega, by omega⟩) dL_law_925 ?_
  refine lv_topi (fun z11 _ => ?_)
  refine lv_aload_n hx hb dL_law_926 rfl (lv_at hl 3 rfl) ?_
  refine lv_iload_n hx hb dL_law_927 rfl (lv_at hl 0 rfl) ?_
  refine lv_iconst (v := 3) hx hb dL_law_928 (by decide) ?_
  refine lv_iadd hx hb dL_law_929 ?_
  refine lv_topi (fun y12 ey12 => ?_)
  have ty12 := tl_3
  have hy12 := r_add ey12 (by omega) (by omega)
  refine va_sld hx hb hX hbl hbA hS (vp_in_iff.mpr ⟨by omega, by omega⟩) dL_law_930 ?_
  refine lv_topi (fun z13 _ => ?_)
  have e8 := (show okX9 ad m_taped m_size m_faultKind m_faultPlace m_at m_end m_token m_number m_name m_bank m_rb m_codes m_within m_piled m_unitsInRule m_askStrand m_askTied m_thoughtClaim m_thoughtNeed m_thoughtAll m_acts m_undone m_laid m_firstMove m_seens m_time m_waysNow m_fitting 148 (f 148) from hTm.1 148 (by decide)).1
  refine tVI (As := [.int z9, .int z11, .int z13]) (rest := []) (i := 148) ⟨hx, hb, hml, hown, hts⟩ hK hE hP hD hS hA hAB (s_X9_moot_0 l s.heap.size adK adV D cy ad f c_text m_taped m_size m_faultKind m_faultPlace m_at m_end m_token m_number m_name c_points c_strands c_units c_told c_ruleFrom c_ruleTo c_code c_eWhat c_eSign m_bank m_rb m_codes m_within m_piled m_unitsInRule m_askStrand m_askTied m_thoughtClaim m_thoughtNeed m_thoughtAll c_roundOf m_acts m_undone m_laid m_firstMove m_seens m_time m_waysNow m_fitting f hTm z9 z11 z13 hCV _) (cwV 3 hts gL_law_X9_moot rfl rfl rfl (by decide +kernel) ⟨Nat.le_of_ble_eq_true rfl, Nat.le_of_ble_eq_true rfl⟩) (by decide) 9 e8 rfl rfl hl.1 rfl (Nat.le_of_ble_eq_true rfl) dL_law_931 ⟨Nat.le_of_ble_eq_true rfl, Nat.le_of_ble_eq_true rfl⟩ (fun r14 f H locs hw hP hD hS => ?_)
  obtain ⟨_, w15, w16, w17, w18, hT2⟩ := hw
  obtain ⟨hTx, hTm⟩ := LX_m hT2 hTx
  refine lv_pop hx hb dL_law_934 rfl ?_
  refine lv_goto (tgt := 1720) hx hb dL_law_935 (by decide) ?_
  exact hk _ _ _ ⟨tx, rby, rnx, c_text, m_taped, m_size, m_faultKind, m_faultPlace, m_at, m_end, m_token, m_number, m_name, c_points, c_strands, c_units, c_told, c_ruleFrom, c_ruleTo, c_code, c_eWhat, c_eSign, m_bank, m_rb, m_codes, m_within, m_piled, m_unitsInRule, w15, w16, m_thoughtClaim, m_thoughtNeed, m_thoughtAll, w17, m_acts, m_undone, m_laid, w18, m_seens, m_time, m_waysNow, m_fitting, hTx, hTm, by omega, hCV, by omega, by omega⟩ hP hD hS
set_option maxHeartbeats 4000000 in
set_option maxRecDepth 100000 in
theorem lo_26 {p : Program} {e : Env} {s : State} {m : MethodId} {below : List Frame} {meth : Method} {c : Code} {l : Launch} {b L : Nat} {xs : Nat → Int32} {D : va_G} {cy : Nat → ClassId} {ad : Nat → Nat} {adK adV : Nat → Nat} {f : Nat → va_E} {H : Heap} {locs : List Loc} {ls : Array Slot} (C : LX p s m meth c b L xs D cy) (hE : EN s.heap.size adK adV s) (hLI : LI ad cy f) (hP : va_P D vwCl (wl ad f) H) (hD : va_D (fun q : Nat => s.heap.size ≤ q) (wl ad f)) (hS : va_S (fun q : Nat => s.heap.size ≤ q) s.heap H locs) (x : Int32) (hx0 : 0 ≤ x.toInt ∧ x.toInt + 6 ≤ L) (hL : L ≤ 3072) (hl : lv_has ls 4 [(3, .int x), (2, .ref (ad 148)), (1, .ref (ad 0)), (0, .ref b)]) (hk : ∀ (f : Nat → va_E) (H : Heap) (locs : List Loc), LI ad cy f → va_P D vwCl (wl ad f) H → va_D (fun q : Nat => s.heap.size ≤ q) (wl ad f) → va_S (fun q : Nat => s.heap.size ≤ q) s.heap H locs → W p l e room_1 s m #[Value.ref b] below meth c H locs 185 12666 (lw_Z below #[Value.ref b] s) (F0 m 1720 ls [])) : W p l e room_1 s m #[Value.ref b] below meth c H locs 185 12666 (lw_Z below #[Value.ref b] s) (F0 m 938 ls []) := by
  obtain ⟨hx, hb, hr, hlk, hml, hown, hts, hX, hbl, hK⟩ := id C
  obtain ⟨tx, rby, rnx, c_text, m_taped, m_size, m_faultKind, m_faultPlace, m_at, m_end, m_token, m_number, m_name, c_points, c_strands, c_units, c_told, c_ruleFrom, c_ruleTo, c_code, c_eWhat, c_eSign, m_bank, m_rb, m_codes, m_within, m_piled, m_unitsInRule, m_askStrand, m_askTied, m_thoughtClaim, m_thoughtNeed, m_thoughtAll, c_roundOf, m_acts, m_undone, m_laid, m_firstMove, m_seens, m_time, m_waysNow, m_fitting, hTx, hTm, hAU, hCV, hTT, hTR⟩ := hLI
  have hA : ∀ q : Nat, s.heap.size ≤ q → (fun q : Nat => s.heap.size ≤ q) q := fun _ h => h
  have hAB : ∀ q : Nat, (fun q : Nat => s.heap.size ≤ q) q → s.heap.size ≤ q := fun _ h => h
  have hbA : ¬ (fun q : Nat => s.heap.size ≤ q) b := Nat.not_le.mpr hbl
  refine lv_aload_n hx hb dL_law_938 rfl (lv_at hl 2 rfl) ?_
  refine lv_aload_n hx hb dL_law_939 rfl (lv_at hl 3 rfl) ?_
  refine lv_iload_n hx hb dL_law_940 rfl (lv_at hl 0 rfl) ?_
  refine lv_iconst (v := 1) hx hb dL_law_941 (by decide) ?_
  refine lv_iadd hx hb dL_law_942 ?_
  refine lv_topi (fun y1 ey1 => ?_)
  have ty1 := tl_1
  have hy1 := r_add ey1 (by omega) (by omega)
  refine va_sld hx hb hX hbl hbA hS (vp_in_iff.mpr ⟨by omega, by omega⟩) dL_law_943 ?_
  refine lv_topi (fun z2 _ => ?_)
  obtain ⟨_, _, _, e8, _⟩ := (show okX8 ad tx 0 (f 0) from hTx.1 0 (by decide))
  refine tVI (As := [.int z2]) (rest := []) (i := 0) ⟨hx, hb, hml, hown, hts⟩ hK hE hP hD hS hA hAB (s_X8_fall_0 l s.heap.size adK adV D cy ad f tx rby rnx f hTx z2 _) (cwV 1 hts gL_law_X8_fall rfl rfl rfl (by decide +kernel) ⟨Nat.le_of_ble_eq_true rfl, Nat.le_of_ble_eq_true rfl⟩) (by decide) 8 e8 rfl rfl hl.1 rfl (Nat.le_of_ble_eq_true rfl) dL_law_944 ⟨Nat.le_of_ble_eq_true rfl, Nat.le_of_ble_eq_true rfl⟩ (fun r3 f H locs hw hP hD hS => ?_)
  obtain ⟨_, hT2⟩ := hw
  obtain ⟨hTx, hTm⟩ := LX_c hT2 hTm
  refine lv_pop hx hb dL_law_947 rfl ?_
  refine lv_aload_n hx hb dL_law_948 rfl (lv_at hl 1 rfl) ?_
  refine lv_aload_n hx hb dL_law_949 rfl (lv_at hl 3 rfl) ?_
  refine lv_iload_n hx hb dL_law_950 rfl (lv_at hl 0 rfl) ?_
  refine lv_iconst (v := 1) hx hb dL_law_951 (by decide) ?_
  refine lv_iadd hx hb dL_law_952 ?_
  refine lv_topi (fun y4 ey4 => ?_)
  have ty4 := tl_1
  have hy4 := r_add ey4 (by omega) (by omega)
  refine va_sld hx hb hX hbl hbA hS (vp_in_iff.mpr ⟨by omega, by omega⟩) dL_law_953 ?_
  refine lv_topi (fun z5 _ => ?_)
  have e8 := (show okX9 ad m_taped m_size m_faultKind m_faultPlace m_at m_end m_token m_number m_name m_bank m_rb m_codes m_within m_piled m_unitsInRule m_askStrand m_askTied m_thoughtClaim m_thoughtNeed m_thoughtAll m_acts m_undone m_laid m_firstMove m_seens m_time m_waysNow m_fitting 148 (f 148) from hTm.1 148 (by decide)).1
  refine tVI (As := [.int z5]) (rest := []) (i := 148) ⟨hx, hb, hml, hown, hts⟩ hK hE hP hD hS hA hAB (s_X9_fall_0 l s.heap.size adK adV D cy ad f c_text m_taped m_size m_faultKind m_faultPlace m_at m_end m_token m_number m_name c_points c_strands c_units c_told c_ruleFrom c_ruleTo c_code c_eWhat c_eSign m_bank m_rb m_codes m_within m_piled m_unitsInRule m_askStrand m_askTied m_thoughtClaim m_thoughtNeed m_thoughtAll c_roundOf m_acts m_undone m_laid m_firstMove m_seens m_time m_waysNow m_fitting f hTm z5 hCV _) (cwV 1 hts gL_law_X9_fall rfl rfl rfl (by decide +kernel) ⟨Nat.le_of_ble_eq_true rfl, Nat.le_of_ble_eq_true rfl⟩) (by decide) 9 e8 rfl rfl hl.1 rfl (Nat.le_of_ble_eq_true rfl) dL_law_954 ⟨Nat.le_of_ble_eq_true rfl, Nat.le_of_ble_eq_true rfl⟩ (fun r6 f H locs hw hP hD hS => ?_)
  obtain ⟨_, w7, w8, w9, hT2⟩ := hw
  obtain ⟨hTx, hTm⟩ := LX_m hT2 hTx
  refine lv_pop hx hb dL_law_957 rfl ?_
  refine lv_goto (tgt := 1720) hx hb dL_law_958 (by decide) ?_
  exact hk _ _ _ ⟨tx, rby, rnx, c_text, m_taped, m_size, m_faultKind, m_faultPlace, m_at, m_end, m_token, m_number, m_name, c_points, c_strands, c_units, c_told, c_ruleFrom, c_ruleTo, c_code, c_eWhat, c_eSign, m_bank, m_rb, m_codes, m_within, m_piled, m_unitsInRule, w7, w8, m_thoughtClaim, m_thoughtNeed, m_thoughtAll, w9, m_acts, m_undone, m_laid, m_firstMove, m_seens, m_time, m_waysNow, m_fitting, hTx, hTm, by omega, hCV, by omega, by omega⟩ hP hD hS
set_option maxHeartbeats 4000000 in
set_option maxRecDepth 100000 in
theorem lo_27 {p : Program} {e : Env} {s : State} {m : MethodId} {below : List Frame} {meth : Method} {c : Code} {l : Launch} {b L : Nat} {xs : Nat → Int32} {D : va_G} {cy : Nat → ClassId} {ad : Nat → Nat} {adK adV : Nat → Nat} {f : Nat → va_E} {H : Heap} {locs : List Loc} {ls : Array Slot} (C : LX p s m meth c b L xs D cy) (hE : EN s.heap.size adK adV s) (hLI : LI ad cy f) (hP : va_P D vwCl (wl ad f) H) (hD : va_D (fun q : Nat => s.heap.size ≤ q) (wl ad f)) (hS : va_S (fun q : Nat => s.heap.size ≤ q) s.heap H locs) (x : Int32) (hx0 : 0 ≤ x.toInt ∧ x.toInt + 6 ≤ L) (hL : L ≤ 3072) (hl : lv_has ls 4 [(3, .int x), (2, .ref (ad 148)), (1, .ref (ad 0)), (0, .ref b)]) (hk : ∀ (f : Nat → va_E) (H : Heap) (locs : List Loc), LI ad cy f → va_P D vwCl (wl ad f) H → va_D (fun q : Nat => s.heap.size ≤ q) (wl ad f) → va_S (fun q : Nat => s.heap.size ≤ q) s.heap H locs → W p l e room_1 s m #[Value.ref b] below meth c H locs 185 12666 (lw_Z below #[Value.ref b] s) (F0 m 1720 ls [])) : W p l e room_1 s m #[Value.ref b] below meth c H locs 185 12666 (lw_Z below #[Value.ref b] s) (F0 m 961 ls []) := by
  obtain ⟨hx, hb, hr, hlk, hml, hown, hts, hX, hbl, hK⟩ := id C
  obtain ⟨tx, rby, rnx, c_text, m_taped, m_size, m_faultKind, m_faultPlace, m_at, m_end, m_token, m_number, m_name, c_points, c_strands, c_units, c_told, c_ruleFrom, c_ruleTo, c_code, c_eWhat, c_eSign, m_bank, m_rb, m_codes, m_within, m_piled, m_unitsInRule, m_askStrand, m_askTied, m_thoughtClaim, m_thoughtNeed, m_thoughtAll, c_roundOf, m_acts, m_undone, m_laid, m_firstMove, m_seens, m_time, m_waysNow, m_fitting, hTx, hTm, hAU, hCV, hTT, hTR⟩ := hLI
  have hA : ∀ q : Nat, s.heap.size ≤ q → (fun q : Nat => s.heap.size ≤ q) q := fun _ h => h
  have hAB : ∀ q : Nat, (fun q : Nat => s.heap.size ≤ q) q → s.heap.size ≤ q := fun _ h => h
  have hbA : ¬ (fun q : Nat => s.heap.size ≤ q) b := Nat.not_le.mpr hbl
  refine lv_aload_n hx hb dL_law_961 rfl (lv_at hl 2 rfl) ?_
  refine lv_aload_n hx hb dL_law_962 rfl (lv_at hl 3 rfl) ?_
  refine lv_iload_n hx hb dL_law_963 rfl (lv_at hl 0 rfl) ?_
  refine lv_iconst (v := 1) hx hb dL_law_964 (by decide) ?_
  refine lv_iadd hx hb dL_law_965 ?_
  refine lv_topi (fun y1 ey1 => ?_)
  have ty1 := tl_1
  have hy1 := r_add ey1 (by omega) (by omega)
  refine va_sld hx hb hX hbl hbA hS (vp_in_iff.mpr ⟨by omega, by omega⟩) dL_law_966 ?_
  refine lv_topi (fun z2 _ => ?_)
  obtain ⟨_, _, _, e8, _⟩ := (show okX8 ad tx 0 (f 0) from hTx.1 0 (by decide))
  refine tVI (As := [.int z2]) (rest := []) (i := 0) ⟨hx, hb, hml, hown, hts⟩ hK hE hP hD hS hA hAB (s_X8_keystone_0 l s.heap.size adK adV D cy ad f tx rby rnx f hTx z2 _) (cwV 1 hts gL_law_X8_keystone rfl rfl rfl (by decide +kernel) ⟨Nat.le_of_ble_eq_true rfl, Nat.le_of_ble_eq_true rfl⟩) (by decide) 8 e8 rfl rfl hl.1 rfl (Nat.le_of_ble_eq_true rfl) dL_law_967 ⟨Nat.le_of_ble_eq_true rfl, Nat.le_of_ble_eq_true rfl⟩ (fun r3 f H locs hw hP hD hS => ?_)
  obtain ⟨_, hT2⟩ := hw
  obtain ⟨hTx, hTm⟩ := LX_c hT2 hTm
  refine lv_pop hx hb dL_law_970 rfl ?_
  refine lv_aload_n hx hb dL_law_971 rfl (lv_at hl 1 rfl) ?_
  refine lv_aload_n hx hb dL_law_972 rfl (lv_at hl 3 rfl) ?_
  refine lv_iload_n hx hb dL_law_973 rfl (lv_at hl 0 rfl) ?_
  refine lv_iconst (v := 1) hx hb dL_law_974 (by decide) ?_
  refine lv_iadd hx hb dL_law_975 ?_
  refine lv_topi (fun y4 ey4 => ?_)
  have ty4 := tl_1
  have hy4 := r_add ey4 (by omega) (by omega)
  refine va_sld hx hb hX hbl hbA hS (vp_in_iff.mpr ⟨by omega, by omega⟩) dL_law_976 ?_
  refine lv_topi (fun z5 _ => ?_)
  have e8 := (show okX9 ad m_taped m_size m_faultKind m_faultPlace m_at m_end m_token m_number m_name m_bank m_rb m_codes m_within m_piled m_unitsInRule m_askStrand m_askTied m_thoughtClaim m_thoughtNeed m_thoughtAll m_acts m_undone m_laid m_firstMove m_seens m_time m_waysNow m_fitting 148 (f 148) from hTm.1 148 (by decide)).1
  refine tVI (As := [.int z5]) (rest := []) (i := 148) ⟨hx, hb, hml, hown, hts⟩ hK hE hP hD hS hA hAB (s_X9_keystone_0 l s.heap.size adK adV D cy ad f c_text m_taped m_size m_faultKind m_faultPlace m_at m_end m_token m_number m_name c_points c_strands c_units c_told c_ruleFrom c_ruleTo c_code c_eWhat c_eSign m_bank m_rb m_codes m_within m_piled m_unitsInRule m_askStrand m_askTied m_thoughtClaim m_thoughtNeed m_thoughtAll c_roundOf m_acts m_undone m_laid m_firstMove m_seens m_time m_waysNow m_fitting f hTm z5 hCV _) (cwV 1 hts gL_law_X9_keystone rfl rfl rfl (by decide +kernel) ⟨Nat.le_of_ble_eq_true rfl, Nat.le_of_ble_eq_true rfl⟩) (by decide) 9 e8 rfl rfl hl.1 rfl (Nat.le_of_ble_eq_true rfl) dL_law_977 ⟨Nat.le_of_ble_eq_true rfl, Nat.le_of_ble_eq_true rfl⟩ (fun r6 f H locs hw hP hD hS => ?_)
  obtain ⟨_, w7, w8, w9, hT2⟩ := hw
  obtain ⟨hTx, hTm⟩ := LX_m hT2 hTx
  refine lv_pop hx hb dL_law_980 rfl ?_
  refine lv_goto (tgt := 1720) hx hb dL_law_981 (by decide) ?_
  exact hk _ _ _ ⟨tx, rby, rnx, c_text, m_taped, m_size, m_faultKind, m_faultPlace, m_at, m_end, m_token, m_number, m_name, c_points, c_strands, c_units, c_told, c_ruleFrom, c_ruleTo, c_code, c_eWhat, c_eSign, m_bank, m_rb, m_codes, m_within, m_piled, m_unitsInRule, w7, w8, m_thoughtClaim, m_thoughtNeed, m_thoughtAll, w9, m_acts, m_undone, m_laid, m_firstMove, m_seens, m_time, m_waysNow, m_fitting, hTx, hTm, by omega, hCV, by omega, by omega⟩ hP hD hS
set_option maxHeartbeats 4000000 in
set_option maxRecDepth 100000 in
theorem lo_28 {p : Program} {e : Env} {s : State} {m : MethodId} {below : List Frame} {meth : Method} {c : Code} {l : Launch} {b L : Nat} {xs : Nat → Int32} {D : va_G} {cy : Nat → ClassId} {ad : Nat → Nat} {adK adV : Nat → Nat} {f : Nat → va_E} {H : Heap} {locs : List Loc} {ls : Array Slot} (C : LX p s m meth c b L xs D cy) (hE : EN s.heap.size adK adV s) (hLI : LI ad cy f) (hP : va_P D vwCl (wl ad f) H) (hD : va_D (fun q : Nat => s.heap.size ≤ q) (wl ad f)) (hS : va_S (fun q : Nat => s.heap.size ≤ q) s.heap H locs) (x : Int32) (hx0 : 0 ≤ x.toInt ∧ x.toInt + 6 ≤ L) (hL : L ≤ 3072) (hl : lv_has ls 4 [(3, .int x), (2, .ref (ad 148)), (1, .ref (ad 0)), (0, .ref b)]) (hk : ∀ (f : Nat → va_E) (H : Heap) (locs : List Loc), LI ad cy f → va_P D vwCl (wl ad f) H → va_D (fun q : Nat => s.heap.size ≤ q) (wl ad f) → va_S (fun q : Nat => s.heap.size ≤ q) s.heap H locs → W p l e room_1 s m #[Value.ref b] below meth c H locs 185 12666 (lw_Z below #[Value.ref b] s) (F0 m 1720 ls [])) : W p l e room_1 s m #[Value.ref b] below meth c H locs 185 12666 (lw_Z below #[Value.ref b] s) (F0 m 984 ls []) := by
  obtain ⟨hx, hb, hr, hlk, hml, hown, hts, hX, hbl, hK⟩ := id C
  obtain ⟨tx, rby, rnx, c_text, m_taped, m_size, m_faultKind, m_faultPlace, m_at, m_end, m_token, m_number, m_name, c_points, c_strands, c_units, c_told, c_ruleFrom, c_ruleTo, c_code, c_eWhat, c_eSign, m_bank, m_rb, m_codes, m_within, m_piled, m_unitsInRule, m_askStrand, m_askTied, m_thoughtClaim, m_thoughtNeed, m_thoughtAll, c_roundOf, m_acts, m_undone, m_laid, m_firstMove, m_seens, m_time, m_waysNow, m_fitting, hTx, hTm, hAU, hCV, hTT, hTR⟩ := hLI
  have hA : ∀ q : Nat, s.heap.size ≤ q → (fun q : Nat => s.heap.size ≤ q) q := fun _ h => h
  have hAB : ∀ q : Nat, (fun q : Nat => s.heap.size ≤ q) q → s.heap.size ≤ q := fun _ h => h
  have hbA : ¬ (fun q : Nat => s.heap.size ≤ q) b := Nat.not_le.mpr hbl
  refine lv_aload_n hx hb dL_law_984 rfl (lv_at hl 2 rfl) ?_
  refine lv_aload_n hx hb dL_law_985 rfl (lv_at hl 3 rfl) ?_
  refine lv_iload_n hx hb dL_law_986 rfl (lv_at hl 0 rfl) ?_
  refine lv_iconst (v := 1) hx hb dL_law_987 (by decide) ?_
  refine lv_iadd hx hb dL_law_988 ?_
  refine lv_topi (fun y1 ey1 => ?_)
  have ty1 := tl_1
  have hy1 := r_add ey1 (by omega) (by omega)
  refine va_sld hx hb hX hbl hbA hS (vp_in_iff.mpr ⟨by omega, by omega⟩) dL_law_989 ?_
  refine lv_topi (fun z2 _ => ?_)
  obtain ⟨_, _, _, e8, _⟩ := (show okX8 ad tx 0 (f 0) from hTx.1 0 (by decide))
  refine tVI (As := [.int z2]) (rest := []) (i := 0) ⟨hx, hb, hml, hown, hts⟩ hK hE hP hD hS hA hAB (s_X8_holds_0 l s.heap.size adK adV D cy ad f tx rby rnx f hTx z2 _) (cwV 1 hts gL_law_X8_holds rfl rfl rfl (by decide +kernel) ⟨Nat.le_of_ble_eq_true rfl, Nat.le_of_ble_eq_true rfl⟩) (by decide) 8 e8 rfl rfl hl.1 rfl (Nat.le_of_ble_eq_true rfl) dL_law_990 ⟨Nat.le_of_ble_eq_true rfl, Nat.le_of_ble_eq_true rfl⟩ (fun r3 f H locs hw hP hD hS => ?_)
  obtain ⟨_, hT2⟩ := hw
  obtain ⟨hTx, hTm⟩ := LX_c hT2 hTm
  refine lv_pop hx hb dL_law_993 rfl ?_
  refine lv_aload_n hx hb dL_law_994 rfl (lv_at hl 1 rfl) ?_
  refine lv_aload_n hx hb dL_law_995 rfl (lv_at hl 3 rfl) ?_
  refine lv_iload_n hx hb dL_law_996 rfl (lv_at hl 0 rfl) ?_
  refine lv_iconst (v := 1) hx hb dL_law_997 (by decide) ?_
  refine lv_iadd hx hb dL_law_998 ?_
  refine lv_topi (fun y4 ey4 => ?_)
  have ty4 := tl_1
  have hy4 := r_add ey4 (by omega) (by omega)
  refine va_sld hx hb hX hbl hbA hS (vp_in_iff.mpr ⟨by omega, by omega⟩) dL_law_999 ?_
  refine lv_topi (fun z5 _ => ?_)
  have e8 := (show okX9 ad m_taped m_size m_faultKind m_faultPlace m_at m_end m_token m_number m_name m_bank m_rb m_codes m_within m_piled m_unitsInRule m_askStrand m_askTied m_thoughtClaim m_thoughtNeed m_thoughtAll m_acts m_undone m_laid m_firstMove m_seens m_time m_waysNow m_fitting 148 (f 148) from hTm.1 148 (by decide)).1
  refine tVI (As := [.int z5]) (rest := []) (i := 148) ⟨hx, hb, hml, hown, hts⟩ hK hE hP hD hS hA hAB (s_X9_holds_0 l s.heap.size adK adV D cy ad f c_text m_taped m_size m_faultKind m_faultPlace m_at m_end m_token m_number m_name c_points c_strands c_units c_told c_ruleFrom c_ruleTo c_code c_eWhat c_eSign m_bank m_rb m_codes m_within m_piled m_unitsInRule m_askStrand m_askTied m_thoughtClaim m_thoughtNeed m_thoughtAll c_roundOf m_acts m_undone m_laid m_firstMove m_seens m_time m_waysNow m_fitting f hTm z5 hCV _) (cwV 1 hts gL_law_X9_holds rfl rfl rfl (by decide +kernel) ⟨Nat.le_of_ble_eq_true rfl, Nat.le_of_ble_eq_true rfl⟩) (by decide) 9 e8 rfl rfl hl.1 rfl (Nat.le_of_ble_eq_true rfl) dL_law_1000 ⟨Nat.le_of_ble_eq_true rfl, Nat.le_of_ble_eq_true rfl⟩ (fun r6 f H locs hw hP hD hS => ?_)
  obtain ⟨_, w7, w8, w9, hT2⟩ := hw
  obtain ⟨hTx, hTm⟩ := LX_m hT2 hTx
  refine lv_pop hx hb dL_law_1003 rfl ?_
  refine lv_goto (tgt := 1720) hx hb dL_law_1004 (by decide) ?_
  exact hk _ _ _ ⟨tx, rby, rnx, c_text, m_taped, m_size, m_faultKind, m_faultPlace, m_at, m_end, m_token, m_number, m_name, c_points, c_strands, c_units, c_told, c_ruleFrom, c_ruleTo, c_code, c_eWhat, c_eSign, m_bank, m_rb, m_codes, m_within, m_piled, m_unitsInRule, w7, w8, m_thoughtClaim, m_thoughtNeed, m_thoughtAll, w9, m_acts, m_undone, m_laid, m_firstMove, m_seens, m_time, m_waysNow, m_fitting, hTx, hTm, by omega, hCV, by omega, by omega⟩ hP hD hS
set_option maxHeartbeats 4000000 in
set_option maxRecDepth 100000 in
theorem lo_29 {p : Program} {e : Env} {s : State} {m : MethodId} {below : List Frame} {meth : Method} {c : Code} {l : Launch} {b L : Nat} {xs : Nat → Int32} {D : va_G} {cy : Nat → ClassId} {ad : Nat → Nat} {adK adV : Nat → Nat} {f : Nat → va_E} {H : Heap} {locs : List Loc} {ls : Array Slot} (C : LX p s m meth c b L xs D cy) (hE : EN s.heap.size adK adV s) (hLI : LI ad cy f) (hP : va_P D vwCl (wl ad f) H) (hD : va_D (fun q : Nat => s.heap.size ≤ q) (wl ad f)) (hS : va_S (fun q : Nat => s.heap.size ≤ q) s.heap H locs) (x : Int32) (hx0 : 0 ≤ x.toInt ∧ x.toInt + 6 ≤ L) (hL : L ≤ 3072) (hl : lv_has ls 4 [(3, .int x), (2, .ref (ad 148)), (1, .ref (ad 0)), (0, .ref b)]) (hk : ∀ (f : Nat → va_E) (H : Heap) (locs : List Loc), LI ad cy f → va_P D vwCl (wl ad f) H → va_D (fun q : Nat => s.heap.size ≤ q) (wl ad f) → va_S (fun q : Nat => s.heap.size ≤ q) s.heap H locs → W p l e room_1 s m #[Value.ref b] below meth c H locs 185 12666 (lw_Z below #[Value.ref b] s) (F0 m 1720 ls [])) : W p l e room_1 s m #[Value.ref b] below meth c H locs 185 12666 (lw_Z below #[Value.ref b] s) (F0 m 1007 ls []) := by
  obtain ⟨hx, hb, hr, hlk, hml, hown, hts, hX, hbl, hK⟩ := id C
  obtain ⟨tx, rby, rnx, c_text, m_taped, m_size, m_faultKind, m_faultPlace, m_at, m_end, m_token, m_number, m_name, c_points, c_strands, c_units, c_told, c_ruleFrom, c_ruleTo, c_code, c_eWhat, c_eSign, m_bank, m_rb, m_codes, m_within, m_piled, m_unitsInRule, m_askStrand, m_askTied, m_thoughtClaim, m_thoughtNeed, m_thoughtAll, c_roundOf, m_acts, m_undone, m_laid, m_firstMove, m_seens, m_time, m_waysNow, m_fitting, hTx, hTm, hAU, hCV, hTT, hTR⟩ := hLI
  have hA : ∀ q : Nat, s.heap.size ≤ q → (fun q : Nat => s.heap.size ≤ q) q := fun _ h => h
  have hAB : ∀ q : Nat, (fun q : Nat => s.heap.size ≤ q) q → s.heap.size ≤ q := fun _ h => h
  have hbA : ¬ (fun q : Nat => s.heap.size ≤ q) b := Nat.not_le.mpr hbl
  refine lv_aload_n hx hb dL_law_1007 rfl (lv_at hl 2 rfl) ?_
  obtain ⟨_, _, _, e8, _⟩ := (show okX8 ad tx 0 (f 0) from hTx.1 0 (by decide))
  refine tVI (As := []) (rest := []) (i := 0) ⟨hx, hb, hml, hown, hts⟩ hK hE hP hD hS hA hAB (s_X8_spare_0 l s.heap.size adK adV D cy ad f tx rby rnx f hTx _) (cwV 0 hts gL_law_X8_spare rfl rfl rfl (by decide +kernel) ⟨Nat.le_of_ble_eq_true rfl, Nat.le_of_ble_eq_true rfl⟩) (by decide) 8 e8 rfl rfl hl.1 rfl (Nat.le_of_ble_eq_true rfl) dL_law_1008 ⟨Nat.le_of_ble_eq_true rfl, Nat.le_of_ble_eq_true rfl⟩ (fun r1 f H locs hw hP hD hS => ?_)
  obtain ⟨_, hT2⟩ := hw
  obtain ⟨hTx, hTm⟩ := LX_c hT2 hTm
  refine lv_pop hx hb dL_law_1011 rfl ?_
  refine lv_aload_n hx hb dL_law_1012 rfl (lv_at hl 1 rfl) ?_
  have e8 := (show okX9 ad m_taped m_size m_faultKind m_faultPlace m_at m_end m_token m_number m_name m_bank m_rb m_codes m_within m_piled m_unitsInRule m_askStrand m_askTied m_thoughtClaim m_thoughtNeed m_thoughtAll m_acts m_undone m_laid m_firstMove m_seens m_time m_waysNow m_fitting 148 (f 148) from hTm.1 148 (by decide)).1
  refine tVI (As := []) (rest := []) (i := 148) ⟨hx, hb, hml, hown, hts⟩ hK hE hP hD hS hA hAB (s_X9_spare_0 l s.heap.size adK adV D cy ad f c_text m_taped m_size m_faultKind m_faultPlace m_at m_end m_token m_number m_name c_points c_strands c_units c_told c_ruleFrom c_ruleTo c_code c_eWhat c_eSign m_bank m_rb m_codes m_within m_piled m_unitsInRule m_askStrand m_askTied m_thoughtClaim m_thoughtNeed m_thoughtAll c_roundOf m_acts m_undone m_laid m_firstMove m_seens m_time m_waysNow m_fitting f hTm hCV _) (cwV 0 hts gL_law_X9_spare rfl rfl rfl (by decide +kernel) ⟨Nat.le_of_ble_eq_true rfl, Nat.le_of_ble_eq_true rfl⟩) (by decide) 9 e8 rfl rfl hl.1 rfl (Nat.le_of_ble_eq_true rfl) dL_law_1013 ⟨Nat.le_of_ble_eq_true rfl, Nat.le_of_ble_eq_true rfl⟩ (fun r2 f H locs hw hP hD hS => ?_)
  obtain ⟨_, w3, w4, w5, hT2, h6⟩ := hw
  obtain ⟨hTx, hTm⟩ := LX_m hT2 hTx
  refine lv_pop hx hb dL_law_1016 rfl ?_
  refine lv_goto (tgt := 1720) hx hb dL_law_1017 (by decide) ?_
  exact hk _ _ _ ⟨tx, rby, rnx, c_text, m_taped, m_size, m_faultKind, m_faultPlace, m_at, m_end, m_token, m_number, m_name, c_points, c_strands, c_units, c_told, c_ruleFrom, c_ruleTo, c_code, c_eWhat, c_eSign, m_bank, m_rb, m_codes, m_within, m_piled, m_unitsInRule, w3, w4, m_thoughtClaim, m_thoughtNeed, m_thoughtAll, w5, m_acts, m_undone, m_laid, m_firstMove, m_seens, m_time, m_waysNow, m_fitting, hTx, hTm, by omega, hCV, by omega, by omega⟩ hP hD hS
set_option maxHeartbeats 4000000 in
set_option maxRecDepth 100000 in
theorem lo_30 {p : Program} {e : Env} {s : State} {m : MethodId} {below : List Frame} {meth : Method} {c : Code} {l : Launch} {b L : Nat} {xs : Nat → Int32} {D : va_G} {cy : Nat → ClassId} {ad : Nat → Nat} {adK adV : Nat → Nat} {f : Nat → va_E} {H : Heap} {locs : List Loc} {ls : Array Slot} (C : LX p s m meth c b L xs D cy) (hE : EN s.heap.size adK adV s) (hLI : LI ad cy f) (hP : va_P D vwCl (wl ad f) H) (hD : va_D (fun q : Nat => s.heap.size ≤ q) (wl ad f)) (hS : va_S (fun q : Nat => s.heap.size ≤ q) s.heap H locs) (x : Int32) (hx0 : 0 ≤ x.toInt ∧ x.toInt + 6 ≤ L) (hL : L ≤ 3072) (hl : lv_has ls 4 [(3, .int x), (2, .ref (ad 148)), (1, .ref (ad 0)), (0, .ref b)]) (hk : ∀ (f : Nat → va_E) (H : Heap) (locs : List Loc), LI ad cy f → va_P D vwCl (wl ad f) H → va_D (fun q : Nat => s.heap.size ≤ q) (wl ad f) → va_S (fun q : Nat => s.heap.size ≤ q) s.heap H locs → W p l e room_1 s m #[Value.ref b] below meth c H locs 185 12666 (lw_Z below #[Value.ref b] s) (F0 m 1720 ls [])) : W p l e room_1 s m #[Value.ref b] below meth c H locs 185 12666 (lw_Z below #[Value.ref b] s) (F0 m 1020 ls []) := by
  obtain ⟨hx, hb, hr, hlk, hml, hown, hts, hX, hbl, hK⟩ := id C
  obtain ⟨tx, rby, rnx, c_text, m_taped, m_size, m_faultKind, m_faultPlace, m_at, m_end, m_token, m_number, m_name, c_points, c_strands, c_units, c_told, c_ruleFrom, c_ruleTo, c_code, c_eWhat, c_eSign, m_bank, m_rb, m_codes, m_within, m_piled, m_unitsInRule, m_askStrand, m_askTied, m_thoughtClaim, m_thoughtNeed, m_thoughtAll, c_roundOf, m_acts, m_undone, m_laid, m_firstMove, m_seens, m_time, m_waysNow, m_fitting, hTx, hTm, hAU, hCV, hTT, hTR⟩ := hLI
  have hA : ∀ q : Nat, s.heap.size ≤ q → (fun q : Nat => s.heap.size ≤ q) q := fun _ h => h
  have hAB : ∀ q : Nat, (fun q : Nat => s.heap.size ≤ q) q → s.heap.size ≤ q := fun _ h => h
  have hbA : ¬ (fun q : Nat => s.heap.size ≤ q) b := Nat.not_le.mpr hbl
  refine lv_aload_n hx hb dL_law_1020 rfl (lv_at hl 2 rfl) ?_
  refine lv_aload_n hx hb dL_law_1021 rfl (lv_at hl 3 rfl) ?_
  refine lv_iload_n hx hb dL_law_1022 rfl (lv_at hl 0 rfl) ?_
  refine lv_iconst (v := 1) hx hb dL_law_1023 (by decide) ?_
  refine lv_iadd hx hb dL_law_1024 ?_
  refine lv_topi (fun y1 ey1 => ?_)
  have ty1 := tl_1
  have hy1 := r_add ey1 (by omega) (by omega)
  refine va_sld hx hb hX hbl hbA hS (vp_in_iff.mpr ⟨by omega, by omega⟩) dL_law_1025 ?_
  refine lv_topi (fun z2 _ => ?_)
  obtain ⟨_, _, _, e8, _⟩ := (show okX8 ad tx 0 (f 0) from hTx.1 0 (by decide))
  refine tVI (As := [.int z2]) (rest := []) (i := 0) ⟨hx, hb, hml, hown, hts⟩ hK hE hP hD hS hA hAB (s_X8_firmest_0 l s.heap.size adK adV D cy ad f tx rby rnx f hTx z2 _) (cwV 1 hts gL_law_X8_firmest rfl rfl rfl (by decide +kernel) ⟨Nat.le_of_ble_eq_true rfl, Nat.le_of_ble_eq_true rfl⟩) (by decide) 8 e8 rfl rfl hl.1 rfl (Nat.le_of_ble_eq_true rfl) dL_law_1026 ⟨Nat.le_of_ble_eq_true rfl, Nat.le_of_ble_eq_true rfl⟩ (fun r3 f H locs hw hP hD hS => ?_)
  obtain ⟨_, hT2⟩ := hw
  obtain ⟨hTx, hTm⟩ := LX_c hT2 hTm
  refine lv_pop hx hb dL_law_1029 rfl ?_
  refine lv_aload_n hx hb dL_law_1030 rfl (lv_at hl 1 rfl) ?_
  refine lv_aload_n hx hb dL_law_1031 rfl (lv_at hl 3 rfl) ?_
  refine lv_iload_n hx hb dL_law_1032 rfl (lv_at hl 0 rfl) ?_
  refine lv_iconst (v := 1) hx hb dL_law_1033 (by decide) ?_
  refine lv_iadd hx hb dL_law_1034 ?_
  refine lv_topi (fun y4 ey4 => ?_)
  have ty4 := tl_1
  have hy4 := r_add ey4 (by omega) (by omega)
  refine va_sld hx hb hX hbl hbA hS (vp_in_iff.mpr ⟨by omega, by omega⟩) dL_law_1035 ?_
  refine lv_topi (fun z5 _ => ?_)
  have e8 := (show okX9 ad m_taped m_size m_faultKind m_faultPlace m_at m_end m_token m_number m_name m_bank m_rb m_codes m_within m_piled m_unitsInRule m_askStrand m_askTied m_thoughtClaim m_thoughtNeed m_thoughtAll m_acts m_undone m_laid m_firstMove m_seens m_time m_waysNow m_fitting 148 (f 148) from hTm.1 148 (by decide)).1
  refine tVI (As := [.int z5]) (rest := []) (i := 148) ⟨hx, hb, hml, hown, hts⟩ hK hE hP hD hS hA hAB (s_X9_firmest_0 l s.heap.size adK adV D cy ad f c_text m_taped m_size m_faultKind m_faultPlace m_at m_end m_token m_number m_name c_points c_strands c_units c_told c_ruleFrom c_ruleTo c_code c_eWhat c_eSign m_bank m_rb m_codes m_within m_piled m_unitsInRule m_askStrand m_askTied m_thoughtClaim m_thoughtNeed m_thoughtAll c_roundOf m_acts m_undone m_laid m_firstMove m_seens m_time m_waysNow m_fitting f hTm z5 hCV _) (cwV 1 hts gL_law_X9_firmest rfl rfl rfl (by decide +kernel) ⟨Nat.le_of_ble_eq_true rfl, Nat.le_of_ble_eq_true rfl⟩) (by decide) 9 e8 rfl rfl hl.1 rfl (Nat.le_of_ble_eq_true rfl) dL_law_1036 ⟨Nat.le_of_ble_eq_true rfl, Nat.le_of_ble_eq_true rfl⟩ (fun r6 f H locs hw hP hD hS => ?_)
  obtain ⟨_, w7, w8, w9, hT2⟩ := hw
  obtain ⟨hTx, hTm⟩ := LX_m hT2 hTx
  refine lv_pop hx hb dL_law_1039 rfl ?_
  refine lv_goto (tgt := 1720) hx hb dL_law_1040 (by decide) ?_
  exact hk _ _ _ ⟨tx, rby, rnx, c_text, m_taped, m_size, m_faultKind, m_faultPlace, m_at, m_end, m_token, m_number, m_name, c_points, c_strands, c_units, c_told, c_ruleFrom, c_ruleTo, c_code, c_eWhat, c_eSign, m_bank, m_rb, m_codes, m_within, m_piled, m_unitsInRule, w7, w8, m_thoughtClaim, m_thoughtNeed, m_thoughtAll, w9, m_acts, m_undone, m_laid, m_firstMove, m_seens, m_time, m_waysNow, m_fitting, hTx, hTm, by omega, hCV, by omega, by omega⟩ hP hD hS
set_option maxHeartbeats 4000000 in
set_option maxRecDepth 100000 in
theorem lo_31 {p : Program} {e : Env} {s : State} {m : MethodId} {below : List Frame} {meth : Method} {c : Code} {l : Launch} {b L : Nat} {xs : Nat → Int32} {D : va_G} {cy : Nat → ClassId} {ad : Nat → Nat} {adK adV : Nat → Nat} {f : Nat → va_E} {H : Heap} {locs : List Loc} {ls : Array Slot} (C : LX p s m meth c b L xs D cy) (hE : EN s.heap.size adK adV s) (hLI : LI ad cy f) (hP : va_P D vwCl (wl ad f) H) (hD : va_D (fun q : Nat => s.heap.size ≤ q) (wl ad f)) (hS : va_S (fun q : Nat => s.heap.size ≤ q) s.heap H locs) (x : Int32) (hx0 : 0 ≤ x.toInt ∧ x.toInt + 6 ≤ L) (hL : L ≤ 3072) (hl : lv_has ls 4 [(3, .int x), (2, .ref (ad 148)), (1, .ref (ad 0)), (0, .ref b)]) (hk : ∀ (f : Nat → va_E) (H : Heap) (locs : List Loc), LI ad cy f → va_P D vwCl (wl ad f) H → va_D (fun q : Nat => s.heap.size ≤ q) (wl ad f) → va_S (fun q : Nat => s.heap.size ≤ q) s.heap H locs → W p l e room_1 s m #[Value.ref b] below meth c H locs 185 12666 (lw_Z below #[Value.ref b] s) (F0 m 1720 ls [])) : W p l e room_1 s m #[Value.ref b] below meth c H locs 185 12666 (lw_Z below #[Value.ref b] s) (F0 m 1043 ls []) := by
  obtain ⟨hx, hb, hr, hlk, hml, hown, hts, hX, hbl, hK⟩ := id C
  obtain ⟨tx, rby, rnx, c_text, m_taped, m_size, m_faultKind, m_faultPlace, m_at, m_end, m_token, m_number, m_name, c_points, c_strands, c_units, c_told, c_ruleFrom, c_ruleTo, c_code, c_eWhat, c_eSign, m_bank, m_rb, m_codes, m_within, m_piled, m_unitsInRule, m_askStrand, m_askTied, m_thoughtClaim, m_thoughtNeed, m_thoughtAll, c_roundOf, m_acts, m_undone, m_laid, m_firstMove, m_seens, m_time, m_waysNow, m_fitting, hTx, hTm, hAU, hCV, hTT, hTR⟩ := hLI
  have hA : ∀ q : Nat, s.heap.size ≤ q → (fun q : Nat => s.heap.size ≤ q) q := fun _ h => h
  have hAB : ∀ q : Nat, (fun q : Nat => s.heap.size ≤ q) q → s.heap.size ≤ q := fun _ h => h
  have hbA : ¬ (fun q : Nat => s.heap.size ≤ q) b := Nat.not_le.mpr hbl
  refine lv_aload_n hx hb dL_law_1043 rfl (lv_at hl 2 rfl) ?_
  obtain ⟨_, _, _, e8, _⟩ := (show okX8 ad tx 0 (f 0) from hTx.1 0 (by decide))
  refine tVI (As := []) (rest := []) (i := 0) ⟨hx, hb, hml, hown, hts⟩ hK hE hP hD hS hA hAB (s_X8_burdened_0 l s.heap.size adK adV D cy ad f tx rby rnx f hTx _) (cwV 0 hts gL_law_X8_burdened rfl rfl rfl (by decide +kernel) ⟨Nat.le_of_ble_eq_true rfl, Nat.le_of_ble_eq_true rfl⟩) (by decide) 8 e8 rfl rfl hl.1 rfl (Nat.le_of_ble_eq_true rfl) dL_law_1044 ⟨Nat.le_of_ble_eq_true rfl, Nat.le_of_ble_eq_true rfl⟩ (fun r1 g H locs hw hP hD hS => ?_)
  obtain ⟨_, rfl⟩ := hw
  refine lv_pop hx hb dL_law_1047 rfl ?_
  refine lv_aload_n hx hb dL_law_1048 rfl (lv_at hl 1 rfl) ?_
  have e8 := (show okX9 ad m_taped m_size m_faultKind m_faultPlace m_at m_end m_token m_number m_name m_bank m_rb m_codes m_within m_piled m_unitsInRule m_askStrand m_askTied m_thoughtClaim m_thoughtNeed m_thoughtAll m_acts m_undone m_laid m_firstMove m_seens m_time m_waysNow m_fitting 148 (f 148) from hTm.1 148 (by decide)).1
  refine tVI (As := []) (rest := []) (i := 148) ⟨hx, hb, hml, hown, hts⟩ hK hE hP hD hS hA hAB (s_X9_burdened_0 l s.heap.size adK adV D cy ad f c_text m_taped m_size m_faultKind m_faultPlace m_at m_end m_token m_number m_name c_points c_strands c_units c_told c_ruleFrom c_ruleTo c_code c_eWhat c_eSign m_bank m_rb m_codes m_within m_piled m_unitsInRule m_askStrand m_askTied m_thoughtClaim m_thoughtNeed m_thoughtAll c_roundOf m_acts m_undone m_laid m_firstMove m_seens m_time m_waysNow m_fitting f hTm _) (cwV 0 hts gL_law_X9_burdened rfl rfl rfl (by decide +kernel) ⟨Nat.le_of_ble_eq_true rfl, Nat.le_of_ble_eq_true rfl⟩) (by decide) 9 e8 rfl rfl hl.1 rfl (Nat.le_of_ble_eq_true rfl) dL_law_1049 ⟨Nat.le_of_ble_eq_true rfl, Nat.le_of_ble_eq_true rfl⟩ (fun r2 g H locs hw hP hD hS => ?_)
  obtain ⟨_, rfl⟩ := hw
  refine lv_pop hx hb dL_law_1052 rfl ?_
  refine lv_goto (tgt := 1720) hx hb dL_law_1053 (by decide) ?_
  exact hk _ _ _ ⟨tx, rby, rnx, c_text, m_taped, m_size, m_faultKind, m_faultPlace, m_at, m_end, m_token, m_number, m_name, c_points, c_strands, c_units, c_told, c_ruleFrom, c_ruleTo, c_code, c_eWhat, c_eSign, m_bank, m_rb, m_codes, m_within, m_piled, m_unitsInRule, m_askStrand, m_askTied, m_thoughtClaim, m_thoughtNeed, m_thoughtAll, c_roundOf, m_acts, m_undone, m_laid, m_firstMove, m_seens, m_time, m_waysNow, m_fitting, hTx, hTm, by omega, hCV, by omega, by omega⟩ hP hD hS
set_option maxHeartbeats 4000000 in
set_option maxRecDepth 100000 in
theorem lo_32 {p : Program} {e : Env} {s : State} {m : MethodId} {below : List Frame} {meth : Method} {c : Code} {l : Launch} {b L : Nat} {xs : Nat → Int32} {D : va_G} {cy : Nat → ClassId} {ad : Nat → Nat} {adK adV : Nat → Nat} {f : Nat → va_E} {H : Heap} {locs : List Loc} {ls : Array Slot} (C : LX p s m meth c b L xs D cy) (hE : EN s.heap.size adK adV s) (hLI : LI ad cy f) (hP : va_P D vwCl (wl ad f) H) (hD : va_D (fun q : Nat => s.heap.size ≤ q) (wl ad f)) (hS : va_S (fun q : Nat => s.heap.size ≤ q) s.heap H locs) (x : Int32) (hx0 : 0 ≤ x.toInt ∧ x.toInt + 6 ≤ L) (hL : L ≤ 3072) (hl : lv_has ls 4 [(3, .int x), (2, .ref (ad 148)), (1, .ref (ad 0)), (0, .ref b)]) (hk : ∀ (f : Nat → va_E) (H : Heap) (locs : List Loc), LI ad cy f → va_P D vwCl (wl ad f) H → va_D (fun q : Nat => s.heap.size ≤ q) (wl ad f) → va_S (fun q : Nat => s.heap.size ≤ q) s.heap H locs → W p l e room_1 s m #[Value.ref b] below meth c H locs 185 12666 (lw_Z below #[Value.ref b] s) (F0 m 1720 ls [])) : W p l e room_1 s m #[Value.ref b] below meth c H locs 185 12666 (lw_Z below #[Value.ref b] s) (F0 m 1056 ls []) := by
  obtain ⟨hx, hb, hr, hlk, hml, hown, hts, hX, hbl, hK⟩ := id C
  obtain ⟨tx, rby, rnx, c_text, m_taped, m_size, m_faultKind, m_faultPlace, m_at, m_end, m_token, m_number, m_name, c_points, c_strands, c_units, c_told, c_ruleFrom, c_ruleTo, c_code, c_eWhat, c_eSign, m_bank, m_rb, m_codes, m_within, m_piled, m_unitsInRule, m_askStrand, m_askTied, m_thoughtClaim, m_thoughtNeed, m_thoughtAll, c_roundOf, m_acts, m_undone, m_laid, m_firstMove, m_seens, m_time, m_waysNow, m_fitting, hTx, hTm, hAU, hCV, hTT, hTR⟩ := hLI
  have hA : ∀ q : Nat, s.heap.size ≤ q → (fun q : Nat => s.heap.size ≤ q) q := fun _ h => h
  have hAB : ∀ q : Nat, (fun q : Nat => s.heap.size ≤ q) q → s.heap.size ≤ q := fun _ h => h
  have hbA : ¬ (fun q : Nat => s.heap.size ≤ q) b := Nat.not_le.mpr hbl
  refine lv_aload_n hx hb dL_law_1056 rfl (lv_at hl 2 rfl) ?_
  refine lv_aload_n hx hb dL_law_1057 rfl (lv_at hl 3 rfl) ?_
  refine lv_iload_n hx hb dL_law_1058 rfl (lv_at hl 0 rfl) ?_
  refine lv_iconst (v := 1) hx hb dL_law_1059 (by decide) ?_
  refine lv_iadd hx hb dL_law_1060 ?_
  refine lv_topi (fun y1 ey1 => ?_)
  have ty1 := tl_1
  have hy1 := r_add ey1 (by omega) (by omega)
  refine va_sld hx hb hX hbl hbA hS (vp_in_iff.mpr ⟨by omega, by omega⟩) dL_law_1061 ?_
  refine lv_topi (fun z2 _ => ?_)
  obtain ⟨_, _, _, e8, _⟩ := (show okX8 ad tx 0 (f 0) from hTx.1 0 (by decide))
  refine tVI (As := [.int z2]) (rest := []) (i := 0) ⟨hx, hb, hml, hown, hts⟩ hK hE hP hD hS hA hAB (s_X8_roots_0 l s.heap.size adK adV D cy ad f tx rby rnx f hTx z2 _) (cwV 1 hts gL_law_X8_roots rfl rfl rfl (by decide +kernel) ⟨Nat.le_of_ble_eq_true rfl, Nat.le_of_ble_eq_true rfl⟩) (by decide) 8 e8 rfl rfl hl.1 rfl (Nat.le_of_ble_eq_true rfl) dL_law_1062 ⟨Nat.le_of_ble_eq_true rfl, Nat.le_of_ble_eq_true rfl⟩ (fun r3 g H locs hw hP hD hS => ?_)
  obtain ⟨_, rfl⟩ := hw
  refine lv_pop hx hb dL_law_1065 rfl ?_
  refine lv_aload_n hx hb dL_law_1066 rfl (lv_at hl 1 rfl) ?_
  refine lv_aload_n hx hb dL_law_1067 rfl (lv_at hl 3 rfl) ?_
  refine lv_iload_n hx hb dL_law_1068 rfl (lv_at hl 0 rfl) ?_
  refine lv_iconst (v := 1) hx hb dL_law_1069 (by decide) ?_
  refine lv_iadd hx hb dL_law_1070 ?_
  refine lv_topi (fun y4 ey4 => ?_)
  have ty4 := tl_1
  have hy4 := r_add ey4 (by omega) (by omega)
  refine va_sld hx hb hX hbl hbA hS (vp_in_iff.mpr ⟨by omega, by omega⟩) dL_law_1071 ?_
  refine lv_topi (fun z5 _ => ?_)
  have e8 := (show okX9 ad m_taped m_size m_faultKind m_faultPlace m_at m_end m_token m_number m_name m_bank m_rb m_codes m_within m_piled m_unitsInRule m_askStrand m_askTied m_thoughtClaim m_thoughtNeed m_thoughtAll m_acts m_undone m_laid m_firstMove m_seens m_time m_waysNow m_fitting 148 (f 148) from hTm.1 148 (by decide)).1
  refine tVI (As := [.int z5]) (rest := []) (i := 148) ⟨hx, hb, hml, hown, hts⟩ hK hE hP hD hS hA hAB (s_X9_roots_0 l s.heap.size adK adV D cy ad f c_text m_taped m_size m_faultKind m_faultPlace m_at m_end m_token m_number m_name c_points c_strands c_units c_told c_ruleFrom c_ruleTo c_code c_eWhat c_eSign m_bank m_rb m_codes m_within m_piled m_unitsInRule m_askStrand m_askTied m_thoughtClaim m_thoughtNeed m_thoughtAll c_roundOf m_acts m_undone m_laid m_firstMove m_seens m_time m_waysNow m_fitting f hTm z5 _) (cwV 1 hts gL_law_X9_roots rfl rfl rfl (by decide +kernel) ⟨Nat.le_of_ble_eq_true rfl, Nat.le_of_ble_eq_true rfl⟩) (by decide) 9 e8 rfl rfl hl.1 rfl (Nat.le_of_ble_eq_true rfl) dL_law_1072 ⟨Nat.le_of_ble_eq_true rfl, Nat.le_of_ble_eq_true rfl⟩ (fun r6 g H locs hw hP hD hS => ?_)
  obtain ⟨_, rfl⟩ := hw
  refine lv_pop hx hb dL_law_1075 rfl ?_
  refine lv_goto (tgt := 1720) hx hb dL_law_1076 (by decide) ?_
  exact hk _ _ _ ⟨tx, rby, rnx, c_text, m_taped, m_size, m_faultKind, m_faultPlace, m_at, m_end, m_token, m_number, m_name, c_points, c_strands, c_units, c_told, c_ruleFrom, c_ruleTo, c_code, c_eWhat, c_eSign, m_bank, m_rb, m_codes, m_within, m_piled, m_unitsInRule, m_askStrand, m_askTied, m_thoughtClaim, m_thoughtNeed, m_thoughtAll, c_roundOf, m_acts, m_undone, m_laid, m_firstMove, m_seens, m_time, m_waysNow, m_fitting, hTx, hTm, by omega, hCV, by omega, by omega⟩ hP hD hS
set_option maxHeartbeats 4000000 in
set_option maxRecDepth 100000 in
theorem lo_33 {p : Program} {e : Env} {s : State} {m : MethodId} {below : List Frame} {meth : Method} {c : Code} {l : Launch} {b L : Nat} {xs : Nat → Int32} {D : va_G} {cy : Nat → ClassId} {ad : Nat → Nat} {adK adV : Nat → Nat} {f : Nat → va_E} {H : Heap} {locs : List Loc} {ls : Array Slot} (C : LX p s m meth c b L xs D cy) (hE : EN s.heap.size adK adV s) (hLI : LI ad cy f) (hP : va_P D vwCl (wl ad f) H) (hD : va_D (fun q : Nat => s.heap.size ≤ q) (wl ad f)) (hS : va_S (fun q : Nat => s.heap.size ≤ q) s.heap H locs) (x : Int32) (hx0 : 0 ≤ x.toInt ∧ x.toInt + 6 ≤ L) (hL : L ≤ 3072) (hl : lv_has ls 4 [(3, .int x), (2, .ref (ad 148)), (1, .ref (ad 0)), (0, .ref b)]) (hk : ∀ (f : Nat → va_E) (H : Heap) (locs : List Loc), LI ad cy f → va_P D vwCl (wl ad f) H → va_D (fun q : Nat => s.heap.size ≤ q) (wl ad f) → va_S (fun q : Nat => s.heap.size ≤ q) s.heap H locs → W p l e room_1 s m #[Value.ref b] below meth c H locs 185 12666 (lw_Z below #[Value.ref b] s) (F0 m 1720 ls [])) : W p l e room_1 s m #[Value.ref b] below meth c H locs 185 12666 (lw_Z below #[Value.ref b] s) (F0 m 1079 ls []) := by
  obtain ⟨hx, hb, hr, hlk, hml, hown, hts, hX, hbl, hK⟩ := id C
  obtain ⟨tx, rby, rnx, c_text, m_taped, m_size, m_faultKind, m_faultPlace, m_at, m_end, m_token, m_number, m_name, c_points, c_strands, c_units, c_told, c_ruleFrom, c_ruleTo, c_code, c_eWhat, c_eSign, m_bank, m_rb, m_codes, m_within, m_piled, m_unitsInRule, m_askStrand, m_askTied, m_thoughtClaim, m_thoughtNeed, m_thoughtAll, c_roundOf, m_acts, m_undone, m_laid, m_firstMove, m_seens, m_time, m_waysNow, m_fitting, hTx, hTm, hAU, hCV, hTT, hTR⟩ := hLI
  have hA : ∀ q : Nat, s.heap.size ≤ q → (fun q : Nat => s.heap.size ≤ q) q := fun _ h => h
  have hAB : ∀ q : Nat, (fun q : Nat => s.heap.size ≤ q) q → s.heap.size ≤ q := fun _ h => h
  have hbA : ¬ (fun q : Nat => s.heap.size ≤ q) b := Nat.not_le.mpr hbl
  refine lv_aload_n hx hb dL_law_1079 rfl (lv_at hl 2 rfl) ?_
  refine lv_aload_n hx hb dL_law_1080 rfl (lv_at hl 3 rfl) ?_
  refine lv_iload_n hx hb dL_law_1081 rfl (lv_at hl 0 rfl) ?_
  refine lv_iconst (v := 1) hx hb dL_law_1082 (by decide) ?_
  refine lv_iadd hx hb dL_law_1083 ?_
  refine lv_topi (fun y1 ey1 => ?_)
  have ty1 := tl_1
  have hy1 := r_add ey1 (by omega) (by omega)
  refine va_sld hx hb hX hbl hbA hS (vp_in_iff.mpr ⟨by omega, by omega⟩) dL_law_1084 ?_
  refine lv_topi (fun z2 _ => ?_)
  obtain ⟨_, _, _, e8, _⟩ := (show okX8 ad tx 0 (f 0) from hTx.1 0 (by decide))
  refine tVI (As := [.int z2]) (rest := []) (i := 0) ⟨hx, hb, hml, hown, hts⟩ hK hE hP hD hS hA hAB (s_X8_law_0 l s.heap.size adK adV D cy ad f tx rby rnx f hTx z2 _) (cwV 1 hts gL_law_X8_law rfl rfl rfl (by decide +kernel) ⟨Nat.le_of_ble_eq_true rfl, Nat.le_of_ble_eq_true rfl⟩) (by decide) 8 e8 rfl rfl hl.1 rfl (Nat.le_of_ble_eq_true rfl) dL_law_1085 ⟨Nat.le_of_ble_eq_true rfl, Nat.le_of_ble_eq_true rfl⟩ (fun r3 f H locs hw hP hD hS => ?_)
  obtain ⟨_, hT2⟩ := hw
  obtain ⟨hTx, hTm⟩ := LX_c hT2 hTm
  refine lv_pop hx hb dL_law_1088 rfl ?_
  refine lv_aload_n hx hb dL_law_1089 rfl (lv_at hl 1 rfl) ?_
  refine lv_aload_n hx hb dL_law_1090 rfl (lv_at hl 3 rfl) ?_
  refine lv_iload_n hx hb dL_law_1091 rfl (lv_at hl 0 rfl) ?_
  refine lv_iconst (v := 1) hx hb dL_law_1092 (by decide) ?_
  refine lv_iadd hx hb dL_law_1093 ?_
  refine lv_topi (fun y4 ey4 => ?_)
  have ty4 := tl_1
  have hy4 := r_add ey4 (by omega) (by omega)
  refine va_sld hx hb hX hbl hbA hS (vp_in_iff.mpr ⟨by omega, by omega⟩) dL_law_1094 ?_
  refine lv_topi (fun z5 _ => ?_)
  have e8 := (show okX9 ad m_taped m_size m_faultKind m_faultPlace m_at m_end m_token m_number m_name m_bank m_rb m_codes m_within m_piled m_unitsInRule m_askStrand m_askTied m_thoughtClaim m_thoughtNeed m_thoughtAll m_acts m_undone m_laid m_firstMove m_seens m_time m_waysNow m_fitting 148 (f 148) from hTm.1 148 (by decide)).1
  refine tVI (As := [.int z5]) (rest := []) (i := 148) ⟨hx, hb, hml, hown, hts⟩ hK hE hP hD hS hA hAB (s_X9_law_0 l s.heap.size adK adV D cy ad f c_text m_taped m_size m_faultKind m_faultPlace m_at m_end m_token m_number m_name c_points c_strands c_units c_told c_ruleFrom c_ruleTo c_code c_eWhat c_eSign m_bank m_rb m_codes m_within m_piled m_unitsInRule m_askStrand m_askTied m_thoughtClaim m_thoughtNeed m_thoughtAll c_roundOf m_acts m_undone m_laid m_firstMove m_seens m_time m_waysNow m_fitting f hTm z5 hCV _) (cwV 1 hts gL_law_X9_law rfl rfl rfl (by decide +kernel) ⟨Nat.le_of_ble_eq_true rfl, Nat.le_of_ble_eq_true rfl⟩) (by decide) 9 e8 rfl rfl hl.1 rfl (Nat.le_of_ble_eq_true rfl) dL_law_1095 ⟨Nat.le_of_ble_eq_true rfl, Nat.le_of_ble_eq_true rfl⟩ (fun r6 f H locs hw hP hD hS => ?_)
  obtain ⟨_, w7, w8, w9, w10, hT2⟩ := hw
  obtain ⟨hTx, hTm⟩ := LX_m hT2 hTx
  refine lv_pop hx hb dL_law_1098 rfl ?_
  refine lv_goto (tgt := 1720) hx hb dL_law_1099 (by decide) ?_
  exact hk _ _ _ ⟨tx, rby, rnx, c_text, m_taped, m_size, m_faultKind, m_faultPlace, m_at, m_end, m_token, m_number, m_name, c_points, c_strands, c_units, c_told, c_ruleFrom, c_ruleTo, c_code, c_eWhat, c_eSign, m_bank, m_rb, m_codes, m_within, m_piled, m_unitsInRule, w7, w8, m_thoughtClaim, m_thoughtNeed, w9, w10, m_acts, m_undone, m_laid, m_firstMove, m_seens, m_time, m_waysNow, m_fitting, hTx, hTm, by omega, hCV, by omega, by omega⟩ hP hD hS
set_option maxHeartbeats 4000000 in
set_option maxRecDepth 100000 in
theorem lo_34 {p : Program} {e : Env} {s : State} {m : MethodId} {below : List Frame} {meth : Method} {c : Code} {l : Launch} {b L : Nat} {xs : Nat → Int32} {D : va_G} {cy : Nat → ClassId} {ad : Nat → Nat} {adK adV : Nat → Nat} {f : Nat → va_E} {H : Heap} {locs : List Loc} {ls : Array Slot} (C : LX p s m meth c b L xs D cy) (hE : EN s.heap.size adK adV s) (hLI : LI ad cy f) (hP : va_P D vwCl (wl ad f) H) (hD : va_D (fun q : Nat => s.heap.size ≤ q) (wl ad f)) (hS : va_S (fun q : Nat => s.heap.size ≤ q) s.heap H locs) (x : Int32) (hx0 : 0 ≤ x.toInt ∧ x.toInt + 6 ≤ L) (hL : L ≤ 3072) (hl : lv_has ls 4 [(3, .int x), (2, .ref (ad 148)), (1, .ref (ad 0)), (0, .ref b)]) (hk : ∀ (f : Nat → va_E) (H : Heap) (locs : List Loc), LI ad cy f → va_P D vwCl (wl ad f) H → va_D (fun q : Nat => s.heap.size ≤ q) (wl ad f) → va_S (fun q : Nat => s.heap.size ≤ q) s.heap H locs → W p l e room_1 s m #[Value.ref b] below meth c H locs 185 12666 (lw_Z below #[Value.ref b] s) (F0 m 1720 ls [])) : W p l e room_1 s m #[Value.ref b] below meth c H locs 185 12666 (lw_Z below #[Value.ref b] s) (F0 m 1102 ls []) := by
  obtain ⟨hx, hb, hr, hlk, hml, hown, hts, hX, hbl, hK⟩ := id C
  obtain ⟨tx, rby, rnx, c_text, m_taped, m_size, m_faultKind, m_faultPlace, m_at, m_end, m_token, m_number, m_name, c_points, c_strands, c_units, c_told, c_ruleFrom, c_ruleTo, c_code, c_eWhat, c_eSign, m_bank, m_rb, m_codes, m_within, m_piled, m_unitsInRule, m_askStrand, m_askTied, m_thoughtClaim, m_thoughtNeed, m_thoughtAll, c_roundOf, m_acts, m_undone, m_laid, m_firstMove, m_seens, m_time, m_waysNow, m_fitting, hTx, hTm, hAU, hCV, hTT, hTR⟩ := hLI
  have hA : ∀ q : Nat, s.heap.size ≤ q → (fun q : Nat => s.heap.size ≤ q) q := fun _ h => h
  have hAB : ∀ q : Nat, (fun q : Nat => s.heap.size ≤ q) q → s.heap.size ≤ q := fun _ h => h
  have hbA : ¬ (fun q : Nat => s.heap.size ≤ q) b := Nat.not_le.mpr hbl
  refine lv_aload_n hx hb dL_law_1102 rfl (lv_at hl 2 rfl) ?_
  refine lv_aload_n hx hb dL_law_1103 rfl (lv_at hl 3 rfl) ?_
  refine lv_iload_n hx hb dL_law_1104 rfl (lv_at hl 0 rfl) ?_
  refine lv_iconst (v := 1) hx hb dL_law_1105 (by decide) ?_
  refine lv_iadd hx hb dL_law_1106 ?_
  refine lv_topi (fun y1 ey1 => ?_)
  have ty1 := tl_1
  have hy1 := r_add ey1 (by omega) (by omega)
  refine va_sld hx hb hX hbl hbA hS (vp_in_iff.mpr ⟨by omega, by omega⟩) dL_law_1107 ?_
  refine lv_topi (fun z2 _ => ?_)
  obtain ⟨_, _, _, e8, _⟩ := (show okX8 ad tx 0 (f 0) from hTx.1 0 (by decide))
  refine tVI (As := [.int z2]) (rest := []) (i := 0) ⟨hx, hb, hml, hown, hts⟩ hK hE hP hD hS hA hAB (s_X8_worth_0 l s.heap.size adK adV D cy ad f tx rby rnx f hTx z2 _) (cwV 1 hts gL_law_X8_worth rfl rfl rfl (by decide +kernel) ⟨Nat.le_of_ble_eq_true rfl, Nat.le_of_ble_eq_true rfl⟩) (by decide) 8 e8 rfl rfl hl.1 rfl (Nat.le_of_ble_eq_true rfl) dL_law_1108 ⟨Nat.le_of_ble_eq_true rfl, Nat.le_of_ble_eq_true rfl⟩ (fun r3 f H locs hw hP hD hS => ?_)
  obtain ⟨_, hT2⟩ := hw
  obtain ⟨hTx, hTm⟩ := LX_c hT2 hTm
  refine lv_pop hx hb dL_law_1111 rfl ?_
  refine lv_aload_n hx hb dL_law_1112 rfl (lv_at hl 1 rfl) ?_
  refine lv_aload_n hx hb dL_law_1113 rfl (lv_at hl 3 rfl) ?_
  refine lv_iload_n hx hb dL_law_1114 rfl (lv_at hl 0 rfl) ?_
  refine lv_iconst (v := 1) hx hb dL_law_1115 (by decide) ?_
  refine lv_iadd hx hb dL_law_1116 ?_
  refine lv_topi (fun y4 ey4 => ?_)
  have ty4 := tl_1
  have hy4 := r_add ey4 (by omega) (by omega)
  refine va_sld hx hb hX hbl hbA hS (vp_in_iff.mpr ⟨by omega, by omega⟩) dL_law_1117 ?_
  refine lv_topi (fun z5 _ => ?_)
  have e8 := (show okX9 ad m_taped m_size m_faultKind m_faultPlace m_at m_end m_token m_number m_name m_bank m_rb m_codes m_within m_piled m_unitsInRule m_askStrand m_askTied m_thoughtClaim m_thoughtNeed m_thoughtAll m_acts m_undone m_laid m_firstMove m_seens m_time m_waysNow m_fitting 148 (f 148) from hTm.1 148 (by decide)).1
  refine tVI (As := [.int z5]) (rest := []) (i := 148) ⟨hx, hb, hml, hown, hts⟩ hK hE hP hD hS hA hAB (s_X9_worth_0 l s.heap.size adK adV D cy ad f c_text m_taped m_size m_faultKind m_faultPlace m_at m_end m_token m_number m_name c_points c_strands c_units c_told c_ruleFrom c_ruleTo c_code c_eWhat c_eSign m_bank m_rb m_codes m_within m_piled m_unitsInRule m_askStrand m_askTied m_thoughtClaim m_thoughtNeed m_thoughtAll c_roundOf m_acts m_undone m_laid m_firstMove m_seens m_time m_waysNow m_fitting f hTm z5 hCV _) (cwV 1 hts gL_law_X9_worth rfl rfl rfl (by decide +kernel) ⟨Nat.le_of_ble_eq_true rfl, Nat.le_of_ble_eq_true rfl⟩) (by decide) 9 e8 rfl rfl hl.1 rfl (Nat.le_of_ble_eq_true rfl) dL_law_1118 ⟨Nat.le_of_ble_eq_true rfl, Nat.le_of_ble_eq_true rfl⟩ (fun r6 f H locs hw hP hD hS => ?_)
  obtain ⟨_, w7, w8, w9, w10, w11, hT2⟩ := hw
  obtain ⟨hTx, hTm⟩ := LX_m hT2 hTx
  refine lv_pop hx hb dL_law_1121 rfl ?_
  refine lv_goto (tgt := 1720) hx hb dL_law_1122 (by decide) ?_
  exact hk _ _ _ ⟨tx, rby, rnx, c_text, m_taped, m_size, m_faultKind, m_faultPlace, m_at, m_end, m_token, m_number, m_name, c_points, c_strands, c_units, c_told, c_ruleFrom, c_ruleTo, c_code, c_eWhat, c_eSign, m_bank, m_rb, m_codes, m_within, m_piled, m_unitsInRule, w7, w8, w9, w10, m_thoughtAll, w11, m_acts, m_undone, m_laid, m_firstMove, m_seens, m_time, m_waysNow, m_fitting, hTx, hTm, by omega, hCV, by omega, by omega⟩ hP hD hS
set_option maxHeartbeats 4000000 in
set_option maxRecDepth 100000 in
theorem lo_35 {p : Program} {e : Env} {s : State} {m : MethodId} {below : List Frame} {meth : Method} {c : Code} {l : Launch} {b L : Nat} {xs : Nat → Int32} {D : va_G} {cy : Nat → ClassId} {ad : Nat → Nat} {adK adV : Nat → Nat} {f : Nat → va_E} {H : Heap} {locs : List Loc} {ls : Array Slot} (C : LX p s m meth c b L xs D cy) (hE : EN s.heap.size adK adV s) (hLI : LI ad cy f) (hP : va_P D vwCl (wl ad f) H) (hD : va_D (fun q : Nat => s.heap.size ≤ q) (wl ad f)) (hS : va_S (fun q : Nat => s.heap.size ≤ q) s.heap H locs) (x : Int32) (hx0 : 0 ≤ x.toInt ∧ x.toInt + 6 ≤ L) (hL : L ≤ 3072) (hl : lv_has ls 4 [(3, .int x), (2, .ref (ad 148)), (1, .ref (ad 0)), (0, .ref b)]) (hk : ∀ (f : Nat → va_E) (H : Heap) (locs : List Loc), LI ad cy f → va_P D vwCl (wl ad f) H → va_D (fun q : Nat => s.heap.size ≤ q) (wl ad f) → va_S (fun q : Nat => s.heap.size ≤ q) s.heap H locs → W p l e room_1 s m #[Value.ref b] below meth c H locs 185 12666 (lw_Z below #[Value.ref b] s) (F0 m 1720 ls [])) : W p l e room_1 s m #[Value.ref b] below meth c H locs 185 12666 (lw_Z below #[Value.ref b] s) (F0 m 1125 ls []) := by
  obtain ⟨hx, hb, hr, hlk, hml, hown, hts, hX, hbl, hK⟩ := id C
  obtain ⟨tx, rby, rnx, c_text, m_taped, m_size, m_faultKind, m_faultPlace, m_at, m_end, m_token, m_number, m_name, c_points, c_strands, c_units, c_told, c_ruleFrom, c_ruleTo, c_code, c_eWhat, c_eSign, m_bank, m_rb, m_codes, m_within, m_piled, m_unitsInRule, m_askStrand, m_askTied, m_thoughtClaim, m_thoughtNeed, m_thoughtAll, c_roundOf, m_acts, m_undone, m_laid, m_firstMove, m_seens, m_time, m_waysNow, m_fitting, hTx, hTm, hAU, hCV, hTT, hTR⟩ := hLI
  have hA : ∀ q : Nat, s.heap.size ≤ q → (fun q : Nat => s.heap.size ≤ q) q := fun _ h => h
  have hAB : ∀ q : Nat, (fun q : Nat => s.heap.size ≤ q) q → s.heap.size ≤ q := fun _ h => h
  have hbA : ¬ (fun q : Nat => s.heap.size ≤ q) b := Nat.not_le.mpr hbl
  refine lv_aload_n hx hb dL_law_1125 rfl (lv_at hl 2 rfl) ?_
  refine lv_aload_n hx hb dL_law_1126 rfl (lv_at hl 3 rfl) ?_
  refine lv_iload_n hx hb dL_law_1127 rfl (lv_at hl 0 rfl) ?_
  refine lv_iconst (v := 1) hx hb dL_law_1128 (by decide) ?_
  refine lv_iadd hx hb dL_law_1129 ?_
  refine lv_topi (fun y1 ey1 => ?_)
  have ty1 := tl_1
  have hy1 := r_add ey1 (by omega) (by omega)
  refine va_sld hx hb hX hbl hbA hS (vp_in_iff.mpr ⟨by omega, by omega⟩) dL_law_1130 ?_
  refine lv_topi (fun z2 _ => ?_)
  obtain ⟨_, _, _, e8, _⟩ := (show okX8 ad tx 0 (f 0) from hTx.1 0 (by decide))
  refine tVI (As := [.int z2]) (rest := []) (i := 0) ⟨hx, hb, hml, hown, hts⟩ hK hE hP hD hS hA hAB (s_X8_with_0 l s.heap.size adK adV D cy ad f tx rby rnx f hTx z2 _) (cwV 1 hts gL_law_X8_with rfl rfl rfl (by decide +kernel) ⟨Nat.le_of_ble_eq_true rfl, Nat.le_of_ble_eq_true rfl⟩) (by decide) 8 e8 rfl rfl hl.1 rfl (Nat.le_of_ble_eq_true rfl) dL_law_1131 ⟨Nat.le_of_ble_eq_true rfl, Nat.le_of_ble_eq_true rfl⟩ (fun r3 f H locs hw hP hD hS => ?_)
  obtain ⟨_, hT2⟩ := hw
  obtain ⟨hTx, hTm⟩ := LX_c hT2 hTm
  refine lv_pop hx hb dL_law_1134 rfl ?_
  refine lv_aload_n hx hb dL_law_1135 rfl (lv_at hl 1 rfl) ?_
  refine lv_aload_n hx hb dL_law_1136 rfl (lv_at hl 3 rfl) ?_
  refine lv_iload_n hx hb dL_law_1137 rfl (lv_at hl 0 rfl) ?_
  refine lv_iconst (v := 1) hx hb dL_law_1138 (by decide) ?_
  refine lv_iadd hx hb dL_law_1139 ?_
  refine lv_topi (fun y4 ey4 => ?_)
  have ty4 := tl_1
  have hy4 := r_add ey4 (by omega) (by omega)
  refine va_sld hx hb hX hbl hbA hS (vp_in_iff.mpr ⟨by omega, by omega⟩) dL_law_1140 ?_
  refine lv_topi (fun z5 _ => ?_)
  have e8 := (show okX9 ad m_taped m_size m_faultKind m_faultPlace m_at m_end m_token m_number m_name m_bank m_rb m_codes m_within m_piled m_unitsInRule m_askStrand m_askTied m_thoughtClaim m_thoughtNeed m_thoughtAll m_acts m_undone m_laid m_firstMove m_seens m_time m_waysNow m_fitting 148 (f 148) from hTm.1 148 (by decide)).1
  refine tVI (As := [.int z5]) (rest := []) (i := 148) ⟨hx, hb, hml, hown, hts⟩ hK hE hP hD hS hA hAB (s_X9_with_0 l s.heap.size adK adV D cy ad f c_text m_taped m_size m_faultKind m_faultPlace m_at m_end m_token m_number m_name c_points c_strands c_units c_told c_ruleFrom c_ruleTo c_code c_eWhat c_eSign m_bank m_rb m_codes m_within m_piled m_unitsInRule m_askStrand m_askTied m_thoughtClaim m_thoughtNeed m_thoughtAll c_roundOf m_acts m_undone m_laid m_firstMove m_seens m_time m_waysNow m_fitting f hTm z5 hCV _) (cwV 1 hts gL_law_X9_with rfl rfl rfl (by decide +kernel) ⟨Nat.le_of_ble_eq_true rfl, Nat.le_of_ble_eq_true rfl⟩) (by decide) 9 e8 rfl rfl hl.1 rfl (Nat.le_of_ble_eq_true rfl) dL_law_1141 ⟨Nat.le_of_ble_eq_true rfl, Nat.le_of_ble_eq_true rfl⟩ (fun r6 f H locs hw hP hD hS => ?_)
  obtain ⟨_, w7, w8, w9, hT2⟩ := hw
  obtain ⟨hTx, hTm⟩ := LX_m hT2 hTx
  refine lv_pop hx hb dL_law_1144 rfl ?_
  refine lv_goto (tgt := 1720) hx hb dL_law_1145 (by decide) ?_
  exact hk _ _ _ ⟨tx, rby, rnx, c_text, m_taped, m_size, m_faultKind, m_faultPlace, m_at, m_end, m_token, m_number, m_name, c_points, c_strands, c_units, c_told, c_ruleFrom, c_ruleTo, c_code, c_eWhat, c_eSign, m_bank, m_rb, m_codes, m_within, m_piled, m_unitsInRule, w7, w8, m_thoughtClaim, m_thoughtNeed, m_thoughtAll, w9, m_acts, m_undone, m_laid, m_firstMove, m_seens, m_time, m_waysNow, m_fitting, hTx, hTm, by omega, hCV, by omega, by omega⟩ hP hD hS
set_option maxHeartbeats 4000000 in
set_option maxRecDepth 100000 in
theorem lo_36 {p : Program} {e : Env} {s : State} {m : MethodId} {below : List Frame} {meth : Method} {c : Code} {l : Launch} {b L : Nat} {xs : Nat → Int32} {D : va_G} {cy : Nat → ClassId} {ad : Nat → Nat} {adK adV : Nat → Nat} {f : Nat → va_E} {H : Heap} {locs : List Loc} {ls : Array Slot} (C : LX p s m meth c b L xs D cy) (hE : EN s.heap.size adK adV s) (hLI : LI ad cy f) (hP : va_P D vwCl (wl ad f) H) (hD : va_D (fun q : Nat => s.heap.size ≤ q) (wl ad f)) (hS : va_S (fun q : Nat => s.heap.size ≤ q) s.heap H locs) (x : Int32) (hx0 : 0 ≤ x.toInt ∧ x.toInt + 6 ≤ L) (hL : L ≤ 3072) (hl : lv_has ls 4 [(3, .int x), (2, .ref (ad 148)), (1, .ref (ad 0)), (0, .ref b)]) (hk : ∀ (f : Nat → va_E) (H : Heap) (locs : List Loc), LI ad cy f → va_P D vwCl (wl ad f) H → va_D (fun q : Nat => s.heap.size ≤ q) (wl ad f) → va_S (fun q : Nat => s.heap.size ≤ q) s.heap H locs → W p l e room_1 s m #[Value.ref b] below meth c H locs 185 12666 (lw_Z below #[Value.ref b] s) (F0 m 1720 ls [])) : W p l e room_1 s m #[Value.ref b] below meth c H locs 185 12666 (lw_Z below #[Value.ref b] s) (F0 m 1148 ls []) := by
  obtain ⟨hx, hb, hr, hlk, hml, hown, hts, hX, hbl, hK⟩ := id C
  obtain ⟨tx, rby, rnx, c_text, m_taped, m_size, m_faultKind, m_faultPlace, m_at, m_end, m_token, m_number, m_name, c_points, c_strands, c_units, c_told, c_ruleFrom, c_ruleTo, c_code, c_eWhat, c_eSign, m_bank, m_rb, m_codes, m_within, m_piled, m_unitsInRule, m_askStrand, m_askTied, m_thoughtClaim, m_thoughtNeed, m_thoughtAll, c_roundOf, m_acts, m_undone, m_laid, m_firstMove, m_seens, m_time, m_waysNow, m_fitting, hTx, hTm, hAU, hCV, hTT, hTR⟩ := hLI
  have hA : ∀ q : Nat, s.heap.size ≤ q → (fun q : Nat => s.heap.size ≤ q) q := fun _ h => h
  have hAB : ∀ q : Nat, (fun q : Nat => s.heap.size ≤ q) q → s.heap.size ≤ q := fun _ h => h
  have hbA : ¬ (fun q : Nat => s.heap.size ≤ q) b := Nat.not_le.mpr hbl
  refine lv_aload_n hx hb dL_law_1148 rfl (lv_at hl 2 rfl) ?_
  refine lv_aload_n hx hb dL_law_1149 rfl (lv_at hl 3 rfl) ?_
  refine lv_iload_n hx hb dL_law_1150 rfl (lv_at hl 0 rfl) ?_
  refine lv_iconst (v := 1) hx hb dL_law_1151 (by decide) ?_
  refine lv_iadd hx hb dL_law_1152 ?_
  refine lv_topi (fun y1 ey1 => ?_)
  have ty1 := tl_1
  have hy1 := r_add ey1 (by omega) (by omega)
  refine va_sld hx hb hX hbl hbA hS (vp_in_iff.mpr ⟨by omega, by omega⟩) dL_law_1153 ?_
  refine lv_topi (fun z2 _ => ?_)
  refine lv_aload_n hx hb dL_law_1154 rfl (lv_at hl 3 rfl) ?_
  refine lv_iload_n hx hb dL_law_1155 rfl (lv_at hl 0 rfl) ?_
  refine lv_iconst (v := 2) hx hb dL_law_1156 (by decide) ?_
  refine lv_iadd hx hb dL_law_1157 ?_
  refine lv_topi (fun y3 ey3 => ?_)
  have ty3 := tl_2
  have hy3 := r_add ey3 (by omega) (by omega)
  refine va_sld hx hb hX hbl hbA hS (vp_in_iff.mpr ⟨by omega, by omega⟩) dL_law_1158 ?_
  refine lv_topi (fun z4 _ => ?_)
  obtain ⟨_, _, _, e8, _⟩ := (show okX8 ad tx 0 (f 0) from hTx.1 0 (by decide))
  refine tVI (As := [.int z2, .int z4]) (rest := []) (i := 0) ⟨hx, hb, hml, hown, hts⟩ hK hE hP hD hS hA hAB (s_X8_perils_0 l s.heap.size adK adV D cy ad f tx rby rnx f hTx z2 z4 _) (cwV 2 hts gL_law_X8_perils rfl rfl rfl (by decide +kernel) ⟨Nat.le_of_ble_eq_true rfl, Nat.le_of_ble_eq_true rfl⟩) (by decide) 8 e8 rfl rfl hl.1 rfl (Nat.le_of_ble_eq_true rfl) dL_law_1159 ⟨Nat.le_of_ble_eq_true rfl, Nat.le_of_ble_eq_true rfl⟩ (fun r5 f H locs hw hP hD hS => ?_)
  obtain ⟨_, hT2⟩ := hw
  obtain ⟨hTx, hTm⟩ := LX_c hT2 hTm
  refine lv_pop hx hb dL_law_1162 rfl ?_
  refine lv_aload_n hx hb dL_law_1163 rfl (lv_at hl 1 rfl) ?_
  refine lv_aload_n hx hb dL_law_1164 rfl (lv_at hl 3 rfl) ?_
  refine lv_iload_n hx hb dL_law_1165 rfl (lv_at hl 0 rfl) ?_
  refine lv_iconst (v := 1) hx hb dL_law_1166 (by decide) ?_
  refine lv_iadd hx hb dL_law_1167 ?_
  refine lv_topi (fun y6 ey6 => ?_)
  have ty6 := tl_1
  have hy6 := r_add ey6 (by omega) (by omega)
  refine va_sld hx hb hX hbl hbA hS (vp_in_iff.mpr ⟨by omega, by omega⟩) dL_law_1168 ?_
  refine lv_topi (fun z7 _ => ?_)
  refine lv_aload_n hx hb dL_law_1169 rfl (lv_at hl 3 rfl) ?_
  refine lv_iload_n hx hb dL_law_1170 rfl (lv_at hl 0 rfl) ?_
  refine lv_iconst (v := 2) hx hb dL_law_1171 (by decide) ?_
  refine lv_iadd hx hb dL_law_1172 ?_
  refine lv_topi (fun y8 ey8 => ?_)
  have ty8 := tl_2
  have hy8 := r_add ey8 (by omega) (by omega)
  refine va_sld hx hb hX hbl hbA hS (vp_in_iff.mpr ⟨by omega, by omega⟩) dL_law_1173 ?_
  refine lv_topi (fun z9 _ => ?_)
  have e8 := (show okX9 ad m_taped m_size m_faultKind m_faultPlace m_at m_end m_token m_number m_name m_bank m_rb m_codes m_within m_piled m_unitsInRule m_askStrand m_askTied m_thoughtClaim m_thoughtNeed m_thoughtAll m_acts m_undone m_laid m_firstMove m_seens m_time m_waysNow m_fitting 148 (f 148) from hTm.1 148 (by decide)).1
  refine tVI (As := [.int z7, .int z9]) (rest := []) (i := 148) ⟨hx, hb, hml, hown, hts⟩ hK hE hP hD hS hA hAB (s_X9_perils_0 l s.heap.size adK adV D cy ad f c_text m_taped m_size m_faultKind m_faultPlace m_at m_end m_token m_number m_name c_points c_strands c_units c_told c_ruleFrom c_ruleTo c_code c_eWhat c_eSign m_bank m_rb m_codes m_within m_piled m_unitsInRule m_askStrand m_askTied m_thoughtClaim m_thoughtNeed m_thoughtAll c_roundOf m_acts m_undone m_laid m_firstMove m_seens m_time m_waysNow m_fitting f hTm z7 z9 hCV _) (cwV 2 hts gL_law_X9_perils rfl rfl rfl (by decide +kernel) ⟨Nat.le_of_ble_eq_true rfl, Nat.le_of_ble_eq_true rfl⟩) (by decide) 9 e8 rfl rfl hl.1 rfl (Nat.le_of_ble_eq_true rfl) dL_law_1174 ⟨Nat.le_of_ble_eq_true rfl, Nat.le_of_ble_eq_true rfl⟩ (fun r10 f H locs hw hP hD hS => ?_)
  obtain ⟨_, w11, w12, w13, hT2⟩ := hw
  obtain ⟨hTx, hTm⟩ := LX_m hT2 hTx
  refine lv_pop hx hb dL_law_1177 rfl ?_
  refine lv_goto (tgt := 1720) hx hb dL_law_1178 (by decide) ?_
  exact hk _ _ _ ⟨tx, rby, rnx, c_text, m_taped, m_size, m_faultKind, m_faultPlace, m_at, m_end, m_token, m_number, m_name, c_points, c_strands, c_units, c_told, c_ruleFrom, c_ruleTo, c_code, c_eWhat, c_eSign, m_bank, m_rb, m_codes, m_within, m_piled, m_unitsInRule, w11, w12, m_thoughtClaim, m_thoughtNeed, m_thoughtAll, w13, m_acts, m_undone, m_laid, m_firstMove, m_seens, m_time, m_waysNow, m_fitting, hTx, hTm, by omega, hCV, by omega, by omega⟩ hP hD hS
