set_option maxHeartbeats 4000000 in
set_option maxRecDepth 100000 in
theorem lo_37 {p : Program} {e : Env} {s : State} {m : MethodId} {below : List Frame} {meth : Method} {c : Code} {l : Launch} {b L : Nat} {xs : Nat → Int32} {D : va_G} {cy : Nat → ClassId} {ad : Nat → Nat} {adK adV : Nat → Nat} {f : Nat → va_E} {H : Heap} {locs : List Loc} {ls : Array Slot} (C : LX p s m meth c b L xs D cy) (hE : EN s.heap.size adK adV s) (hLI : LI ad cy f) (hP : va_P D vwCl (wl ad f) H) (hD : va_D (fun q : Nat => s.heap.size ≤ q) (wl ad f)) (hS : va_S (fun q : Nat => s.heap.size ≤ q) s.heap H locs) (x : Int32) (hx0 : 0 ≤ x.toInt ∧ x.toInt + 6 ≤ L) (hL : L ≤ 3072) (hl : lv_has ls 4 [(3, .int x), (2, .ref (ad 148)), (1, .ref (ad 0)), (0, .ref b)]) (hk : ∀ (f : Nat → va_E) (H : Heap) (locs : List Loc), LI ad cy f → va_P D vwCl (wl ad f) H → va_D (fun q : Nat => s.heap.size ≤ q) (wl ad f) → va_S (fun q : Nat => s.heap.size ≤ q) s.heap H locs → W p l e room_1 s m #[Value.ref b] below meth c H locs 185 12666 (lw_Z below #[Value.ref b] s) (F0 m 1720 ls [])) : W p l e room_1 s m #[Value.ref b] below meth c H locs 185 12666 (lw_Z below #[Value.ref b] s) (F0 m 1181 ls []) := by
  obtain ⟨hx, hb, hr, hlk, hml, hown, hts, hX, hbl, hK⟩ := id C
  obtain ⟨tx, rby, rnx, c_text, m_taped, m_size, m_faultKind, m_faultPlace, m_at, m_end, m_token, m_number, m_name, c_points, c_strands, c_units, c_told, c_ruleFrom, c_ruleTo, c_code, c_eWhat, c_eSign, m_bank, m_rb, m_codes, m_within, m_piled, m_unitsInRule, m_askStrand, m_askTied, m_thoughtClaim, m_thoughtNeed, m_thoughtAll, c_roundOf, m_acts, m_undone, m_laid, m_firstMove, m_seens, m_time, m_waysNow, m_fitting, hTx, hTm, hAU, hCV, hTT, hTR⟩ := hLI
  have hA : ∀ q : Nat, s.heap.size ≤ q → (fun q : Nat => s.heap.size ≤ q) q := fun _ h => h
  have hAB : ∀ q : Nat, (fun q : Nat => s.heap.size ≤ q) q → s.heap.size ≤ q := fun _ h => h
  have hbA : ¬ (fun q : Nat => s.heap.size ≤ q) b := Nat.not_le.mpr hbl
  refine lv_aload_n hx hb dL_law_1181 rfl (lv_at hl 2 rfl) ?_
  refine lv_aload_n hx hb dL_law_1182 rfl (lv_at hl 3 rfl) ?_
  refine lv_iload_n hx hb dL_law_1183 rfl (lv_at hl 0 rfl) ?_
  refine lv_iconst (v := 1) hx hb dL_law_1184 (by decide) ?_
  refine lv_iadd hx hb dL_law_1185 ?_
  refine lv_topi (fun y1 ey1 => ?_)
  have ty1 := tl_1
  have hy1 := r_add ey1 (by omega) (by omega)
  refine va_sld hx hb hX hbl hbA hS (vp_in_iff.mpr ⟨by omega, by omega⟩) dL_law_1186 ?_
  refine lv_topi (fun z2 _ => ?_)
  refine lv_aload_n hx hb dL_law_1187 rfl (lv_at hl 3 rfl) ?_
  refine lv_iload_n hx hb dL_law_1188 rfl (lv_at hl 0 rfl) ?_
  refine lv_iconst (v := 2) hx hb dL_law_1189 (by decide) ?_
  refine lv_iadd hx hb dL_law_1190 ?_
  refine lv_topi (fun y3 ey3 => ?_)
  have ty3 := tl_2
  have hy3 := r_add ey3 (by omega) (by omega)
  refine va_sld hx hb hX hbl hbA hS (vp_in_iff.mpr ⟨by omega, by omega⟩) dL_law_1191 ?_
  refine lv_topi (fun z4 _ => ?_)
  obtain ⟨_, _, _, e8, _⟩ := (show okX8 ad tx 0 (f 0) from hTx.1 0 (by decide))
  refine tVI (As := [.int z2, .int z4]) (rest := []) (i := 0) ⟨hx, hb, hml, hown, hts⟩ hK hE hP hD hS hA hAB (s_X8_mend_0 l s.heap.size adK adV D cy ad f tx rby rnx f hTx z2 z4 _) (cwV 2 hts gL_law_X8_mend rfl rfl rfl (by decide +kernel) ⟨Nat.le_of_ble_eq_true rfl, Nat.le_of_ble_eq_true rfl⟩) (by decide) 8 e8 rfl rfl hl.1 rfl (Nat.le_of_ble_eq_true rfl) dL_law_1192 ⟨Nat.le_of_ble_eq_true rfl, Nat.le_of_ble_eq_true rfl⟩ (fun r5 f H locs hw hP hD hS => ?_)
  obtain ⟨_, hT2⟩ := hw
  obtain ⟨hTx, hTm⟩ := LX_c hT2 hTm
  refine lv_pop hx hb dL_law_1195 rfl ?_
  refine lv_aload_n hx hb dL_law_1196 rfl (lv_at hl 1 rfl) ?_
  refine lv_aload_n hx hb dL_law_1197 rfl (lv_at hl 3 rfl) ?_
  refine lv_iload_n hx hb dL_law_1198 rfl (lv_at hl 0 rfl) ?_
  refine lv_iconst (v := 1) hx hb dL_law_1199 (by decide) ?_
  refine lv_iadd hx hb dL_law_1200 ?_
  refine lv_topi (fun y6 ey6 => ?_)
  have ty6 := tl_1
  have hy6 := r_add ey6 (by omega) (by omega)
  refine va_sld hx hb hX hbl hbA hS (vp_in_iff.mpr ⟨by omega, by omega⟩) dL_law_1201 ?_
  refine lv_topi (fun z7 _ => ?_)
  refine lv_aload_n hx hb dL_law_1202 rfl (lv_at hl 3 rfl) ?_
  refine lv_iload_n hx hb dL_law_1203 rfl (lv_at hl 0 rfl) ?_
  refine lv_iconst (v := 2) hx hb dL_law_1204 (by decide) ?_
  refine lv_iadd hx hb dL_law_1205 ?_
  refine lv_topi (fun y8 ey8 => ?_)
  have ty8 := tl_2
  have hy8 := r_add ey8 (by omega) (by omega)
  refine va_sld hx hb hX hbl hbA hS (vp_in_iff.mpr ⟨by omega, by omega⟩) dL_law_1206 ?_
  refine lv_topi (fun z9 _ => ?_)
  have e8 := (show okX9 ad m_taped m_size m_faultKind m_faultPlace m_at m_end m_token m_number m_name m_bank m_rb m_codes m_within m_piled m_unitsInRule m_askStrand m_askTied m_thoughtClaim m_thoughtNeed m_thoughtAll m_acts m_undone m_laid m_firstMove m_seens m_time m_waysNow m_fitting 148 (f 148) from hTm.1 148 (by decide)).1
  refine tVI (As := [.int z7, .int z9]) (rest := []) (i := 148) ⟨hx, hb, hml, hown, hts⟩ hK hE hP hD hS hA hAB (s_X9_mend_0 l s.heap.size adK adV D cy ad f c_text m_taped m_size m_faultKind m_faultPlace m_at m_end m_token m_number m_name c_points c_strands c_units c_told c_ruleFrom c_ruleTo c_code c_eWhat c_eSign m_bank m_rb m_codes m_within m_piled m_unitsInRule m_askStrand m_askTied m_thoughtClaim m_thoughtNeed m_thoughtAll c_roundOf m_acts m_undone m_laid m_firstMove m_seens m_time m_waysNow m_fitting f hTm z7 z9 hCV _) (cwV 2 hts gL_law_X9_mend rfl rfl rfl (by decide +kernel) ⟨Nat.le_of_ble_eq_true rfl, Nat.le_of_ble_eq_true rfl⟩) (by decide) 9 e8 rfl rfl hl.1 rfl (Nat.le_of_ble_eq_true rfl) dL_law_1207 ⟨Nat.le_of_ble_eq_true rfl, Nat.le_of_ble_eq_true rfl⟩ (fun r10 f H locs hw hP hD hS => ?_)
  obtain ⟨_, w11, w12, w13, hT2⟩ := hw
  obtain ⟨hTx, hTm⟩ := LX_m hT2 hTx
  refine lv_pop hx hb dL_law_1210 rfl ?_
  refine lv_goto (tgt := 1720) hx hb dL_law_1211 (by decide) ?_
  exact hk _ _ _ ⟨tx, rby, rnx, c_text, m_taped, m_size, m_faultKind, m_faultPlace, m_at, m_end, m_token, m_number, m_name, c_points, c_strands, c_units, c_told, c_ruleFrom, c_ruleTo, c_code, c_eWhat, c_eSign, m_bank, m_rb, m_codes, m_within, m_piled, m_unitsInRule, w11, w12, m_thoughtClaim, m_thoughtNeed, m_thoughtAll, w13, m_acts, m_undone, m_laid, m_firstMove, m_seens, m_time, m_waysNow, m_fitting, hTx, hTm, by omega, hCV, by omega, by omega⟩ hP hD hS
set_option maxHeartbeats 4000000 in
set_option maxRecDepth 100000 in
theorem lo_38 {p : Program} {e : Env} {s : State} {m : MethodId} {below : List Frame} {meth : Method} {c : Code} {l : Launch} {b L : Nat} {xs : Nat → Int32} {D : va_G} {cy : Nat → ClassId} {ad : Nat → Nat} {adK adV : Nat → Nat} {f : Nat → va_E} {H : Heap} {locs : List Loc} {ls : Array Slot} (C : LX p s m meth c b L xs D cy) (hE : EN s.heap.size adK adV s) (hLI : LI ad cy f) (hP : va_P D vwCl (wl ad f) H) (hD : va_D (fun q : Nat => s.heap.size ≤ q) (wl ad f)) (hS : va_S (fun q : Nat => s.heap.size ≤ q) s.heap H locs) (x : Int32) (hx0 : 0 ≤ x.toInt ∧ x.toInt + 6 ≤ L) (hL : L ≤ 3072) (hl : lv_has ls 4 [(3, .int x), (2, .ref (ad 148)), (1, .ref (ad 0)), (0, .ref b)]) (hk : ∀ (f : Nat → va_E) (H : Heap) (locs : List Loc), LI ad cy f → va_P D vwCl (wl ad f) H → va_D (fun q : Nat => s.heap.size ≤ q) (wl ad f) → va_S (fun q : Nat => s.heap.size ≤ q) s.heap H locs → W p l e room_1 s m #[Value.ref b] below meth c H locs 185 12666 (lw_Z below #[Value.ref b] s) (F0 m 1720 ls [])) : W p l e room_1 s m #[Value.ref b] below meth c H locs 185 12666 (lw_Z below #[Value.ref b] s) (F0 m 1214 ls []) := by
  obtain ⟨hx, hb, hr, hlk, hml, hown, hts, hX, hbl, hK⟩ := id C
  obtain ⟨tx, rby, rnx, c_text, m_taped, m_size, m_faultKind, m_faultPlace, m_at, m_end, m_token, m_number, m_name, c_points, c_strands, c_units, c_told, c_ruleFrom, c_ruleTo, c_code, c_eWhat, c_eSign, m_bank, m_rb, m_codes, m_within, m_piled, m_unitsInRule, m_askStrand, m_askTied, m_thoughtClaim, m_thoughtNeed, m_thoughtAll, c_roundOf, m_acts, m_undone, m_laid, m_firstMove, m_seens, m_time, m_waysNow, m_fitting, hTx, hTm, hAU, hCV, hTT, hTR⟩ := hLI
  have hA : ∀ q : Nat, s.heap.size ≤ q → (fun q : Nat => s.heap.size ≤ q) q := fun _ h => h
  have hAB : ∀ q : Nat, (fun q : Nat => s.heap.size ≤ q) q → s.heap.size ≤ q := fun _ h => h
  have hbA : ¬ (fun q : Nat => s.heap.size ≤ q) b := Nat.not_le.mpr hbl
  refine lv_aload_n hx hb dL_law_1214 rfl (lv_at hl 2 rfl) ?_
  refine lv_aload_n hx hb dL_law_1215 rfl (lv_at hl 3 rfl) ?_
  refine lv_iload_n hx hb dL_law_1216 rfl (lv_at hl 0 rfl) ?_
  refine lv_iconst (v := 1) hx hb dL_law_1217 (by decide) ?_
  refine lv_iadd hx hb dL_law_1218 ?_
  refine lv_topi (fun y1 ey1 => ?_)
  have ty1 := tl_1
  have hy1 := r_add ey1 (by omega) (by omega)
  refine va_sld hx hb hX hbl hbA hS (vp_in_iff.mpr ⟨by omega, by omega⟩) dL_law_1219 ?_
  refine lv_topi (fun z2 _ => ?_)
  obtain ⟨_, _, _, e8, _⟩ := (show okX8 ad tx 0 (f 0) from hTx.1 0 (by decide))
  refine tVI (As := [.int z2]) (rest := []) (i := 0) ⟨hx, hb, hml, hown, hts⟩ hK hE hP hD hS hA hAB (s_X8_proof_0 l s.heap.size adK adV D cy ad f tx rby rnx f hTx z2 _) (cwV 1 hts gL_law_X8_proof rfl rfl rfl (by decide +kernel) ⟨Nat.le_of_ble_eq_true rfl, Nat.le_of_ble_eq_true rfl⟩) (by decide) 8 e8 rfl rfl hl.1 rfl (Nat.le_of_ble_eq_true rfl) dL_law_1220 ⟨Nat.le_of_ble_eq_true rfl, Nat.le_of_ble_eq_true rfl⟩ (fun r3 f H locs hw hP hD hS => ?_)
  obtain ⟨_, hT2⟩ := hw
  obtain ⟨hTx, hTm⟩ := LX_c hT2 hTm
  refine lv_pop hx hb dL_law_1223 rfl ?_
  refine lv_aload_n hx hb dL_law_1224 rfl (lv_at hl 1 rfl) ?_
  refine lv_aload_n hx hb dL_law_1225 rfl (lv_at hl 3 rfl) ?_
  refine lv_iload_n hx hb dL_law_1226 rfl (lv_at hl 0 rfl) ?_
  refine lv_iconst (v := 1) hx hb dL_law_1227 (by decide) ?_
  refine lv_iadd hx hb dL_law_1228 ?_
  refine lv_topi (fun y4 ey4 => ?_)
  have ty4 := tl_1
  have hy4 := r_add ey4 (by omega) (by omega)
  refine va_sld hx hb hX hbl hbA hS (vp_in_iff.mpr ⟨by omega, by omega⟩) dL_law_1229 ?_
  refine lv_topi (fun z5 _ => ?_)
  have e8 := (show okX9 ad m_taped m_size m_faultKind m_faultPlace m_at m_end m_token m_number m_name m_bank m_rb m_codes m_within m_piled m_unitsInRule m_askStrand m_askTied m_thoughtClaim m_thoughtNeed m_thoughtAll m_acts m_undone m_laid m_firstMove m_seens m_time m_waysNow m_fitting 148 (f 148) from hTm.1 148 (by decide)).1
  refine tVI (As := [.int z5]) (rest := []) (i := 148) ⟨hx, hb, hml, hown, hts⟩ hK hE hP hD hS hA hAB (s_X9_proof_0 l s.heap.size adK adV D cy ad f c_text m_taped m_size m_faultKind m_faultPlace m_at m_end m_token m_number m_name c_points c_strands c_units c_told c_ruleFrom c_ruleTo c_code c_eWhat c_eSign m_bank m_rb m_codes m_within m_piled m_unitsInRule m_askStrand m_askTied m_thoughtClaim m_thoughtNeed m_thoughtAll c_roundOf m_acts m_undone m_laid m_firstMove m_seens m_time m_waysNow m_fitting f hTm z5 hCV _) (cwV 1 hts gL_law_X9_proof rfl rfl rfl (by decide +kernel) ⟨Nat.le_of_ble_eq_true rfl, Nat.le_of_ble_eq_true rfl⟩) (by decide) 9 e8 rfl rfl hl.1 rfl (Nat.le_of_ble_eq_true rfl) dL_law_1230 ⟨Nat.le_of_ble_eq_true rfl, Nat.le_of_ble_eq_true rfl⟩ (fun r6 f H locs hw hP hD hS => ?_)
  obtain ⟨_, w7, w8, w9, w10, hT2⟩ := hw
  obtain ⟨hTx, hTm⟩ := LX_m hT2 hTx
  refine lv_pop hx hb dL_law_1233 rfl ?_
  refine lv_goto (tgt := 1720) hx hb dL_law_1234 (by decide) ?_
  exact hk _ _ _ ⟨tx, rby, rnx, c_text, m_taped, m_size, m_faultKind, m_faultPlace, m_at, m_end, m_token, m_number, m_name, c_points, c_strands, c_units, c_told, c_ruleFrom, c_ruleTo, c_code, c_eWhat, c_eSign, m_bank, m_rb, m_codes, m_within, m_piled, m_unitsInRule, w7, w8, m_thoughtClaim, m_thoughtNeed, m_thoughtAll, w9, m_acts, m_undone, w10, m_firstMove, m_seens, m_time, m_waysNow, m_fitting, hTx, hTm, by omega, hCV, by omega, by omega⟩ hP hD hS
set_option maxHeartbeats 4000000 in
set_option maxRecDepth 100000 in
theorem lo_39 {p : Program} {e : Env} {s : State} {m : MethodId} {below : List Frame} {meth : Method} {c : Code} {l : Launch} {b L : Nat} {xs : Nat → Int32} {D : va_G} {cy : Nat → ClassId} {ad : Nat → Nat} {adK adV : Nat → Nat} {f : Nat → va_E} {H : Heap} {locs : List Loc} {ls : Array Slot} (C : LX p s m meth c b L xs D cy) (hE : EN s.heap.size adK adV s) (hLI : LI ad cy f) (hP : va_P D vwCl (wl ad f) H) (hD : va_D (fun q : Nat => s.heap.size ≤ q) (wl ad f)) (hS : va_S (fun q : Nat => s.heap.size ≤ q) s.heap H locs) (x : Int32) (hx0 : 0 ≤ x.toInt ∧ x.toInt + 6 ≤ L) (hL : L ≤ 3072) (hl : lv_has ls 4 [(3, .int x), (2, .ref (ad 148)), (1, .ref (ad 0)), (0, .ref b)]) (hk : ∀ (f : Nat → va_E) (H : Heap) (locs : List Loc), LI ad cy f → va_P D vwCl (wl ad f) H → va_D (fun q : Nat => s.heap.size ≤ q) (wl ad f) → va_S (fun q : Nat => s.heap.size ≤ q) s.heap H locs → W p l e room_1 s m #[Value.ref b] below meth c H locs 185 12666 (lw_Z below #[Value.ref b] s) (F0 m 1720 ls [])) : W p l e room_1 s m #[Value.ref b] below meth c H locs 185 12666 (lw_Z below #[Value.ref b] s) (F0 m 1237 ls []) := by
  obtain ⟨hx, hb, hr, hlk, hml, hown, hts, hX, hbl, hK⟩ := id C
  obtain ⟨tx, rby, rnx, c_text, m_taped, m_size, m_faultKind, m_faultPlace, m_at, m_end, m_token, m_number, m_name, c_points, c_strands, c_units, c_told, c_ruleFrom, c_ruleTo, c_code, c_eWhat, c_eSign, m_bank, m_rb, m_codes, m_within, m_piled, m_unitsInRule, m_askStrand, m_askTied, m_thoughtClaim, m_thoughtNeed, m_thoughtAll, c_roundOf, m_acts, m_undone, m_laid, m_firstMove, m_seens, m_time, m_waysNow, m_fitting, hTx, hTm, hAU, hCV, hTT, hTR⟩ := hLI
  have hA : ∀ q : Nat, s.heap.size ≤ q → (fun q : Nat => s.heap.size ≤ q) q := fun _ h => h
  have hAB : ∀ q : Nat, (fun q : Nat => s.heap.size ≤ q) q → s.heap.size ≤ q := fun _ h => h
  have hbA : ¬ (fun q : Nat => s.heap.size ≤ q) b := Nat.not_le.mpr hbl
  refine lv_aload_n hx hb dL_law_1237 rfl (lv_at hl 2 rfl) ?_
  refine lv_aload_n hx hb dL_law_1238 rfl (lv_at hl 3 rfl) ?_
  refine lv_iload_n hx hb dL_law_1239 rfl (lv_at hl 0 rfl) ?_
  refine lv_iconst (v := 1) hx hb dL_law_1240 (by decide) ?_
  refine lv_iadd hx hb dL_law_1241 ?_
  refine lv_topi (fun y1 ey1 => ?_)
  have ty1 := tl_1
  have hy1 := r_add ey1 (by omega) (by omega)
  refine va_sld hx hb hX hbl hbA hS (vp_in_iff.mpr ⟨by omega, by omega⟩) dL_law_1242 ?_
  refine lv_topi (fun z2 _ => ?_)
  refine lv_aload_n hx hb dL_law_1243 rfl (lv_at hl 3 rfl) ?_
  refine lv_iload_n hx hb dL_law_1244 rfl (lv_at hl 0 rfl) ?_
  refine lv_iconst (v := 2) hx hb dL_law_1245 (by decide) ?_
  refine lv_iadd hx hb dL_law_1246 ?_
  refine lv_topi (fun y3 ey3 => ?_)
  have ty3 := tl_2
  have hy3 := r_add ey3 (by omega) (by omega)
  refine va_sld hx hb hX hbl hbA hS (vp_in_iff.mpr ⟨by omega, by omega⟩) dL_law_1247 ?_
  refine lv_topi (fun z4 _ => ?_)
  obtain ⟨_, _, _, e8, _⟩ := (show okX8 ad tx 0 (f 0) from hTx.1 0 (by decide))
  refine tVI (As := [.int z2, .int z4]) (rest := []) (i := 0) ⟨hx, hb, hml, hown, hts⟩ hK hE hP hD hS hA hAB (s_X8_counsels_0 l s.heap.size adK adV D cy ad f tx rby rnx f hTx z2 z4 _) (cwV 2 hts gL_law_X8_counsels rfl rfl rfl (by decide +kernel) ⟨Nat.le_of_ble_eq_true rfl, Nat.le_of_ble_eq_true rfl⟩) (by decide) 8 e8 rfl rfl hl.1 rfl (Nat.le_of_ble_eq_true rfl) dL_law_1248 ⟨Nat.le_of_ble_eq_true rfl, Nat.le_of_ble_eq_true rfl⟩ (fun r5 f H locs hw hP hD hS => ?_)
  obtain ⟨_, hT2⟩ := hw
  obtain ⟨hTx, hTm⟩ := LX_c hT2 hTm
  refine lv_pop hx hb dL_law_1251 rfl ?_
  refine lv_aload_n hx hb dL_law_1252 rfl (lv_at hl 1 rfl) ?_
  refine lv_aload_n hx hb dL_law_1253 rfl (lv_at hl 3 rfl) ?_
  refine lv_iload_n hx hb dL_law_1254 rfl (lv_at hl 0 rfl) ?_
  refine lv_iconst (v := 1) hx hb dL_law_1255 (by decide) ?_
  refine lv_iadd hx hb dL_law_1256 ?_
  refine lv_topi (fun y6 ey6 => ?_)
  have ty6 := tl_1
  have hy6 := r_add ey6 (by omega) (by omega)
  refine va_sld hx hb hX hbl hbA hS (vp_in_iff.mpr ⟨by omega, by omega⟩) dL_law_1257 ?_
  refine lv_topi (fun z7 _ => ?_)
  refine lv_aload_n hx hb dL_law_1258 rfl (lv_at hl 3 rfl) ?_
  refine lv_iload_n hx hb dL_law_1259 rfl (lv_at hl 0 rfl) ?_
  refine lv_iconst (v := 2) hx hb dL_law_1260 (by decide) ?_
  refine lv_iadd hx hb dL_law_1261 ?_
  refine lv_topi (fun y8 ey8 => ?_)
  have ty8 := tl_2
  have hy8 := r_add ey8 (by omega) (by omega)
  refine va_sld hx hb hX hbl hbA hS (vp_in_iff.mpr ⟨by omega, by omega⟩) dL_law_1262 ?_
  refine lv_topi (fun z9 _ => ?_)
  have e8 := (show okX9 ad m_taped m_size m_faultKind m_faultPlace m_at m_end m_token m_number m_name m_bank m_rb m_codes m_within m_piled m_unitsInRule m_askStrand m_askTied m_thoughtClaim m_thoughtNeed m_thoughtAll m_acts m_undone m_laid m_firstMove m_seens m_time m_waysNow m_fitting 148 (f 148) from hTm.1 148 (by decide)).1
  refine tVI (As := [.int z7, .int z9]) (rest := []) (i := 148) ⟨hx, hb, hml, hown, hts⟩ hK hE hP hD hS hA hAB (s_X9_counsels_0 l s.heap.size adK adV D cy ad f c_text m_taped m_size m_faultKind m_faultPlace m_at m_end m_token m_number m_name c_points c_strands c_units c_told c_ruleFrom c_ruleTo c_code c_eWhat c_eSign m_bank m_rb m_codes m_within m_piled m_unitsInRule m_askStrand m_askTied m_thoughtClaim m_thoughtNeed m_thoughtAll c_roundOf m_acts m_undone m_laid m_firstMove m_seens m_time m_waysNow m_fitting f hTm z7 z9 hCV _) (cwV 2 hts gL_law_X9_counsels rfl rfl rfl (by decide +kernel) ⟨Nat.le_of_ble_eq_true rfl, Nat.le_of_ble_eq_true rfl⟩) (by decide) 9 e8 rfl rfl hl.1 rfl (Nat.le_of_ble_eq_true rfl) dL_law_1263 ⟨Nat.le_of_ble_eq_true rfl, Nat.le_of_ble_eq_true rfl⟩ (fun r10 f H locs hw hP hD hS => ?_)
  obtain ⟨_, w11, w12, w13, w14, hT2, h15⟩ := hw
  obtain ⟨hTx, hTm⟩ := LX_m hT2 hTx
  refine lv_pop hx hb dL_law_1266 rfl ?_
  refine lv_goto (tgt := 1720) hx hb dL_law_1267 (by decide) ?_
  exact hk _ _ _ ⟨tx, rby, rnx, c_text, m_taped, m_size, m_faultKind, m_faultPlace, m_at, m_end, m_token, m_number, m_name, c_points, c_strands, c_units, c_told, c_ruleFrom, c_ruleTo, c_code, c_eWhat, c_eSign, m_bank, m_rb, m_codes, m_within, m_piled, m_unitsInRule, w11, w12, m_thoughtClaim, m_thoughtNeed, m_thoughtAll, w13, m_acts, m_undone, w14, m_firstMove, m_seens, m_time, m_waysNow, m_fitting, hTx, hTm, by omega, hCV, by omega, by omega⟩ hP hD hS
set_option maxHeartbeats 4000000 in
set_option maxRecDepth 100000 in
theorem lo_40 {p : Program} {e : Env} {s : State} {m : MethodId} {below : List Frame} {meth : Method} {c : Code} {l : Launch} {b L : Nat} {xs : Nat → Int32} {D : va_G} {cy : Nat → ClassId} {ad : Nat → Nat} {adK adV : Nat → Nat} {f : Nat → va_E} {H : Heap} {locs : List Loc} {ls : Array Slot} (C : LX p s m meth c b L xs D cy) (hE : EN s.heap.size adK adV s) (hLI : LI ad cy f) (hP : va_P D vwCl (wl ad f) H) (hD : va_D (fun q : Nat => s.heap.size ≤ q) (wl ad f)) (hS : va_S (fun q : Nat => s.heap.size ≤ q) s.heap H locs) (x : Int32) (hx0 : 0 ≤ x.toInt ∧ x.toInt + 6 ≤ L) (hL : L ≤ 3072) (hl : lv_has ls 4 [(3, .int x), (2, .ref (ad 148)), (1, .ref (ad 0)), (0, .ref b)]) (hk : ∀ (f : Nat → va_E) (H : Heap) (locs : List Loc), LI ad cy f → va_P D vwCl (wl ad f) H → va_D (fun q : Nat => s.heap.size ≤ q) (wl ad f) → va_S (fun q : Nat => s.heap.size ≤ q) s.heap H locs → W p l e room_1 s m #[Value.ref b] below meth c H locs 185 12666 (lw_Z below #[Value.ref b] s) (F0 m 1720 ls [])) : W p l e room_1 s m #[Value.ref b] below meth c H locs 185 12666 (lw_Z below #[Value.ref b] s) (F0 m 1270 ls []) := by
  obtain ⟨hx, hb, hr, hlk, hml, hown, hts, hX, hbl, hK⟩ := id C
  obtain ⟨tx, rby, rnx, c_text, m_taped, m_size, m_faultKind, m_faultPlace, m_at, m_end, m_token, m_number, m_name, c_points, c_strands, c_units, c_told, c_ruleFrom, c_ruleTo, c_code, c_eWhat, c_eSign, m_bank, m_rb, m_codes, m_within, m_piled, m_unitsInRule, m_askStrand, m_askTied, m_thoughtClaim, m_thoughtNeed, m_thoughtAll, c_roundOf, m_acts, m_undone, m_laid, m_firstMove, m_seens, m_time, m_waysNow, m_fitting, hTx, hTm, hAU, hCV, hTT, hTR⟩ := hLI
  have hA : ∀ q : Nat, s.heap.size ≤ q → (fun q : Nat => s.heap.size ≤ q) q := fun _ h => h
  have hAB : ∀ q : Nat, (fun q : Nat => s.heap.size ≤ q) q → s.heap.size ≤ q := fun _ h => h
  have hbA : ¬ (fun q : Nat => s.heap.size ≤ q) b := Nat.not_le.mpr hbl
  refine lv_aload_n hx hb dL_law_1270 rfl (lv_at hl 2 rfl) ?_
  refine lv_aload_n hx hb dL_law_1271 rfl (lv_at hl 3 rfl) ?_
  refine lv_iload_n hx hb dL_law_1272 rfl (lv_at hl 0 rfl) ?_
  refine lv_iconst (v := 1) hx hb dL_law_1273 (by decide) ?_
  refine lv_iadd hx hb dL_law_1274 ?_
  refine lv_topi (fun y1 ey1 => ?_)
  have ty1 := tl_1
  have hy1 := r_add ey1 (by omega) (by omega)
  refine va_sld hx hb hX hbl hbA hS (vp_in_iff.mpr ⟨by omega, by omega⟩) dL_law_1275 ?_
  refine lv_topi (fun z2 _ => ?_)
  refine lv_aload_n hx hb dL_law_1276 rfl (lv_at hl 3 rfl) ?_
  refine lv_iload_n hx hb dL_law_1277 rfl (lv_at hl 0 rfl) ?_
  refine lv_iconst (v := 2) hx hb dL_law_1278 (by decide) ?_
  refine lv_iadd hx hb dL_law_1279 ?_
  refine lv_topi (fun y3 ey3 => ?_)
  have ty3 := tl_2
  have hy3 := r_add ey3 (by omega) (by omega)
  refine va_sld hx hb hX hbl hbA hS (vp_in_iff.mpr ⟨by omega, by omega⟩) dL_law_1280 ?_
  refine lv_topi (fun z4 _ => ?_)
  obtain ⟨_, _, _, e8, _⟩ := (show okX8 ad tx 0 (f 0) from hTx.1 0 (by decide))
  refine tVI (As := [.int z2, .int z4]) (rest := []) (i := 0) ⟨hx, hb, hml, hown, hts⟩ hK hE hP hD hS hA hAB (s_X8_path_0 l s.heap.size adK adV D cy ad f tx rby rnx f hTx z2 z4 _) (cwV 2 hts gL_law_X8_path rfl rfl rfl (by decide +kernel) ⟨Nat.le_of_ble_eq_true rfl, Nat.le_of_ble_eq_true rfl⟩) (by decide) 8 e8 rfl rfl hl.1 rfl (Nat.le_of_ble_eq_true rfl) dL_law_1281 ⟨Nat.le_of_ble_eq_true rfl, Nat.le_of_ble_eq_true rfl⟩ (fun r5 g H locs hw hP hD hS => ?_)
  obtain ⟨_, rfl⟩ := hw
  refine lv_pop hx hb dL_law_1284 rfl ?_
  refine lv_aload_n hx hb dL_law_1285 rfl (lv_at hl 1 rfl) ?_
  refine lv_aload_n hx hb dL_law_1286 rfl (lv_at hl 3 rfl) ?_
  refine lv_iload_n hx hb dL_law_1287 rfl (lv_at hl 0 rfl) ?_
  refine lv_iconst (v := 1) hx hb dL_law_1288 (by decide) ?_
  refine lv_iadd hx hb dL_law_1289 ?_
  refine lv_topi (fun y6 ey6 => ?_)
  have ty6 := tl_1
  have hy6 := r_add ey6 (by omega) (by omega)
  refine va_sld hx hb hX hbl hbA hS (vp_in_iff.mpr ⟨by omega, by omega⟩) dL_law_1290 ?_
  refine lv_topi (fun z7 _ => ?_)
  refine lv_aload_n hx hb dL_law_1291 rfl (lv_at hl 3 rfl) ?_
  refine lv_iload_n hx hb dL_law_1292 rfl (lv_at hl 0 rfl) ?_
  refine lv_iconst (v := 2) hx hb dL_law_1293 (by decide) ?_
  refine lv_iadd hx hb dL_law_1294 ?_
  refine lv_topi (fun y8 ey8 => ?_)
  have ty8 := tl_2
  have hy8 := r_add ey8 (by omega) (by omega)
  refine va_sld hx hb hX hbl hbA hS (vp_in_iff.mpr ⟨by omega, by omega⟩) dL_law_1295 ?_
  refine lv_topi (fun z9 _ => ?_)
  have e8 := (show okX9 ad m_taped m_size m_faultKind m_faultPlace m_at m_end m_token m_number m_name m_bank m_rb m_codes m_within m_piled m_unitsInRule m_askStrand m_askTied m_thoughtClaim m_thoughtNeed m_thoughtAll m_acts m_undone m_laid m_firstMove m_seens m_time m_waysNow m_fitting 148 (f 148) from hTm.1 148 (by decide)).1
  refine tVI (As := [.int z7, .int z9]) (rest := []) (i := 148) ⟨hx, hb, hml, hown, hts⟩ hK hE hP hD hS hA hAB (s_X9_path_0 l s.heap.size adK adV D cy ad f c_text m_taped m_size m_faultKind m_faultPlace m_at m_end m_token m_number m_name c_points c_strands c_units c_told c_ruleFrom c_ruleTo c_code c_eWhat c_eSign m_bank m_rb m_codes m_within m_piled m_unitsInRule m_askStrand m_askTied m_thoughtClaim m_thoughtNeed m_thoughtAll c_roundOf m_acts m_undone m_laid m_firstMove m_seens m_time m_waysNow m_fitting f hTm z7 z9 _) (cwV 2 hts gL_law_X9_path rfl rfl rfl (by decide +kernel) ⟨Nat.le_of_ble_eq_true rfl, Nat.le_of_ble_eq_true rfl⟩) (by decide) 9 e8 rfl rfl hl.1 rfl (Nat.le_of_ble_eq_true rfl) dL_law_1296 ⟨Nat.le_of_ble_eq_true rfl, Nat.le_of_ble_eq_true rfl⟩ (fun r10 g H locs hw hP hD hS => ?_)
  obtain ⟨_, rfl⟩ := hw
  refine lv_pop hx hb dL_law_1299 rfl ?_
  refine lv_goto (tgt := 1720) hx hb dL_law_1300 (by decide) ?_
  exact hk _ _ _ ⟨tx, rby, rnx, c_text, m_taped, m_size, m_faultKind, m_faultPlace, m_at, m_end, m_token, m_number, m_name, c_points, c_strands, c_units, c_told, c_ruleFrom, c_ruleTo, c_code, c_eWhat, c_eSign, m_bank, m_rb, m_codes, m_within, m_piled, m_unitsInRule, m_askStrand, m_askTied, m_thoughtClaim, m_thoughtNeed, m_thoughtAll, c_roundOf, m_acts, m_undone, m_laid, m_firstMove, m_seens, m_time, m_waysNow, m_fitting, hTx, hTm, by omega, hCV, by omega, by omega⟩ hP hD hS
set_option maxHeartbeats 4000000 in
set_option maxRecDepth 100000 in
theorem lo_41 {p : Program} {e : Env} {s : State} {m : MethodId} {below : List Frame} {meth : Method} {c : Code} {l : Launch} {b L : Nat} {xs : Nat → Int32} {D : va_G} {cy : Nat → ClassId} {ad : Nat → Nat} {adK adV : Nat → Nat} {f : Nat → va_E} {H : Heap} {locs : List Loc} {ls : Array Slot} (C : LX p s m meth c b L xs D cy) (hE : EN s.heap.size adK adV s) (hLI : LI ad cy f) (hP : va_P D vwCl (wl ad f) H) (hD : va_D (fun q : Nat => s.heap.size ≤ q) (wl ad f)) (hS : va_S (fun q : Nat => s.heap.size ≤ q) s.heap H locs) (x : Int32) (hx0 : 0 ≤ x.toInt ∧ x.toInt + 6 ≤ L) (hL : L ≤ 3072) (hl : lv_has ls 4 [(3, .int x), (2, .ref (ad 148)), (1, .ref (ad 0)), (0, .ref b)]) (hk : ∀ (f : Nat → va_E) (H : Heap) (locs : List Loc), LI ad cy f → va_P D vwCl (wl ad f) H → va_D (fun q : Nat => s.heap.size ≤ q) (wl ad f) → va_S (fun q : Nat => s.heap.size ≤ q) s.heap H locs → W p l e room_1 s m #[Value.ref b] below meth c H locs 185 12666 (lw_Z below #[Value.ref b] s) (F0 m 1720 ls [])) : W p l e room_1 s m #[Value.ref b] below meth c H locs 185 12666 (lw_Z below #[Value.ref b] s) (F0 m 1303 ls []) := by
  obtain ⟨hx, hb, hr, hlk, hml, hown, hts, hX, hbl, hK⟩ := id C
  obtain ⟨tx, rby, rnx, c_text, m_taped, m_size, m_faultKind, m_faultPlace, m_at, m_end, m_token, m_number, m_name, c_points, c_strands, c_units, c_told, c_ruleFrom, c_ruleTo, c_code, c_eWhat, c_eSign, m_bank, m_rb, m_codes, m_within, m_piled, m_unitsInRule, m_askStrand, m_askTied, m_thoughtClaim, m_thoughtNeed, m_thoughtAll, c_roundOf, m_acts, m_undone, m_laid, m_firstMove, m_seens, m_time, m_waysNow, m_fitting, hTx, hTm, hAU, hCV, hTT, hTR⟩ := hLI
  have hA : ∀ q : Nat, s.heap.size ≤ q → (fun q : Nat => s.heap.size ≤ q) q := fun _ h => h
  have hAB : ∀ q : Nat, (fun q : Nat => s.heap.size ≤ q) q → s.heap.size ≤ q := fun _ h => h
  have hbA : ¬ (fun q : Nat => s.heap.size ≤ q) b := Nat.not_le.mpr hbl
  refine lv_aload_n hx hb dL_law_1303 rfl (lv_at hl 2 rfl) ?_
  refine lv_aload_n hx hb dL_law_1304 rfl (lv_at hl 3 rfl) ?_
  refine lv_iload_n hx hb dL_law_1305 rfl (lv_at hl 0 rfl) ?_
  refine lv_iconst (v := 1) hx hb dL_law_1306 (by decide) ?_
  refine lv_iadd hx hb dL_law_1307 ?_
  refine lv_topi (fun y1 ey1 => ?_)
  have ty1 := tl_1
  have hy1 := r_add ey1 (by omega) (by omega)
  refine va_sld hx hb hX hbl hbA hS (vp_in_iff.mpr ⟨by omega, by omega⟩) dL_law_1308 ?_
  refine lv_topi (fun z2 _ => ?_)
  obtain ⟨_, _, _, e8, _⟩ := (show okX8 ad tx 0 (f 0) from hTx.1 0 (by decide))
  refine tVI (As := [.int z2]) (rest := []) (i := 0) ⟨hx, hb, hml, hown, hts⟩ hK hE hP hD hS hA hAB (s_X8_shock_0 l s.heap.size adK adV D cy ad f tx rby rnx f hTx z2 _) (cwV 1 hts gL_law_X8_shock rfl rfl rfl (by decide +kernel) ⟨Nat.le_of_ble_eq_true rfl, Nat.le_of_ble_eq_true rfl⟩) (by decide) 8 e8 rfl rfl hl.1 rfl (Nat.le_of_ble_eq_true rfl) dL_law_1309 ⟨Nat.le_of_ble_eq_true rfl, Nat.le_of_ble_eq_true rfl⟩ (fun r3 f H locs hw hP hD hS => ?_)
  obtain ⟨_, hT2⟩ := hw
  obtain ⟨hTx, hTm⟩ := LX_c hT2 hTm
  refine lv_pop hx hb dL_law_1312 rfl ?_
  refine lv_aload_n hx hb dL_law_1313 rfl (lv_at hl 1 rfl) ?_
  refine lv_aload_n hx hb dL_law_1314 rfl (lv_at hl 3 rfl) ?_
  refine lv_iload_n hx hb dL_law_1315 rfl (lv_at hl 0 rfl) ?_
  refine lv_iconst (v := 1) hx hb dL_law_1316 (by decide) ?_
  refine lv_iadd hx hb dL_law_1317 ?_
  refine lv_topi (fun y4 ey4 => ?_)
  have ty4 := tl_1
  have hy4 := r_add ey4 (by omega) (by omega)
  refine va_sld hx hb hX hbl hbA hS (vp_in_iff.mpr ⟨by omega, by omega⟩) dL_law_1318 ?_
  refine lv_topi (fun z5 _ => ?_)
  have e8 := (show okX9 ad m_taped m_size m_faultKind m_faultPlace m_at m_end m_token m_number m_name m_bank m_rb m_codes m_within m_piled m_unitsInRule m_askStrand m_askTied m_thoughtClaim m_thoughtNeed m_thoughtAll m_acts m_undone m_laid m_firstMove m_seens m_time m_waysNow m_fitting 148 (f 148) from hTm.1 148 (by decide)).1
  refine tVI (As := [.int z5]) (rest := []) (i := 148) ⟨hx, hb, hml, hown, hts⟩ hK hE hP hD hS hA hAB (s_X9_shock_0 l s.heap.size adK adV D cy ad f c_text m_taped m_size m_faultKind m_faultPlace m_at m_end m_token m_number m_name c_points c_strands c_units c_told c_ruleFrom c_ruleTo c_code c_eWhat c_eSign m_bank m_rb m_codes m_within m_piled m_unitsInRule m_askStrand m_askTied m_thoughtClaim m_thoughtNeed m_thoughtAll c_roundOf m_acts m_undone m_laid m_firstMove m_seens m_time m_waysNow m_fitting f hTm z5 hCV _) (cwV 1 hts gL_law_X9_shock rfl rfl rfl (by decide +kernel) ⟨Nat.le_of_ble_eq_true rfl, Nat.le_of_ble_eq_true rfl⟩) (by decide) 9 e8 rfl rfl hl.1 rfl (Nat.le_of_ble_eq_true rfl) dL_law_1319 ⟨Nat.le_of_ble_eq_true rfl, Nat.le_of_ble_eq_true rfl⟩ (fun r6 f H locs hw hP hD hS => ?_)
  obtain ⟨_, w7, w8, w9, hT2⟩ := hw
  obtain ⟨hTx, hTm⟩ := LX_m hT2 hTx
  refine lv_pop hx hb dL_law_1322 rfl ?_
  refine lv_goto (tgt := 1720) hx hb dL_law_1323 (by decide) ?_
  exact hk _ _ _ ⟨tx, rby, rnx, c_text, m_taped, m_size, m_faultKind, m_faultPlace, m_at, m_end, m_token, m_number, m_name, c_points, c_strands, c_units, c_told, c_ruleFrom, c_ruleTo, c_code, c_eWhat, c_eSign, m_bank, m_rb, m_codes, m_within, m_piled, m_unitsInRule, w7, w8, m_thoughtClaim, m_thoughtNeed, m_thoughtAll, w9, m_acts, m_undone, m_laid, m_firstMove, m_seens, m_time, m_waysNow, m_fitting, hTx, hTm, by omega, hCV, by omega, by omega⟩ hP hD hS
set_option maxHeartbeats 4000000 in
set_option maxRecDepth 100000 in
theorem lo_42 {p : Program} {e : Env} {s : State} {m : MethodId} {below : List Frame} {meth : Method} {c : Code} {l : Launch} {b L : Nat} {xs : Nat → Int32} {D : va_G} {cy : Nat → ClassId} {ad : Nat → Nat} {adK adV : Nat → Nat} {f : Nat → va_E} {H : Heap} {locs : List Loc} {ls : Array Slot} (C : LX p s m meth c b L xs D cy) (hE : EN s.heap.size adK adV s) (hLI : LI ad cy f) (hP : va_P D vwCl (wl ad f) H) (hD : va_D (fun q : Nat => s.heap.size ≤ q) (wl ad f)) (hS : va_S (fun q : Nat => s.heap.size ≤ q) s.heap H locs) (x : Int32) (hx0 : 0 ≤ x.toInt ∧ x.toInt + 6 ≤ L) (hL : L ≤ 3072) (hl : lv_has ls 4 [(3, .int x), (2, .ref (ad 148)), (1, .ref (ad 0)), (0, .ref b)]) (hk : ∀ (f : Nat → va_E) (H : Heap) (locs : List Loc), LI ad cy f → va_P D vwCl (wl ad f) H → va_D (fun q : Nat => s.heap.size ≤ q) (wl ad f) → va_S (fun q : Nat => s.heap.size ≤ q) s.heap H locs → W p l e room_1 s m #[Value.ref b] below meth c H locs 185 12666 (lw_Z below #[Value.ref b] s) (F0 m 1720 ls [])) : W p l e room_1 s m #[Value.ref b] below meth c H locs 185 12666 (lw_Z below #[Value.ref b] s) (F0 m 1326 ls []) := by
  obtain ⟨hx, hb, hr, hlk, hml, hown, hts, hX, hbl, hK⟩ := id C
  obtain ⟨tx, rby, rnx, c_text, m_taped, m_size, m_faultKind, m_faultPlace, m_at, m_end, m_token, m_number, m_name, c_points, c_strands, c_units, c_told, c_ruleFrom, c_ruleTo, c_code, c_eWhat, c_eSign, m_bank, m_rb, m_codes, m_within, m_piled, m_unitsInRule, m_askStrand, m_askTied, m_thoughtClaim, m_thoughtNeed, m_thoughtAll, c_roundOf, m_acts, m_undone, m_laid, m_firstMove, m_seens, m_time, m_waysNow, m_fitting, hTx, hTm, hAU, hCV, hTT, hTR⟩ := hLI
  have hA : ∀ q : Nat, s.heap.size ≤ q → (fun q : Nat => s.heap.size ≤ q) q := fun _ h => h
  have hAB : ∀ q : Nat, (fun q : Nat => s.heap.size ≤ q) q → s.heap.size ≤ q := fun _ h => h
  have hbA : ¬ (fun q : Nat => s.heap.size ≤ q) b := Nat.not_le.mpr hbl
  refine lv_aload_n hx hb dL_law_1326 rfl (lv_at hl 2 rfl) ?_
  refine lv_aload_n hx hb dL_law_1327 rfl (lv_at hl 3 rfl) ?_
  refine lv_iload_n hx hb dL_law_1328 rfl (lv_at hl 0 rfl) ?_
  refine lv_iconst (v := 1) hx hb dL_law_1329 (by decide) ?_
  refine lv_iadd hx hb dL_law_1330 ?_
  refine lv_topi (fun y1 ey1 => ?_)
  have ty1 := tl_1
  have hy1 := r_add ey1 (by omega) (by omega)
  refine va_sld hx hb hX hbl hbA hS (vp_in_iff.mpr ⟨by omega, by omega⟩) dL_law_1331 ?_
  refine lv_topi (fun z2 _ => ?_)
  obtain ⟨_, _, _, e8, _⟩ := (show okX8 ad tx 0 (f 0) from hTx.1 0 (by decide))
  refine tVI (As := [.int z2]) (rest := []) (i := 0) ⟨hx, hb, hml, hown, hts⟩ hK hE hP hD hS hA hAB (s_X8_brings_0 l s.heap.size adK adV D cy ad f tx rby rnx f hTx z2 _) (cwV 1 hts gL_law_X8_brings rfl rfl rfl (by decide +kernel) ⟨Nat.le_of_ble_eq_true rfl, Nat.le_of_ble_eq_true rfl⟩) (by decide) 8 e8 rfl rfl hl.1 rfl (Nat.le_of_ble_eq_true rfl) dL_law_1332 ⟨Nat.le_of_ble_eq_true rfl, Nat.le_of_ble_eq_true rfl⟩ (fun r3 f H locs hw hP hD hS => ?_)
  obtain ⟨_, hT2⟩ := hw
  obtain ⟨hTx, hTm⟩ := LX_c hT2 hTm
  refine lv_pop hx hb dL_law_1335 rfl ?_
  refine lv_aload_n hx hb dL_law_1336 rfl (lv_at hl 1 rfl) ?_
  refine lv_aload_n hx hb dL_law_1337 rfl (lv_at hl 3 rfl) ?_
  refine lv_iload_n hx hb dL_law_1338 rfl (lv_at hl 0 rfl) ?_
  refine lv_iconst (v := 1) hx hb dL_law_1339 (by decide) ?_
  refine lv_iadd hx hb dL_law_1340 ?_
  refine lv_topi (fun y4 ey4 => ?_)
  have ty4 := tl_1
  have hy4 := r_add ey4 (by omega) (by omega)
  refine va_sld hx hb hX hbl hbA hS (vp_in_iff.mpr ⟨by omega, by omega⟩) dL_law_1341 ?_
  refine lv_topi (fun z5 _ => ?_)
  have e8 := (show okX9 ad m_taped m_size m_faultKind m_faultPlace m_at m_end m_token m_number m_name m_bank m_rb m_codes m_within m_piled m_unitsInRule m_askStrand m_askTied m_thoughtClaim m_thoughtNeed m_thoughtAll m_acts m_undone m_laid m_firstMove m_seens m_time m_waysNow m_fitting 148 (f 148) from hTm.1 148 (by decide)).1
  refine tVI (As := [.int z5]) (rest := []) (i := 148) ⟨hx, hb, hml, hown, hts⟩ hK hE hP hD hS hA hAB (s_X9_brings_0 l s.heap.size adK adV D cy ad f c_text m_taped m_size m_faultKind m_faultPlace m_at m_end m_token m_number m_name c_points c_strands c_units c_told c_ruleFrom c_ruleTo c_code c_eWhat c_eSign m_bank m_rb m_codes m_within m_piled m_unitsInRule m_askStrand m_askTied m_thoughtClaim m_thoughtNeed m_thoughtAll c_roundOf m_acts m_undone m_laid m_firstMove m_seens m_time m_waysNow m_fitting f hTm z5 hCV _) (cwV 1 hts gL_law_X9_brings rfl rfl rfl (by decide +kernel) ⟨Nat.le_of_ble_eq_true rfl, Nat.le_of_ble_eq_true rfl⟩) (by decide) 9 e8 rfl rfl hl.1 rfl (Nat.le_of_ble_eq_true rfl) dL_law_1342 ⟨Nat.le_of_ble_eq_true rfl, Nat.le_of_ble_eq_true rfl⟩ (fun r6 f H locs hw hP hD hS => ?_)
  obtain ⟨_, w7, w8, w9, hT2⟩ := hw
  obtain ⟨hTx, hTm⟩ := LX_m hT2 hTx
  refine lv_pop hx hb dL_law_1345 rfl ?_
  refine lv_goto (tgt := 1720) hx hb dL_law_1346 (by decide) ?_
  exact hk _ _ _ ⟨tx, rby, rnx, c_text, m_taped, m_size, m_faultKind, m_faultPlace, m_at, m_end, m_token, m_number, m_name, c_points, c_strands, c_units, c_told, c_ruleFrom, c_ruleTo, c_code, c_eWhat, c_eSign, m_bank, m_rb, m_codes, m_within, m_piled, m_unitsInRule, w7, w8, m_thoughtClaim, m_thoughtNeed, m_thoughtAll, w9, m_acts, m_undone, m_laid, m_firstMove, m_seens, m_time, m_waysNow, m_fitting, hTx, hTm, by omega, hCV, by omega, by omega⟩ hP hD hS
set_option maxHeartbeats 4000000 in
set_option maxRecDepth 100000 in
theorem lo_43 {p : Program} {e : Env} {s : State} {m : MethodId} {below : List Frame} {meth : Method} {c : Code} {l : Launch} {b L : Nat} {xs : Nat → Int32} {D : va_G} {cy : Nat → ClassId} {ad : Nat → Nat} {adK adV : Nat → Nat} {f : Nat → va_E} {H : Heap} {locs : List Loc} {ls : Array Slot} (C : LX p s m meth c b L xs D cy) (hE : EN s.heap.size adK adV s) (hLI : LI ad cy f) (hP : va_P D vwCl (wl ad f) H) (hD : va_D (fun q : Nat => s.heap.size ≤ q) (wl ad f)) (hS : va_S (fun q : Nat => s.heap.size ≤ q) s.heap H locs) (x : Int32) (hx0 : 0 ≤ x.toInt ∧ x.toInt + 6 ≤ L) (hL : L ≤ 3072) (hl : lv_has ls 4 [(3, .int x), (2, .ref (ad 148)), (1, .ref (ad 0)), (0, .ref b)]) (hk : ∀ (f : Nat → va_E) (H : Heap) (locs : List Loc), LI ad cy f → va_P D vwCl (wl ad f) H → va_D (fun q : Nat => s.heap.size ≤ q) (wl ad f) → va_S (fun q : Nat => s.heap.size ≤ q) s.heap H locs → W p l e room_1 s m #[Value.ref b] below meth c H locs 185 12666 (lw_Z below #[Value.ref b] s) (F0 m 1720 ls [])) : W p l e room_1 s m #[Value.ref b] below meth c H locs 185 12666 (lw_Z below #[Value.ref b] s) (F0 m 1349 ls []) := by
  obtain ⟨hx, hb, hr, hlk, hml, hown, hts, hX, hbl, hK⟩ := id C
  obtain ⟨tx, rby, rnx, c_text, m_taped, m_size, m_faultKind, m_faultPlace, m_at, m_end, m_token, m_number, m_name, c_points, c_strands, c_units, c_told, c_ruleFrom, c_ruleTo, c_code, c_eWhat, c_eSign, m_bank, m_rb, m_codes, m_within, m_piled, m_unitsInRule, m_askStrand, m_askTied, m_thoughtClaim, m_thoughtNeed, m_thoughtAll, c_roundOf, m_acts, m_undone, m_laid, m_firstMove, m_seens, m_time, m_waysNow, m_fitting, hTx, hTm, hAU, hCV, hTT, hTR⟩ := hLI
  have hA : ∀ q : Nat, s.heap.size ≤ q → (fun q : Nat => s.heap.size ≤ q) q := fun _ h => h
  have hAB : ∀ q : Nat, (fun q : Nat => s.heap.size ≤ q) q → s.heap.size ≤ q := fun _ h => h
  have hbA : ¬ (fun q : Nat => s.heap.size ≤ q) b := Nat.not_le.mpr hbl
  refine lv_aload_n hx hb dL_law_1349 rfl (lv_at hl 2 rfl) ?_
  obtain ⟨_, _, _, e8, _⟩ := (show okX8 ad tx 0 (f 0) from hTx.1 0 (by decide))
  refine tVI (As := []) (rest := []) (i := 0) ⟨hx, hb, hml, hown, hts⟩ hK hE hP hD hS hA hAB (s_X8_gaps_0 l s.heap.size adK adV D cy ad f tx rby rnx f hTx _) (cwV 0 hts gL_law_X8_gaps rfl rfl rfl (by decide +kernel) ⟨Nat.le_of_ble_eq_true rfl, Nat.le_of_ble_eq_true rfl⟩) (by decide) 8 e8 rfl rfl hl.1 rfl (Nat.le_of_ble_eq_true rfl) dL_law_1350 ⟨Nat.le_of_ble_eq_true rfl, Nat.le_of_ble_eq_true rfl⟩ (fun r1 g H locs hw hP hD hS => ?_)
  obtain ⟨_, rfl⟩ := hw
  refine lv_pop hx hb dL_law_1353 rfl ?_
  refine lv_aload_n hx hb dL_law_1354 rfl (lv_at hl 1 rfl) ?_
  have e8 := (show okX9 ad m_taped m_size m_faultKind m_faultPlace m_at m_end m_token m_number m_name m_bank m_rb m_codes m_within m_piled m_unitsInRule m_askStrand m_askTied m_thoughtClaim m_thoughtNeed m_thoughtAll m_acts m_undone m_laid m_firstMove m_seens m_time m_waysNow m_fitting 148 (f 148) from hTm.1 148 (by decide)).1
  refine tVI (As := []) (rest := []) (i := 148) ⟨hx, hb, hml, hown, hts⟩ hK hE hP hD hS hA hAB (s_X9_gaps_0 l s.heap.size adK adV D cy ad f c_text m_taped m_size m_faultKind m_faultPlace m_at m_end m_token m_number m_name c_points c_strands c_units c_told c_ruleFrom c_ruleTo c_code c_eWhat c_eSign m_bank m_rb m_codes m_within m_piled m_unitsInRule m_askStrand m_askTied m_thoughtClaim m_thoughtNeed m_thoughtAll c_roundOf m_acts m_undone m_laid m_firstMove m_seens m_time m_waysNow m_fitting f hTm _) (cwV 0 hts gL_law_X9_gaps rfl rfl rfl (by decide +kernel) ⟨Nat.le_of_ble_eq_true rfl, Nat.le_of_ble_eq_true rfl⟩) (by decide) 9 e8 rfl rfl hl.1 rfl (Nat.le_of_ble_eq_true rfl) dL_law_1355 ⟨Nat.le_of_ble_eq_true rfl, Nat.le_of_ble_eq_true rfl⟩ (fun r2 g H locs hw hP hD hS => ?_)
  obtain ⟨_, rfl⟩ := hw
  refine lv_pop hx hb dL_law_1358 rfl ?_
  refine lv_goto (tgt := 1720) hx hb dL_law_1359 (by decide) ?_
  exact hk _ _ _ ⟨tx, rby, rnx, c_text, m_taped, m_size, m_faultKind, m_faultPlace, m_at, m_end, m_token, m_number, m_name, c_points, c_strands, c_units, c_told, c_ruleFrom, c_ruleTo, c_code, c_eWhat, c_eSign, m_bank, m_rb, m_codes, m_within, m_piled, m_unitsInRule, m_askStrand, m_askTied, m_thoughtClaim, m_thoughtNeed, m_thoughtAll, c_roundOf, m_acts, m_undone, m_laid, m_firstMove, m_seens, m_time, m_waysNow, m_fitting, hTx, hTm, by omega, hCV, by omega, by omega⟩ hP hD hS
set_option maxHeartbeats 4000000 in
set_option maxRecDepth 100000 in
theorem lo_44 {p : Program} {e : Env} {s : State} {m : MethodId} {below : List Frame} {meth : Method} {c : Code} {l : Launch} {b L : Nat} {xs : Nat → Int32} {D : va_G} {cy : Nat → ClassId} {ad : Nat → Nat} {adK adV : Nat → Nat} {f : Nat → va_E} {H : Heap} {locs : List Loc} {ls : Array Slot} (C : LX p s m meth c b L xs D cy) (hE : EN s.heap.size adK adV s) (hLI : LI ad cy f) (hP : va_P D vwCl (wl ad f) H) (hD : va_D (fun q : Nat => s.heap.size ≤ q) (wl ad f)) (hS : va_S (fun q : Nat => s.heap.size ≤ q) s.heap H locs) (x : Int32) (hx0 : 0 ≤ x.toInt ∧ x.toInt + 6 ≤ L) (hL : L ≤ 3072) (hl : lv_has ls 4 [(3, .int x), (2, .ref (ad 148)), (1, .ref (ad 0)), (0, .ref b)]) (hk : ∀ (f : Nat → va_E) (H : Heap) (locs : List Loc), LI ad cy f → va_P D vwCl (wl ad f) H → va_D (fun q : Nat => s.heap.size ≤ q) (wl ad f) → va_S (fun q : Nat => s.heap.size ≤ q) s.heap H locs → W p l e room_1 s m #[Value.ref b] below meth c H locs 185 12666 (lw_Z below #[Value.ref b] s) (F0 m 1720 ls [])) : W p l e room_1 s m #[Value.ref b] below meth c H locs 185 12666 (lw_Z below #[Value.ref b] s) (F0 m 1362 ls []) := by
  obtain ⟨hx, hb, hr, hlk, hml, hown, hts, hX, hbl, hK⟩ := id C
  obtain ⟨tx, rby, rnx, c_text, m_taped, m_size, m_faultKind, m_faultPlace, m_at, m_end, m_token, m_number, m_name, c_points, c_strands, c_units, c_told, c_ruleFrom, c_ruleTo, c_code, c_eWhat, c_eSign, m_bank, m_rb, m_codes, m_within, m_piled, m_unitsInRule, m_askStrand, m_askTied, m_thoughtClaim, m_thoughtNeed, m_thoughtAll, c_roundOf, m_acts, m_undone, m_laid, m_firstMove, m_seens, m_time, m_waysNow, m_fitting, hTx, hTm, hAU, hCV, hTT, hTR⟩ := hLI
  have hA : ∀ q : Nat, s.heap.size ≤ q → (fun q : Nat => s.heap.size ≤ q) q := fun _ h => h
  have hAB : ∀ q : Nat, (fun q : Nat => s.heap.size ≤ q) q → s.heap.size ≤ q := fun _ h => h
  have hbA : ¬ (fun q : Nat => s.heap.size ≤ q) b := Nat.not_le.mpr hbl
  refine lv_aload_n hx hb dL_law_1362 rfl (lv_at hl 2 rfl) ?_
  refine lv_aload_n hx hb dL_law_1363 rfl (lv_at hl 3 rfl) ?_
  refine lv_iload_n hx hb dL_law_1364 rfl (lv_at hl 0 rfl) ?_
  refine lv_iconst (v := 1) hx hb dL_law_1365 (by decide) ?_
  refine lv_iadd hx hb dL_law_1366 ?_
  refine lv_topi (fun y1 ey1 => ?_)
  have ty1 := tl_1
  have hy1 := r_add ey1 (by omega) (by omega)
  refine va_sld hx hb hX hbl hbA hS (vp_in_iff.mpr ⟨by omega, by omega⟩) dL_law_1367 ?_
  refine lv_topi (fun z2 _ => ?_)
  obtain ⟨_, _, _, e8, _⟩ := (show okX8 ad tx 0 (f 0) from hTx.1 0 (by decide))
  refine tVI (As := [.int z2]) (rest := []) (i := 0) ⟨hx, hb, hml, hown, hts⟩ hK hE hP hD hS hA hAB (s_X8_best_0 l s.heap.size adK adV D cy ad f tx rby rnx f hTx z2 _) (cwV 1 hts gL_law_X8_best rfl rfl rfl (by decide +kernel) ⟨Nat.le_of_ble_eq_true rfl, Nat.le_of_ble_eq_true rfl⟩) (by decide) 8 e8 rfl rfl hl.1 rfl (Nat.le_of_ble_eq_true rfl) dL_law_1368 ⟨Nat.le_of_ble_eq_true rfl, Nat.le_of_ble_eq_true rfl⟩ (fun r3 f H locs hw hP hD hS => ?_)
  obtain ⟨_, hT2⟩ := hw
  obtain ⟨hTx, hTm⟩ := LX_c hT2 hTm
  refine lv_pop hx hb dL_law_1371 rfl ?_
  refine lv_aload_n hx hb dL_law_1372 rfl (lv_at hl 1 rfl) ?_
  refine lv_aload_n hx hb dL_law_1373 rfl (lv_at hl 3 rfl) ?_
  refine lv_iload_n hx hb dL_law_1374 rfl (lv_at hl 0 rfl) ?_
  refine lv_iconst (v := 1) hx hb dL_law_1375 (by decide) ?_
  refine lv_iadd hx hb dL_law_1376 ?_
  refine lv_topi (fun y4 ey4 => ?_)
  have ty4 := tl_1
  have hy4 := r_add ey4 (by omega) (by omega)
  refine va_sld hx hb hX hbl hbA hS (vp_in_iff.mpr ⟨by omega, by omega⟩) dL_law_1377 ?_
  refine lv_topi (fun z5 _ => ?_)
  have e8 := (show okX9 ad m_taped m_size m_faultKind m_faultPlace m_at m_end m_token m_number m_name m_bank m_rb m_codes m_within m_piled m_unitsInRule m_askStrand m_askTied m_thoughtClaim m_thoughtNeed m_thoughtAll m_acts m_undone m_laid m_firstMove m_seens m_time m_waysNow m_fitting 148 (f 148) from hTm.1 148 (by decide)).1
  refine tVI (As := [.int z5]) (rest := []) (i := 148) ⟨hx, hb, hml, hown, hts⟩ hK hE hP hD hS hA hAB (s_X9_best_0 l s.heap.size adK adV D cy ad f c_text m_taped m_size m_faultKind m_faultPlace m_at m_end m_token m_number m_name c_points c_strands c_units c_told c_ruleFrom c_ruleTo c_code c_eWhat c_eSign m_bank m_rb m_codes m_within m_piled m_unitsInRule m_askStrand m_askTied m_thoughtClaim m_thoughtNeed m_thoughtAll c_roundOf m_acts m_undone m_laid m_firstMove m_seens m_time m_waysNow m_fitting f hTm z5 hCV _) (cwV 1 hts gL_law_X9_best rfl rfl rfl (by decide +kernel) ⟨Nat.le_of_ble_eq_true rfl, Nat.le_of_ble_eq_true rfl⟩) (by decide) 9 e8 rfl rfl hl.1 rfl (Nat.le_of_ble_eq_true rfl) dL_law_1378 ⟨Nat.le_of_ble_eq_true rfl, Nat.le_of_ble_eq_true rfl⟩ (fun r6 f H locs hw hP hD hS => ?_)
  obtain ⟨_, w7, w8, w9, hT2⟩ := hw
  obtain ⟨hTx, hTm⟩ := LX_m hT2 hTx
  refine lv_pop hx hb dL_law_1381 rfl ?_
  refine lv_goto (tgt := 1720) hx hb dL_law_1382 (by decide) ?_
  exact hk _ _ _ ⟨tx, rby, rnx, c_text, m_taped, m_size, m_faultKind, m_faultPlace, m_at, m_end, m_token, m_number, m_name, c_points, c_strands, c_units, c_told, c_ruleFrom, c_ruleTo, c_code, c_eWhat, c_eSign, m_bank, m_rb, m_codes, m_within, m_piled, m_unitsInRule, w7, w8, m_thoughtClaim, m_thoughtNeed, m_thoughtAll, w9, m_acts, m_undone, m_laid, m_firstMove, m_seens, m_time, m_waysNow, m_fitting, hTx, hTm, by omega, hCV, by omega, by omega⟩ hP hD hS
set_option maxHeartbeats 4000000 in
set_option maxRecDepth 100000 in
theorem lo_45 {p : Program} {e : Env} {s : State} {m : MethodId} {below : List Frame} {meth : Method} {c : Code} {l : Launch} {b L : Nat} {xs : Nat → Int32} {D : va_G} {cy : Nat → ClassId} {ad : Nat → Nat} {adK adV : Nat → Nat} {f : Nat → va_E} {H : Heap} {locs : List Loc} {ls : Array Slot} (C : LX p s m meth c b L xs D cy) (hE : EN s.heap.size adK adV s) (hLI : LI ad cy f) (hP : va_P D vwCl (wl ad f) H) (hD : va_D (fun q : Nat => s.heap.size ≤ q) (wl ad f)) (hS : va_S (fun q : Nat => s.heap.size ≤ q) s.heap H locs) (x : Int32) (hx0 : 0 ≤ x.toInt ∧ x.toInt + 6 ≤ L) (hL : L ≤ 3072) (hl : lv_has ls 4 [(3, .int x), (2, .ref (ad 148)), (1, .ref (ad 0)), (0, .ref b)]) (hk : ∀ (f : Nat → va_E) (H : Heap) (locs : List Loc), LI ad cy f → va_P D vwCl (wl ad f) H → va_D (fun q : Nat => s.heap.size ≤ q) (wl ad f) → va_S (fun q : Nat => s.heap.size ≤ q) s.heap H locs → W p l e room_1 s m #[Value.ref b] below meth c H locs 185 12666 (lw_Z below #[Value.ref b] s) (F0 m 1720 ls [])) : W p l e room_1 s m #[Value.ref b] below meth c H locs 185 12666 (lw_Z below #[Value.ref b] s) (F0 m 1385 ls []) := by
  obtain ⟨hx, hb, hr, hlk, hml, hown, hts, hX, hbl, hK⟩ := id C
  obtain ⟨tx, rby, rnx, c_text, m_taped, m_size, m_faultKind, m_faultPlace, m_at, m_end, m_token, m_number, m_name, c_points, c_strands, c_units, c_told, c_ruleFrom, c_ruleTo, c_code, c_eWhat, c_eSign, m_bank, m_rb, m_codes, m_within, m_piled, m_unitsInRule, m_askStrand, m_askTied, m_thoughtClaim, m_thoughtNeed, m_thoughtAll, c_roundOf, m_acts, m_undone, m_laid, m_firstMove, m_seens, m_time, m_waysNow, m_fitting, hTx, hTm, hAU, hCV, hTT, hTR⟩ := hLI
  have hA : ∀ q : Nat, s.heap.size ≤ q → (fun q : Nat => s.heap.size ≤ q) q := fun _ h => h
  have hAB : ∀ q : Nat, (fun q : Nat => s.heap.size ≤ q) q → s.heap.size ≤ q := fun _ h => h
  have hbA : ¬ (fun q : Nat => s.heap.size ≤ q) b := Nat.not_le.mpr hbl
  refine lv_aload_n hx hb dL_law_1385 rfl (lv_at hl 2 rfl) ?_
  obtain ⟨_, _, _, e8, _⟩ := (show okX8 ad tx 0 (f 0) from hTx.1 0 (by decide))
  refine tVI (As := []) (rest := []) (i := 0) ⟨hx, hb, hml, hown, hts⟩ hK hE hP hD hS hA hAB (s_X8_depth_0 l s.heap.size adK adV D cy ad f tx rby rnx f hTx _) (cwV 0 hts gL_law_X8_depth rfl rfl rfl (by decide +kernel) ⟨Nat.le_of_ble_eq_true rfl, Nat.le_of_ble_eq_true rfl⟩) (by decide) 8 e8 rfl rfl hl.1 rfl (Nat.le_of_ble_eq_true rfl) dL_law_1386 ⟨Nat.le_of_ble_eq_true rfl, Nat.le_of_ble_eq_true rfl⟩ (fun r1 f H locs hw hP hD hS => ?_)
  obtain ⟨_, hT2⟩ := hw
  obtain ⟨hTx, hTm⟩ := LX_c hT2 hTm
  refine lv_pop hx hb dL_law_1389 rfl ?_
  refine lv_aload_n hx hb dL_law_1390 rfl (lv_at hl 1 rfl) ?_
  have e8 := (show okX9 ad m_taped m_size m_faultKind m_faultPlace m_at m_end m_token m_number m_name m_bank m_rb m_codes m_within m_piled m_unitsInRule m_askStrand m_askTied m_thoughtClaim m_thoughtNeed m_thoughtAll m_acts m_undone m_laid m_firstMove m_seens m_time m_waysNow m_fitting 148 (f 148) from hTm.1 148 (by decide)).1
  refine tVI (As := []) (rest := []) (i := 148) ⟨hx, hb, hml, hown, hts⟩ hK hE hP hD hS hA hAB (s_X9_depth_0 l s.heap.size adK adV D cy ad f c_text m_taped m_size m_faultKind m_faultPlace m_at m_end m_token m_number m_name c_points c_strands c_units c_told c_ruleFrom c_ruleTo c_code c_eWhat c_eSign m_bank m_rb m_codes m_within m_piled m_unitsInRule m_askStrand m_askTied m_thoughtClaim m_thoughtNeed m_thoughtAll c_roundOf m_acts m_undone m_laid m_firstMove m_seens m_time m_waysNow m_fitting f hTm hCV _) (cwV 0 hts gL_law_X9_depth rfl rfl rfl (by decide +kernel) ⟨Nat.le_of_ble_eq_true rfl, Nat.le_of_ble_eq_true rfl⟩) (by decide) 9 e8 rfl rfl hl.1 rfl (Nat.le_of_ble_eq_true rfl) dL_law_1391 ⟨Nat.le_of_ble_eq_true rfl, Nat.le_of_ble_eq_true rfl⟩ (fun r2 f H locs hw hP hD hS => ?_)
  obtain ⟨_, w3, w4, w5, hT2, h6⟩ := hw
  obtain ⟨hTx, hTm⟩ := LX_m hT2 hTx
  refine lv_pop hx hb dL_law_1394 rfl ?_
  refine lv_goto (tgt := 1720) hx hb dL_law_1395 (by decide) ?_
  exact hk _ _ _ ⟨tx, rby, rnx, c_text, m_taped, m_size, m_faultKind, m_faultPlace, m_at, m_end, m_token, m_number, m_name, c_points, c_strands, c_units, c_told, c_ruleFrom, c_ruleTo, c_code, c_eWhat, c_eSign, m_bank, m_rb, m_codes, m_within, m_piled, m_unitsInRule, w3, w4, m_thoughtClaim, m_thoughtNeed, m_thoughtAll, w5, m_acts, m_undone, m_laid, m_firstMove, m_seens, m_time, m_waysNow, m_fitting, hTx, hTm, by omega, hCV, by omega, by omega⟩ hP hD hS
set_option maxHeartbeats 4000000 in
set_option maxRecDepth 100000 in
theorem lo_46 {p : Program} {e : Env} {s : State} {m : MethodId} {below : List Frame} {meth : Method} {c : Code} {l : Launch} {b L : Nat} {xs : Nat → Int32} {D : va_G} {cy : Nat → ClassId} {ad : Nat → Nat} {adK adV : Nat → Nat} {f : Nat → va_E} {H : Heap} {locs : List Loc} {ls : Array Slot} (C : LX p s m meth c b L xs D cy) (hE : EN s.heap.size adK adV s) (hLI : LI ad cy f) (hP : va_P D vwCl (wl ad f) H) (hD : va_D (fun q : Nat => s.heap.size ≤ q) (wl ad f)) (hS : va_S (fun q : Nat => s.heap.size ≤ q) s.heap H locs) (x : Int32) (hx0 : 0 ≤ x.toInt ∧ x.toInt + 6 ≤ L) (hL : L ≤ 3072) (hl : lv_has ls 4 [(3, .int x), (2, .ref (ad 148)), (1, .ref (ad 0)), (0, .ref b)]) (hk : ∀ (f : Nat → va_E) (H : Heap) (locs : List Loc), LI ad cy f → va_P D vwCl (wl ad f) H → va_D (fun q : Nat => s.heap.size ≤ q) (wl ad f) → va_S (fun q : Nat => s.heap.size ≤ q) s.heap H locs → W p l e room_1 s m #[Value.ref b] below meth c H locs 185 12666 (lw_Z below #[Value.ref b] s) (F0 m 1720 ls [])) : W p l e room_1 s m #[Value.ref b] below meth c H locs 185 12666 (lw_Z below #[Value.ref b] s) (F0 m 1398 ls []) := by
  obtain ⟨hx, hb, hr, hlk, hml, hown, hts, hX, hbl, hK⟩ := id C
  obtain ⟨tx, rby, rnx, c_text, m_taped, m_size, m_faultKind, m_faultPlace, m_at, m_end, m_token, m_number, m_name, c_points, c_strands, c_units, c_told, c_ruleFrom, c_ruleTo, c_code, c_eWhat, c_eSign, m_bank, m_rb, m_codes, m_within, m_piled, m_unitsInRule, m_askStrand, m_askTied, m_thoughtClaim, m_thoughtNeed, m_thoughtAll, c_roundOf, m_acts, m_undone, m_laid, m_firstMove, m_seens, m_time, m_waysNow, m_fitting, hTx, hTm, hAU, hCV, hTT, hTR⟩ := hLI
  have hA : ∀ q : Nat, s.heap.size ≤ q → (fun q : Nat => s.heap.size ≤ q) q := fun _ h => h
  have hAB : ∀ q : Nat, (fun q : Nat => s.heap.size ≤ q) q → s.heap.size ≤ q := fun _ h => h
  have hbA : ¬ (fun q : Nat => s.heap.size ≤ q) b := Nat.not_le.mpr hbl
  refine lv_aload_n hx hb dL_law_1398 rfl (lv_at hl 2 rfl) ?_
  obtain ⟨_, _, _, e8, _⟩ := (show okX8 ad tx 0 (f 0) from hTx.1 0 (by decide))
  refine tVI (As := []) (rest := []) (i := 0) ⟨hx, hb, hml, hown, hts⟩ hK hE hP hD hS hA hAB (s_X8_weakest_0 l s.heap.size adK adV D cy ad f tx rby rnx f hTx _) (cwV 0 hts gL_law_X8_weakest rfl rfl rfl (by decide +kernel) ⟨Nat.le_of_ble_eq_true rfl, Nat.le_of_ble_eq_true rfl⟩) (by decide) 8 e8 rfl rfl hl.1 rfl (Nat.le_of_ble_eq_true rfl) dL_law_1399 ⟨Nat.le_of_ble_eq_true rfl, Nat.le_of_ble_eq_true rfl⟩ (fun r1 f H locs hw hP hD hS => ?_)
  obtain ⟨_, hT2⟩ := hw
  obtain ⟨hTx, hTm⟩ := LX_c hT2 hTm
  refine lv_pop hx hb dL_law_1402 rfl ?_
  refine lv_aload_n hx hb dL_law_1403 rfl (lv_at hl 1 rfl) ?_
  have e8 := (show okX9 ad m_taped m_size m_faultKind m_faultPlace m_at m_end m_token m_number m_name m_bank m_rb m_codes m_within m_piled m_unitsInRule m_askStrand m_askTied m_thoughtClaim m_thoughtNeed m_thoughtAll m_acts m_undone m_laid m_firstMove m_seens m_time m_waysNow m_fitting 148 (f 148) from hTm.1 148 (by decide)).1
  refine tVI (As := []) (rest := []) (i := 148) ⟨hx, hb, hml, hown, hts⟩ hK hE hP hD hS hA hAB (s_X9_weakest_0 l s.heap.size adK adV D cy ad f c_text m_taped m_size m_faultKind m_faultPlace m_at m_end m_token m_number m_name c_points c_strands c_units c_told c_ruleFrom c_ruleTo c_code c_eWhat c_eSign m_bank m_rb m_codes m_within m_piled m_unitsInRule m_askStrand m_askTied m_thoughtClaim m_thoughtNeed m_thoughtAll c_roundOf m_acts m_undone m_laid m_firstMove m_seens m_time m_waysNow m_fitting f hTm hCV _) (cwV 0 hts gL_law_X9_weakest rfl rfl rfl (by decide +kernel) ⟨Nat.le_of_ble_eq_true rfl, Nat.le_of_ble_eq_true rfl⟩) (by decide) 9 e8 rfl rfl hl.1 rfl (Nat.le_of_ble_eq_true rfl) dL_law_1404 ⟨Nat.le_of_ble_eq_true rfl, Nat.le_of_ble_eq_true rfl⟩ (fun r2 f H locs hw hP hD hS => ?_)
  obtain ⟨_, w3, w4, hT2, h5⟩ := hw
  obtain ⟨hTx, hTm⟩ := LX_m hT2 hTx
  refine lv_pop hx hb dL_law_1407 rfl ?_
  refine lv_goto (tgt := 1720) hx hb dL_law_1408 (by decide) ?_
  exact hk _ _ _ ⟨tx, rby, rnx, c_text, m_taped, m_size, m_faultKind, m_faultPlace, m_at, m_end, m_token, m_number, m_name, c_points, c_strands, c_units, c_told, c_ruleFrom, c_ruleTo, c_code, c_eWhat, c_eSign, m_bank, m_rb, m_codes, m_within, m_piled, m_unitsInRule, w3, w4, m_thoughtClaim, m_thoughtNeed, m_thoughtAll, c_roundOf, m_acts, m_undone, m_laid, m_firstMove, m_seens, m_time, m_waysNow, m_fitting, hTx, hTm, by omega, hCV, by omega, by omega⟩ hP hD hS
set_option maxHeartbeats 4000000 in
set_option maxRecDepth 100000 in
theorem lo_47 {p : Program} {e : Env} {s : State} {m : MethodId} {below : List Frame} {meth : Method} {c : Code} {l : Launch} {b L : Nat} {xs : Nat → Int32} {D : va_G} {cy : Nat → ClassId} {ad : Nat → Nat} {adK adV : Nat → Nat} {f : Nat → va_E} {H : Heap} {locs : List Loc} {ls : Array Slot} (C : LX p s m meth c b L xs D cy) (hE : EN s.heap.size adK adV s) (hLI : LI ad cy f) (hP : va_P D vwCl (wl ad f) H) (hD : va_D (fun q : Nat => s.heap.size ≤ q) (wl ad f)) (hS : va_S (fun q : Nat => s.heap.size ≤ q) s.heap H locs) (x : Int32) (hx0 : 0 ≤ x.toInt ∧ x.toInt + 6 ≤ L) (hL : L ≤ 3072) (hl : lv_has ls 4 [(3, .int x), (2, .ref (ad 148)), (1, .ref (ad 0)), (0, .ref b)]) (hk : ∀ (f : Nat → va_E) (H : Heap) (locs : List Loc), LI ad cy f → va_P D vwCl (wl ad f) H → va_D (fun q : Nat => s.heap.size ≤ q) (wl ad f) → va_S (fun q : Nat => s.heap.size ≤ q) s.heap H locs → W p l e room_1 s m #[Value.ref b] below meth c H locs 185 12666 (lw_Z below #[Value.ref b] s) (F0 m 1720 ls [])) : W p l e room_1 s m #[Value.ref b] below meth c H locs 185 12666 (lw_Z below #[Value.ref b] s) (F0 m 1411 ls []) := by
  obtain ⟨hx, hb, hr, hlk, hml, hown, hts, hX, hbl, hK⟩ := id C
  obtain ⟨tx, rby, rnx, c_text, m_taped, m_size, m_faultKind, m_faultPlace, m_at, m_end, m_token, m_number, m_name, c_points, c_strands, c_units, c_told, c_ruleFrom, c_ruleTo, c_code, c_eWhat, c_eSign, m_bank, m_rb, m_codes, m_within, m_piled, m_unitsInRule, m_askStrand, m_askTied, m_thoughtClaim, m_thoughtNeed, m_thoughtAll, c_roundOf, m_acts, m_undone, m_laid, m_firstMove, m_seens, m_time, m_waysNow, m_fitting, hTx, hTm, hAU, hCV, hTT, hTR⟩ := hLI
  have hA : ∀ q : Nat, s.heap.size ≤ q → (fun q : Nat => s.heap.size ≤ q) q := fun _ h => h
  have hAB : ∀ q : Nat, (fun q : Nat => s.heap.size ≤ q) q → s.heap.size ≤ q := fun _ h => h
  have hbA : ¬ (fun q : Nat => s.heap.size ≤ q) b := Nat.not_le.mpr hbl
  refine lv_aload_n hx hb dL_law_1411 rfl (lv_at hl 2 rfl) ?_
  refine lv_aload_n hx hb dL_law_1412 rfl (lv_at hl 3 rfl) ?_
  refine lv_iload_n hx hb dL_law_1413 rfl (lv_at hl 0 rfl) ?_
  refine lv_iconst (v := 1) hx hb dL_law_1414 (by decide) ?_
  refine lv_iadd hx hb dL_law_1415 ?_
  refine lv_topi (fun y1 ey1 => ?_)
  have ty1 := tl_1
  have hy1 := r_add ey1 (by omega) (by omega)
  refine va_sld hx hb hX hbl hbA hS (vp_in_iff.mpr ⟨by omega, by omega⟩) dL_law_1416 ?_
  refine lv_topi (fun z2 _ => ?_)
  obtain ⟨_, _, _, e8, _⟩ := (show okX8 ad tx 0 (f 0) from hTx.1 0 (by decide))
  refine tVI (As := [.int z2]) (rest := []) (i := 0) ⟨hx, hb, hml, hown, hts⟩ hK hE hP hD hS hA hAB (s_X8_lies_0 l s.heap.size adK adV D cy ad f tx rby rnx f hTx z2 _) (cwV 1 hts gL_law_X8_lies rfl rfl rfl (by decide +kernel) ⟨Nat.le_of_ble_eq_true rfl, Nat.le_of_ble_eq_true rfl⟩) (by decide) 8 e8 rfl rfl hl.1 rfl (Nat.le_of_ble_eq_true rfl) dL_law_1417 ⟨Nat.le_of_ble_eq_true rfl, Nat.le_of_ble_eq_true rfl⟩ (fun r3 g H locs hw hP hD hS => ?_)
  obtain ⟨_, rfl⟩ := hw
  refine lv_pop hx hb dL_law_1420 rfl ?_
  refine lv_aload_n hx hb dL_law_1421 rfl (lv_at hl 1 rfl) ?_
  refine lv_aload_n hx hb dL_law_1422 rfl (lv_at hl 3 rfl) ?_
  refine lv_iload_n hx hb dL_law_1423 rfl (lv_at hl 0 rfl) ?_
  refine lv_iconst (v := 1) hx hb dL_law_1424 (by decide) ?_
  refine lv_iadd hx hb dL_law_1425 ?_
  refine lv_topi (fun y4 ey4 => ?_)
  have ty4 := tl_1
  have hy4 := r_add ey4 (by omega) (by omega)
  refine va_sld hx hb hX hbl hbA hS (vp_in_iff.mpr ⟨by omega, by omega⟩) dL_law_1426 ?_
  refine lv_topi (fun z5 _ => ?_)
  have e8 := (show okX9 ad m_taped m_size m_faultKind m_faultPlace m_at m_end m_token m_number m_name m_bank m_rb m_codes m_within m_piled m_unitsInRule m_askStrand m_askTied m_thoughtClaim m_thoughtNeed m_thoughtAll m_acts m_undone m_laid m_firstMove m_seens m_time m_waysNow m_fitting 148 (f 148) from hTm.1 148 (by decide)).1
  refine tVI (As := [.int z5]) (rest := []) (i := 148) ⟨hx, hb, hml, hown, hts⟩ hK hE hP hD hS hA hAB (s_X9_lies_0 l s.heap.size adK adV D cy ad f c_text m_taped m_size m_faultKind m_faultPlace m_at m_end m_token m_number m_name c_points c_strands c_units c_told c_ruleFrom c_ruleTo c_code c_eWhat c_eSign m_bank m_rb m_codes m_within m_piled m_unitsInRule m_askStrand m_askTied m_thoughtClaim m_thoughtNeed m_thoughtAll c_roundOf m_acts m_undone m_laid m_firstMove m_seens m_time m_waysNow m_fitting f hTm z5 _) (cwV 1 hts gL_law_X9_lies rfl rfl rfl (by decide +kernel) ⟨Nat.le_of_ble_eq_true rfl, Nat.le_of_ble_eq_true rfl⟩) (by decide) 9 e8 rfl rfl hl.1 rfl (Nat.le_of_ble_eq_true rfl) dL_law_1427 ⟨Nat.le_of_ble_eq_true rfl, Nat.le_of_ble_eq_true rfl⟩ (fun r6 g H locs hw hP hD hS => ?_)
  obtain ⟨_, rfl⟩ := hw
  refine lv_pop hx hb dL_law_1430 rfl ?_
  refine lv_goto (tgt := 1720) hx hb dL_law_1431 (by decide) ?_
  exact hk _ _ _ ⟨tx, rby, rnx, c_text, m_taped, m_size, m_faultKind, m_faultPlace, m_at, m_end, m_token, m_number, m_name, c_points, c_strands, c_units, c_told, c_ruleFrom, c_ruleTo, c_code, c_eWhat, c_eSign, m_bank, m_rb, m_codes, m_within, m_piled, m_unitsInRule, m_askStrand, m_askTied, m_thoughtClaim, m_thoughtNeed, m_thoughtAll, c_roundOf, m_acts, m_undone, m_laid, m_firstMove, m_seens, m_time, m_waysNow, m_fitting, hTx, hTm, by omega, hCV, by omega, by omega⟩ hP hD hS
set_option maxHeartbeats 4000000 in
set_option maxRecDepth 100000 in
theorem lo_48 {p : Program} {e : Env} {s : State} {m : MethodId} {below : List Frame} {meth : Method} {c : Code} {l : Launch} {b L : Nat} {xs : Nat → Int32} {D : va_G} {cy : Nat → ClassId} {ad : Nat → Nat} {adK adV : Nat → Nat} {f : Nat → va_E} {H : Heap} {locs : List Loc} {ls : Array Slot} (C : LX p s m meth c b L xs D cy) (hE : EN s.heap.size adK adV s) (hLI : LI ad cy f) (hP : va_P D vwCl (wl ad f) H) (hD : va_D (fun q : Nat => s.heap.size ≤ q) (wl ad f)) (hS : va_S (fun q : Nat => s.heap.size ≤ q) s.heap H locs) (x : Int32) (hx0 : 0 ≤ x.toInt ∧ x.toInt + 6 ≤ L) (hL : L ≤ 3072) (hl : lv_has ls 4 [(3, .int x), (2, .ref (ad 148)), (1, .ref (ad 0)), (0, .ref b)]) (hk : ∀ (f : Nat → va_E) (H : Heap) (locs : List Loc), LI ad cy f → va_P D vwCl (wl ad f) H → va_D (fun q : Nat => s.heap.size ≤ q) (wl ad f) → va_S (fun q : Nat => s.heap.size ≤ q) s.heap H locs → W p l e room_1 s m #[Value.ref b] below meth c H locs 185 12666 (lw_Z below #[Value.ref b] s) (F0 m 1720 ls [])) : W p l e room_1 s m #[Value.ref b] below meth c H locs 185 12666 (lw_Z below #[Value.ref b] s) (F0 m 1434 ls []) := by
  obtain ⟨hx, hb, hr, hlk, hml, hown, hts, hX, hbl, hK⟩ := id C
  obtain ⟨tx, rby, rnx, c_text, m_taped, m_size, m_faultKind, m_faultPlace, m_at, m_end, m_token, m_number, m_name, c_points, c_strands, c_units, c_told, c_ruleFrom, c_ruleTo, c_code, c_eWhat, c_eSign, m_bank, m_rb, m_codes, m_within, m_piled, m_unitsInRule, m_askStrand, m_askTied, m_thoughtClaim, m_thoughtNeed, m_thoughtAll, c_roundOf, m_acts, m_undone, m_laid, m_firstMove, m_seens, m_time, m_waysNow, m_fitting, hTx, hTm, hAU, hCV, hTT, hTR⟩ := hLI
  have hA : ∀ q : Nat, s.heap.size ≤ q → (fun q : Nat => s.heap.size ≤ q) q := fun _ h => h
  have hAB : ∀ q : Nat, (fun q : Nat => s.heap.size ≤ q) q → s.heap.size ≤ q := fun _ h => h
  have hbA : ¬ (fun q : Nat => s.heap.size ≤ q) b := Nat.not_le.mpr hbl
  refine lv_aload_n hx hb dL_law_1434 rfl (lv_at hl 2 rfl) ?_
  refine lv_aload_n hx hb dL_law_1435 rfl (lv_at hl 3 rfl) ?_
  refine lv_iload_n hx hb dL_law_1436 rfl (lv_at hl 0 rfl) ?_
  refine lv_iconst (v := 1) hx hb dL_law_1437 (by decide) ?_
  refine lv_iadd hx hb dL_law_1438 ?_
  refine lv_topi (fun y1 ey1 => ?_)
  have ty1 := tl_1
  have hy1 := r_add ey1 (by omega) (by omega)
  refine va_sld hx hb hX hbl hbA hS (vp_in_iff.mpr ⟨by omega, by omega⟩) dL_law_1439 ?_
  refine lv_topi (fun z2 _ => ?_)
  refine lv_aload_n hx hb dL_law_1440 rfl (lv_at hl 3 rfl) ?_
  refine lv_iload_n hx hb dL_law_1441 rfl (lv_at hl 0 rfl) ?_
  refine lv_iconst (v := 2) hx hb dL_law_1442 (by decide) ?_
  refine lv_iadd hx hb dL_law_1443 ?_
  refine lv_topi (fun y3 ey3 => ?_)
  have ty3 := tl_2
  have hy3 := r_add ey3 (by omega) (by omega)
  refine va_sld hx hb hX hbl hbA hS (vp_in_iff.mpr ⟨by omega, by omega⟩) dL_law_1444 ?_
  refine lv_topi (fun z4 _ => ?_)
  obtain ⟨_, _, _, e8, _⟩ := (show okX8 ad tx 0 (f 0) from hTx.1 0 (by decide))
  refine tVI (As := [.int z2, .int z4]) (rest := []) (i := 0) ⟨hx, hb, hml, hown, hts⟩ hK hE hP hD hS hA hAB (s_X8_odds_0 l s.heap.size adK adV D cy ad f tx rby rnx f hTx z2 z4 _) (cwV 2 hts gL_law_X8_odds rfl rfl rfl (by decide +kernel) ⟨Nat.le_of_ble_eq_true rfl, Nat.le_of_ble_eq_true rfl⟩) (by decide) 8 e8 rfl rfl hl.1 rfl (Nat.le_of_ble_eq_true rfl) dL_law_1445 ⟨Nat.le_of_ble_eq_true rfl, Nat.le_of_ble_eq_true rfl⟩ (fun r5 g H locs hw hP hD hS => ?_)
  obtain ⟨_, rfl⟩ := hw
  refine lv_pop hx hb dL_law_1448 rfl ?_
  refine lv_aload_n hx hb dL_law_1449 rfl (lv_at hl 1 rfl) ?_
  refine lv_aload_n hx hb dL_law_1450 rfl (lv_at hl 3 rfl) ?_
  refine lv_iload_n hx hb dL_law_1451 rfl (lv_at hl 0 rfl) ?_
  refine lv_iconst (v := 1) hx hb dL_law_1452 (by decide) ?_
  refine lv_iadd hx hb dL_law_1453 ?_
  refine lv_topi (fun y6 ey6 => ?_)
  have ty6 := tl_1
  have hy6 := r_add ey6 (by omega) (by omega)
  refine va_sld hx hb hX hbl hbA hS (vp_in_iff.mpr ⟨by omega, by omega⟩) dL_law_1454 ?_
  refine lv_topi (fun z7 _ => ?_)
  refine lv_aload_n hx hb dL_law_1455 rfl (lv_at hl 3 rfl) ?_
  refine lv_iload_n hx hb dL_law_1456 rfl (lv_at hl 0 rfl) ?_
  refine lv_iconst (v := 2) hx hb dL_law_1457 (by decide) ?_
  refine lv_iadd hx hb dL_law_1458 ?_
  refine lv_topi (fun y8 ey8 => ?_)
  have ty8 := tl_2
  have hy8 := r_add ey8 (by omega) (by omega)
  refine va_sld hx hb hX hbl hbA hS (vp_in_iff.mpr ⟨by omega, by omega⟩) dL_law_1459 ?_
  refine lv_topi (fun z9 _ => ?_)
  have e8 := (show okX9 ad m_taped m_size m_faultKind m_faultPlace m_at m_end m_token m_number m_name m_bank m_rb m_codes m_within m_piled m_unitsInRule m_askStrand m_askTied m_thoughtClaim m_thoughtNeed m_thoughtAll m_acts m_undone m_laid m_firstMove m_seens m_time m_waysNow m_fitting 148 (f 148) from hTm.1 148 (by decide)).1
  refine tVI (As := [.int z7, .int z9]) (rest := []) (i := 148) ⟨hx, hb, hml, hown, hts⟩ hK hE hP hD hS hA hAB (s_X9_odds_0 l s.heap.size adK adV D cy ad f c_text m_taped m_size m_faultKind m_faultPlace m_at m_end m_token m_number m_name c_points c_strands c_units c_told c_ruleFrom c_ruleTo c_code c_eWhat c_eSign m_bank m_rb m_codes m_within m_piled m_unitsInRule m_askStrand m_askTied m_thoughtClaim m_thoughtNeed m_thoughtAll c_roundOf m_acts m_undone m_laid m_firstMove m_seens m_time m_waysNow m_fitting f hTm z7 z9 _) (cwV 2 hts gL_law_X9_odds rfl rfl rfl (by decide +kernel) ⟨Nat.le_of_ble_eq_true rfl, Nat.le_of_ble_eq_true rfl⟩) (by decide) 9 e8 rfl rfl hl.1 rfl (Nat.le_of_ble_eq_true rfl) dL_law_1460 ⟨Nat.le_of_ble_eq_true rfl, Nat.le_of_ble_eq_true rfl⟩ (fun r10 g H locs hw hP hD hS => ?_)
  obtain ⟨_, rfl⟩ := hw
  refine lv_pop hx hb dL_law_1463 rfl ?_
  refine lv_goto (tgt := 1720) hx hb dL_law_1464 (by decide) ?_
  exact hk _ _ _ ⟨tx, rby, rnx, c_text, m_taped, m_size, m_faultKind, m_faultPlace, m_at, m_end, m_token, m_number, m_name, c_points, c_strands, c_units, c_told, c_ruleFrom, c_ruleTo, c_code, c_eWhat, c_eSign, m_bank, m_rb, m_codes, m_within, m_piled, m_unitsInRule, m_askStrand, m_askTied, m_thoughtClaim, m_thoughtNeed, m_thoughtAll, c_roundOf, m_acts, m_undone, m_laid, m_firstMove, m_seens, m_time, m_waysNow, m_fitting, hTx, hTm, by omega, hCV, by omega, by omega⟩ hP hD hS
set_option maxHeartbeats 4000000 in
set_option maxRecDepth 100000 in
theorem lo_49 {p : Program} {e : Env} {s : State} {m : MethodId} {below : List Frame} {meth : Method} {c : Code} {l : Launch} {b L : Nat} {xs : Nat → Int32} {D : va_G} {cy : Nat → ClassId} {ad : Nat → Nat} {adK adV : Nat → Nat} {f : Nat → va_E} {H : Heap} {locs : List Loc} {ls : Array Slot} (C : LX p s m meth c b L xs D cy) (hE : EN s.heap.size adK adV s) (hLI : LI ad cy f) (hP : va_P D vwCl (wl ad f) H) (hD : va_D (fun q : Nat => s.heap.size ≤ q) (wl ad f)) (hS : va_S (fun q : Nat => s.heap.size ≤ q) s.heap H locs) (x : Int32) (hx0 : 0 ≤ x.toInt ∧ x.toInt + 6 ≤ L) (hL : L ≤ 3072) (hl : lv_has ls 4 [(3, .int x), (2, .ref (ad 148)), (1, .ref (ad 0)), (0, .ref b)]) (hk : ∀ (f : Nat → va_E) (H : Heap) (locs : List Loc), LI ad cy f → va_P D vwCl (wl ad f) H → va_D (fun q : Nat => s.heap.size ≤ q) (wl ad f) → va_S (fun q : Nat => s.heap.size ≤ q) s.heap H locs → W p l e room_1 s m #[Value.ref b] below meth c H locs 185 12666 (lw_Z below #[Value.ref b] s) (F0 m 1720 ls [])) : W p l e room_1 s m #[Value.ref b] below meth c H locs 185 12666 (lw_Z below #[Value.ref b] s) (F0 m 1467 ls []) := by
  obtain ⟨hx, hb, hr, hlk, hml, hown, hts, hX, hbl, hK⟩ := id C
  obtain ⟨tx, rby, rnx, c_text, m_taped, m_size, m_faultKind, m_faultPlace, m_at, m_end, m_token, m_number, m_name, c_points, c_strands, c_units, c_told, c_ruleFrom, c_ruleTo, c_code, c_eWhat, c_eSign, m_bank, m_rb, m_codes, m_within, m_piled, m_unitsInRule, m_askStrand, m_askTied, m_thoughtClaim, m_thoughtNeed, m_thoughtAll, c_roundOf, m_acts, m_undone, m_laid, m_firstMove, m_seens, m_time, m_waysNow, m_fitting, hTx, hTm, hAU, hCV, hTT, hTR⟩ := hLI
  have hA : ∀ q : Nat, s.heap.size ≤ q → (fun q : Nat => s.heap.size ≤ q) q := fun _ h => h
  have hAB : ∀ q : Nat, (fun q : Nat => s.heap.size ≤ q) q → s.heap.size ≤ q := fun _ h => h
  have hbA : ¬ (fun q : Nat => s.heap.size ≤ q) b := Nat.not_le.mpr hbl
  refine lv_aload_n hx hb dL_law_1467 rfl (lv_at hl 2 rfl) ?_
  refine lv_aload_n hx hb dL_law_1468 rfl (lv_at hl 3 rfl) ?_
  refine lv_iload_n hx hb dL_law_1469 rfl (lv_at hl 0 rfl) ?_
  refine lv_iconst (v := 1) hx hb dL_law_1470 (by decide) ?_
  refine lv_iadd hx hb dL_law_1471 ?_
  refine lv_topi (fun y1 ey1 => ?_)
  have ty1 := tl_1
  have hy1 := r_add ey1 (by omega) (by omega)
  refine va_sld hx hb hX hbl hbA hS (vp_in_iff.mpr ⟨by omega, by omega⟩) dL_law_1472 ?_
  refine lv_topi (fun z2 _ => ?_)
  refine lv_aload_n hx hb dL_law_1473 rfl (lv_at hl 3 rfl) ?_
  refine lv_iload_n hx hb dL_law_1474 rfl (lv_at hl 0 rfl) ?_
  refine lv_iconst (v := 2) hx hb dL_law_1475 (by decide) ?_
  refine lv_iadd hx hb dL_law_1476 ?_
  refine lv_topi (fun y3 ey3 => ?_)
  have ty3 := tl_2
  have hy3 := r_add ey3 (by omega) (by omega)
  refine va_sld hx hb hX hbl hbA hS (vp_in_iff.mpr ⟨by omega, by omega⟩) dL_law_1477 ?_
  refine lv_topi (fun z4 _ => ?_)
  refine lv_if_eq (tgt := 1485) hx hb dL_law_1478 (by decide) (fun _ => ?_) (fun _ => ?_)
  · refine lv_iconst (v := 0) hx hb dL_law_1485 (by decide) ?_
    obtain ⟨_, _, _, e8, _⟩ := (show okX8 ad tx 0 (f 0) from hTx.1 0 (by decide))
    refine tVI (As := [.int z2, .int 0]) (rest := []) (i := 0) ⟨hx, hb, hml, hown, hts⟩ hK hE hP hD hS hA hAB (s_X8_seen_0 l s.heap.size adK adV D cy ad f tx rby rnx f hTx z2 (0 : Int32) _) (cwV 2 hts gL_law_X8_seen rfl rfl rfl (by decide +kernel) ⟨Nat.le_of_ble_eq_true rfl, Nat.le_of_ble_eq_true rfl⟩) (by decide) 8 e8 rfl rfl hl.1 rfl (Nat.le_of_ble_eq_true rfl) dL_law_1486 ⟨Nat.le_of_ble_eq_true rfl, Nat.le_of_ble_eq_true rfl⟩ (fun r5 f H locs hw hP hD hS => ?_)
    obtain ⟨_, hT2⟩ := hw
    obtain ⟨hTx, hTm⟩ := LX_c hT2 hTm
    refine lv_pop hx hb dL_law_1489 rfl ?_
    refine lv_aload_n hx hb dL_law_1490 rfl (lv_at hl 1 rfl) ?_
    refine lv_aload_n hx hb dL_law_1491 rfl (lv_at hl 3 rfl) ?_
    refine lv_iload_n hx hb dL_law_1492 rfl (lv_at hl 0 rfl) ?_
    refine lv_iconst (v := 1) hx hb dL_law_1493 (by decide) ?_
    refine lv_iadd hx hb dL_law_1494 ?_
    refine lv_topi (fun y6 ey6 => ?_)
    have ty6 := tl_1
    have hy6 := r_add ey6 (by omega) (by omega)
    refine va_sld hx hb hX hbl hbA hS (vp_in_iff.mpr ⟨by omega, by omega⟩) dL_law_1495 ?_
    refine lv_topi (fun z7 _ => ?_)
    refine lv_aload_n hx hb dL_law_1496 rfl (lv_at hl 3 rfl) ?_
    refine lv_iload_n hx hb dL_law_1497 rfl (lv_at hl 0 rfl) ?_
    refine lv_iconst (v := 2) hx hb dL_law_1498 (by decide) ?_
    refine lv_iadd hx hb dL_law_1499 ?_
    refine lv_topi (fun y8 ey8 => ?_)
    have ty8 := tl_2
    have hy8 := r_add ey8 (by omega) (by omega)
    refine va_sld hx hb hX hbl hbA hS (vp_in_iff.mpr ⟨by omega, by omega⟩) dL_law_1500 ?_
    refine lv_topi (fun z9 _ => ?_)
    refine lv_if_eq (tgt := 1508) hx hb dL_law_1501 (by decide) (fun _ => ?_) (fun _ => ?_)
    · refine lv_iconst (v := 0) hx hb dL_law_1508 (by decide) ?_
      have e8 := (show okX9 ad m_taped m_size m_faultKind m_faultPlace m_at m_end m_token m_number m_name m_bank m_rb m_codes m_within m_piled m_unitsInRule m_askStrand m_askTied m_thoughtClaim m_thoughtNeed m_thoughtAll m_acts m_undone m_laid m_firstMove m_seens m_time m_waysNow m_fitting 148 (f 148) from hTm.1 148 (by decide)).1
      refine tVI (As := [.int z7, .int 0]) (rest := []) (i := 148) ⟨hx, hb, hml, hown, hts⟩ hK hE hP hD hS hA hAB (s_X9_seen_0 l s.heap.size adK adV D cy ad f c_text m_taped m_size m_faultKind m_faultPlace m_at m_end m_token m_number m_name c_points c_strands c_units c_told c_ruleFrom c_ruleTo c_code c_eWhat c_eSign m_bank m_rb m_codes m_within m_piled m_unitsInRule m_askStrand m_askTied m_thoughtClaim m_thoughtNeed m_thoughtAll c_roundOf m_acts m_undone m_laid m_firstMove m_seens m_time m_waysNow m_fitting f hTm z7 (0 : Int32) _) (cwV 2 hts gL_law_X9_seen rfl rfl rfl (by decide +kernel) ⟨Nat.le_of_ble_eq_true rfl, Nat.le_of_ble_eq_true rfl⟩) (by decide) 9 e8 rfl rfl hl.1 rfl (Nat.le_of_ble_eq_true rfl) dL_law_1509 ⟨Nat.le_of_ble_eq_true rfl, Nat.le_of_ble_eq_true rfl⟩ (fun r10 f H locs hw hP hD hS => ?_)
      obtain ⟨_, w11, hT2⟩ := hw
      obtain ⟨hTx, hTm⟩ := LX_m hT2 hTx
      refine lv_pop hx hb dL_law_1512 rfl ?_
      refine lv_goto (tgt := 1720) hx hb dL_law_1513 (by decide) ?_
      exact hk _ _ _ ⟨tx, rby, rnx, c_text, m_taped, m_size, m_faultKind, m_faultPlace, m_at, m_end, m_token, m_number, m_name, c_points, c_strands, c_units, c_told, c_ruleFrom, c_ruleTo, c_code, c_eWhat, c_eSign, m_bank, m_rb, m_codes, m_within, m_piled, m_unitsInRule, m_askStrand, m_askTied, m_thoughtClaim, m_thoughtNeed, m_thoughtAll, c_roundOf, m_acts, m_undone, m_laid, m_firstMove, w11, m_time, m_waysNow, m_fitting, hTx, hTm, by omega, hCV, by omega, by omega⟩ hP hD hS
    · refine lv_iconst (v := 1) hx hb dL_law_1504 (by decide) ?_
      refine lv_goto (tgt := 1509) hx hb dL_law_1505 (by decide) ?_
      have e8 := (show okX9 ad m_taped m_size m_faultKind m_faultPlace m_at m_end m_token m_number m_name m_bank m_rb m_codes m_within m_piled m_unitsInRule m_askStrand m_askTied m_thoughtClaim m_thoughtNeed m_thoughtAll m_acts m_undone m_laid m_firstMove m_seens m_time m_waysNow m_fitting 148 (f 148) from hTm.1 148 (by decide)).1
      refine tVI (As := [.int z7, .int 1]) (rest := []) (i := 148) ⟨hx, hb, hml, hown, hts⟩ hK hE hP hD hS hA hAB (s_X9_seen_0 l s.heap.size adK adV D cy ad f c_text m_taped m_size m_faultKind m_faultPlace m_at m_end m_token m_number m_name c_points c_strands c_units c_told c_ruleFrom c_ruleTo c_code c_eWhat c_eSign m_bank m_rb m_codes m_within m_piled m_unitsInRule m_askStrand m_askTied m_thoughtClaim m_thoughtNeed m_thoughtAll c_roundOf m_acts m_undone m_laid m_firstMove m_seens m_time m_waysNow m_fitting f hTm z7 (1 : Int32) _) (cwV 2 hts gL_law_X9_seen rfl rfl rfl (by decide +kernel) ⟨Nat.le_of_ble_eq_true rfl, Nat.le_of_ble_eq_true rfl⟩) (by decide) 9 e8 rfl rfl hl.1 rfl (Nat.le_of_ble_eq_true rfl) dL_law_1509 ⟨Nat.le_of_ble_eq_true rfl, Nat.le_of_ble_eq_true rfl⟩ (fun r12 f H locs hw hP hD hS => ?_)
      obtain ⟨_, w13, hT2⟩ := hw
      obtain ⟨hTx, hTm⟩ := LX_m hT2 hTx
      refine lv_pop hx hb dL_law_1512 rfl ?_
      refine lv_goto (tgt := 1720) hx hb dL_law_1513 (by decide) ?_
      exact hk _ _ _ ⟨tx, rby, rnx, c_text, m_taped, m_size, m_faultKind, m_faultPlace, m_at, m_end, m_token, m_number, m_name, c_points, c_strands, c_units, c_told, c_ruleFrom, c_ruleTo, c_code, c_eWhat, c_eSign, m_bank, m_rb, m_codes, m_within, m_piled, m_unitsInRule, m_askStrand, m_askTied, m_thoughtClaim, m_thoughtNeed, m_thoughtAll, c_roundOf, m_acts, m_undone, m_laid, m_firstMove, w13, m_time, m_waysNow, m_fitting, hTx, hTm, by omega, hCV, by omega, by omega⟩ hP hD hS
  · refine lv_iconst (v := 1) hx hb dL_law_1481 (by decide) ?_
    refine lv_goto (tgt := 1486) hx hb dL_law_1482 (by decide) ?_
    obtain ⟨_, _, _, e8, _⟩ := (show okX8 ad tx 0 (f 0) from hTx.1 0 (by decide))
    refine tVI (As := [.int z2, .int 1]) (rest := []) (i := 0) ⟨hx, hb, hml, hown, hts⟩ hK hE hP hD hS hA hAB (s_X8_seen_0 l s.heap.size adK adV D cy ad f tx rby rnx f hTx z2 (1 : Int32) _) (cwV 2 hts gL_law_X8_seen rfl rfl rfl (by decide +kernel) ⟨Nat.le_of_ble_eq_true rfl, Nat.le_of_ble_eq_true rfl⟩) (by decide) 8 e8 rfl rfl hl.1 rfl (Nat.le_of_ble_eq_true rfl) dL_law_1486 ⟨Nat.le_of_ble_eq_true rfl, Nat.le_of_ble_eq_true rfl⟩ (fun r14 f H locs hw hP hD hS => ?_)
    obtain ⟨_, hT2⟩ := hw
    obtain ⟨hTx, hTm⟩ := LX_c hT2 hTm
    refine lv_pop hx hb dL_law_1489 rfl ?_
    refine lv_aload_n hx hb dL_law_1490 rfl (lv_at hl 1 rfl) ?_
    refine lv_aload_n hx hb dL_law_1491 rfl (lv_at hl 3 rfl) ?_
    refine lv_iload_n hx hb dL_law_1492 rfl (lv_at hl 0 rfl) ?_
    refine lv_iconst (v := 1) hx hb dL_law_1493 (by decide) ?_
    refine lv_iadd hx hb dL_law_1494 ?_
    refine lv_topi (fun y15 ey15 => ?_)
    have ty15 := tl_1
    have hy15 := r_add ey15 (by omega) (by omega)
    refine va_sld hx hb hX hbl hbA hS (vp_in_iff.mpr ⟨by omega, by omega⟩) dL_law_1495 ?_
    refine lv_topi (fun z16 _ => ?_)
    refine lv_aload_n hx hb dL_law_1496 rfl (lv_at hl 3 rfl) ?_
    refine lv_iload_n hx hb dL_law_1497 rfl (lv_at hl 0 rfl) ?_
    refine lv_iconst (v := 2) hx hb dL_law_1498 (by decide) ?_
    refine lv_iadd hx hb dL_law_1499 ?_
    refine lv_topi (fun y17 ey17 => ?_)
    have ty17 := tl_2
    have hy17 := r_add ey17 (by omega) (by omega)
    refine va_sld hx hb hX hbl hbA hS (vp_in_iff.mpr ⟨by omega, by omega⟩) dL_law_1500 ?_
    refine lv_topi (fun z18 _ => ?_)
    refine lv_if_eq (tgt := 1508) hx hb dL_law_1501 (by decide) (fun _ => ?_) (fun _ => ?_)
    · refine lv_iconst (v := 0) hx hb dL_law_1508 (by decide) ?_
      have e8 := (show okX9 ad m_taped m_size m_faultKind m_faultPlace m_at m_end m_token m_number m_name m_bank m_rb m_codes m_within m_piled m_unitsInRule m_askStrand m_askTied m_thoughtClaim m_thoughtNeed m_thoughtAll m_acts m_undone m_laid m_firstMove m_seens m_time m_waysNow m_fitting 148 (f 148) from hTm.1 148 (by decide)).1
      refine tVI (As := [.int z16, .int 0]) (rest := []) (i := 148) ⟨hx, hb, hml, hown, hts⟩ hK hE hP hD hS hA hAB (s_X9_seen_0 l s.heap.size adK adV D cy ad f c_text m_taped m_size m_faultKind m_faultPlace m_at m_end m_token m_number m_name c_points c_strands c_units c_told c_ruleFrom c_ruleTo c_code c_eWhat c_eSign m_bank m_rb m_codes m_within m_piled m_unitsInRule m_askStrand m_askTied m_thoughtClaim m_thoughtNeed m_thoughtAll c_roundOf m_acts m_undone m_laid m_firstMove m_seens m_time m_waysNow m_fitting f hTm z16 (0 : Int32) _) (cwV 2 hts gL_law_X9_seen rfl rfl rfl (by decide +kernel) ⟨Nat.le_of_ble_eq_true rfl, Nat.le_of_ble_eq_true rfl⟩) (by decide) 9 e8 rfl rfl hl.1 rfl (Nat.le_of_ble_eq_true rfl) dL_law_1509 ⟨Nat.le_of_ble_eq_true rfl, Nat.le_of_ble_eq_true rfl⟩ (fun r19 f H locs hw hP hD hS => ?_)
      obtain ⟨_, w20, hT2⟩ := hw
      obtain ⟨hTx, hTm⟩ := LX_m hT2 hTx
      refine lv_pop hx hb dL_law_1512 rfl ?_
      refine lv_goto (tgt := 1720) hx hb dL_law_1513 (by decide) ?_
      exact hk _ _ _ ⟨tx, rby, rnx, c_text, m_taped, m_size, m_faultKind, m_faultPlace, m_at, m_end, m_token, m_number, m_name, c_points, c_strands, c_units, c_told, c_ruleFrom, c_ruleTo, c_code, c_eWhat, c_eSign, m_bank, m_rb, m_codes, m_within, m_piled, m_unitsInRule, m_askStrand, m_askTied, m_thoughtClaim, m_thoughtNeed, m_thoughtAll, c_roundOf, m_acts, m_undone, m_laid, m_firstMove, w20, m_time, m_waysNow, m_fitting, hTx, hTm, by omega, hCV, by omega, by omega⟩ hP hD hS
    · refine lv_iconst (v := 1) hx hb dL_law_1504 (by decide) ?_
      refine lv_goto (tgt := 1509) hx hb dL_law_1505 (by decide) ?_
      have e8 := (show okX9 ad m_taped m_size m_faultKind m_faultPlace m_at m_end m_token m_number m_name m_bank m_rb m_codes m_within m_piled m_unitsInRule m_askStrand m_askTied m_thoughtClaim m_thoughtNeed m_thoughtAll m_acts m_undone m_laid m_firstMove m_seens m_time m_waysNow m_fitting 148 (f 148) from hTm.1 148 (by decide)).1
      refine tVI (As := [.int z16, .int 1]) (rest := []) (i := 148) ⟨hx, hb, hml, hown, hts⟩ hK hE hP hD hS hA hAB (s_X9_seen_0 l s.heap.size adK adV D cy ad f c_text m_taped m_size m_faultKind m_faultPlace m_at m_end m_token m_number m_name c_points c_strands c_units c_told c_ruleFrom c_ruleTo c_code c_eWhat c_eSign m_bank m_rb m_codes m_within m_piled m_unitsInRule m_askStrand m_askTied m_thoughtClaim m_thoughtNeed m_thoughtAll c_roundOf m_acts m_undone m_laid m_firstMove m_seens m_time m_waysNow m_fitting f hTm z16 (1 : Int32) _) (cwV 2 hts gL_law_X9_seen rfl rfl rfl (by decide +kernel) ⟨Nat.le_of_ble_eq_true rfl, Nat.le_of_ble_eq_true rfl⟩) (by decide) 9 e8 rfl rfl hl.1 rfl (Nat.le_of_ble_eq_true rfl) dL_law_1509 ⟨Nat.le_of_ble_eq_true rfl, Nat.le_of_ble_eq_true rfl⟩ (fun r21 f H locs hw hP hD hS => ?_)
      obtain ⟨_, w22, hT2⟩ := hw
      obtain ⟨hTx, hTm⟩ := LX_m hT2 hTx
      refine lv_pop hx hb dL_law_1512 rfl ?_
      refine lv_goto (tgt := 1720) hx hb dL_law_1513 (by decide) ?_
      exact hk _ _ _ ⟨tx, rby, rnx, c_text, m_taped, m_size, m_faultKind, m_faultPlace, m_at, m_end, m_token, m_number, m_name, c_points, c_strands, c_units, c_told, c_ruleFrom, c_ruleTo, c_code, c_eWhat, c_eSign, m_bank, m_rb, m_codes, m_within, m_piled, m_unitsInRule, m_askStrand, m_askTied, m_thoughtClaim, m_thoughtNeed, m_thoughtAll, c_roundOf, m_acts, m_undone, m_laid, m_firstMove, w22, m_time, m_waysNow, m_fitting, hTx, hTm, by omega, hCV, by omega, by omega⟩ hP hD hS
set_option maxHeartbeats 4000000 in
set_option maxRecDepth 100000 in
theorem lo_50 {p : Program} {e : Env} {s : State} {m : MethodId} {below : List Frame} {meth : Method} {c : Code} {l : Launch} {b L : Nat} {xs : Nat → Int32} {D : va_G} {cy : Nat → ClassId} {ad : Nat → Nat} {adK adV : Nat → Nat} {f : Nat → va_E} {H : Heap} {locs : List Loc} {ls : Array Slot} (C : LX p s m meth c b L xs D cy) (hE : EN s.heap.size adK adV s) (hLI : LI ad cy f) (hP : va_P D vwCl (wl ad f) H) (hD : va_D (fun q : Nat => s.heap.size ≤ q) (wl ad f)) (hS : va_S (fun q : Nat => s.heap.size ≤ q) s.heap H locs) (x : Int32) (hx0 : 0 ≤ x.toInt ∧ x.toInt + 6 ≤ L) (hL : L ≤ 3072) (hl : lv_has ls 4 [(3, .int x), (2, .ref (ad 148)), (1, .ref (ad 0)), (0, .ref b)]) (hk : ∀ (f : Nat → va_E) (H : Heap) (locs : List Loc), LI ad cy f → va_P D vwCl (wl ad f) H → va_D (fun q : Nat => s.heap.size ≤ q) (wl ad f) → va_S (fun q : Nat => s.heap.size ≤ q) s.heap H locs → W p l e room_1 s m #[Value.ref b] below meth c H locs 185 12666 (lw_Z below #[Value.ref b] s) (F0 m 1720 ls [])) : W p l e room_1 s m #[Value.ref b] below meth c H locs 185 12666 (lw_Z below #[Value.ref b] s) (F0 m 1516 ls []) := by
  obtain ⟨hx, hb, hr, hlk, hml, hown, hts, hX, hbl, hK⟩ := id C
  obtain ⟨tx, rby, rnx, c_text, m_taped, m_size, m_faultKind, m_faultPlace, m_at, m_end, m_token, m_number, m_name, c_points, c_strands, c_units, c_told, c_ruleFrom, c_ruleTo, c_code, c_eWhat, c_eSign, m_bank, m_rb, m_codes, m_within, m_piled, m_unitsInRule, m_askStrand, m_askTied, m_thoughtClaim, m_thoughtNeed, m_thoughtAll, c_roundOf, m_acts, m_undone, m_laid, m_firstMove, m_seens, m_time, m_waysNow, m_fitting, hTx, hTm, hAU, hCV, hTT, hTR⟩ := hLI
  have hA : ∀ q : Nat, s.heap.size ≤ q → (fun q : Nat => s.heap.size ≤ q) q := fun _ h => h
  have hAB : ∀ q : Nat, (fun q : Nat => s.heap.size ≤ q) q → s.heap.size ≤ q := fun _ h => h
  have hbA : ¬ (fun q : Nat => s.heap.size ≤ q) b := Nat.not_le.mpr hbl
  refine lv_aload_n hx hb dL_law_1516 rfl (lv_at hl 2 rfl) ?_
  refine lv_aload_n hx hb dL_law_1517 rfl (lv_at hl 3 rfl) ?_
  refine lv_iload_n hx hb dL_law_1518 rfl (lv_at hl 0 rfl) ?_
  refine lv_iconst (v := 1) hx hb dL_law_1519 (by decide) ?_
  refine lv_iadd hx hb dL_law_1520 ?_
  refine lv_topi (fun y1 ey1 => ?_)
  have ty1 := tl_1
  have hy1 := r_add ey1 (by omega) (by omega)
  refine va_sld hx hb hX hbl hbA hS (vp_in_iff.mpr ⟨by omega, by omega⟩) dL_law_1521 ?_
  refine lv_topi (fun z2 _ => ?_)
  obtain ⟨_, _, _, e8, _⟩ := (show okX8 ad tx 0 (f 0) from hTx.1 0 (by decide))
  refine tVI (As := [.int z2]) (rest := []) (i := 0) ⟨hx, hb, hml, hown, hts⟩ hK hE hP hD hS hA hAB (s_X8_untell_0 l s.heap.size adK adV D cy ad f tx rby rnx f hTx z2 _) (cwV 1 hts gL_law_X8_untell rfl rfl rfl (by decide +kernel) ⟨Nat.le_of_ble_eq_true rfl, Nat.le_of_ble_eq_true rfl⟩) (by decide) 8 e8 rfl rfl hl.1 rfl (Nat.le_of_ble_eq_true rfl) dL_law_1522 ⟨Nat.le_of_ble_eq_true rfl, Nat.le_of_ble_eq_true rfl⟩ (fun r3 f H locs hw hP hD hS => ?_)
  obtain ⟨_, hT2⟩ := hw
  obtain ⟨hTx, hTm⟩ := LX_c hT2 hTm
  refine lv_pop hx hb dL_law_1525 rfl ?_
  refine lv_aload_n hx hb dL_law_1526 rfl (lv_at hl 1 rfl) ?_
  refine lv_aload_n hx hb dL_law_1527 rfl (lv_at hl 3 rfl) ?_
  refine lv_iload_n hx hb dL_law_1528 rfl (lv_at hl 0 rfl) ?_
  refine lv_iconst (v := 1) hx hb dL_law_1529 (by decide) ?_
  refine lv_iadd hx hb dL_law_1530 ?_
  refine lv_topi (fun y4 ey4 => ?_)
  have ty4 := tl_1
  have hy4 := r_add ey4 (by omega) (by omega)
  refine va_sld hx hb hX hbl hbA hS (vp_in_iff.mpr ⟨by omega, by omega⟩) dL_law_1531 ?_
  refine lv_topi (fun z5 _ => ?_)
  have e8 := (show okX9 ad m_taped m_size m_faultKind m_faultPlace m_at m_end m_token m_number m_name m_bank m_rb m_codes m_within m_piled m_unitsInRule m_askStrand m_askTied m_thoughtClaim m_thoughtNeed m_thoughtAll m_acts m_undone m_laid m_firstMove m_seens m_time m_waysNow m_fitting 148 (f 148) from hTm.1 148 (by decide)).1
  refine tVI (As := [.int z5]) (rest := []) (i := 148) ⟨hx, hb, hml, hown, hts⟩ hK hE hP hD hS hA hAB (s_X9_untell_0 l s.heap.size adK adV D cy ad f c_text m_taped m_size m_faultKind m_faultPlace m_at m_end m_token m_number m_name c_points c_strands c_units c_told c_ruleFrom c_ruleTo c_code c_eWhat c_eSign m_bank m_rb m_codes m_within m_piled m_unitsInRule m_askStrand m_askTied m_thoughtClaim m_thoughtNeed m_thoughtAll c_roundOf m_acts m_undone m_laid m_firstMove m_seens m_time m_waysNow m_fitting f hTm z5 _) (cwV 1 hts gL_law_X9_untell rfl rfl rfl (by decide +kernel) ⟨Nat.le_of_ble_eq_true rfl, Nat.le_of_ble_eq_true rfl⟩) (by decide) 9 e8 rfl rfl hl.1 rfl (Nat.le_of_ble_eq_true rfl) dL_law_1532 ⟨Nat.le_of_ble_eq_true rfl, Nat.le_of_ble_eq_true rfl⟩ (fun r6 f H locs hw hP hD hS => ?_)
  obtain ⟨_, hT2⟩ := hw
  obtain ⟨hTx, hTm⟩ := LX_m hT2 hTx
  refine lv_pop hx hb dL_law_1535 rfl ?_
  refine lv_goto (tgt := 1720) hx hb dL_law_1536 (by decide) ?_
  exact hk _ _ _ ⟨tx, rby, rnx, c_text, m_taped, m_size, m_faultKind, m_faultPlace, m_at, m_end, m_token, m_number, m_name, c_points, c_strands, c_units, c_told, c_ruleFrom, c_ruleTo, c_code, c_eWhat, c_eSign, m_bank, m_rb, m_codes, m_within, m_piled, m_unitsInRule, m_askStrand, m_askTied, m_thoughtClaim, m_thoughtNeed, m_thoughtAll, c_roundOf, m_acts, m_undone, m_laid, m_firstMove, m_seens, m_time, m_waysNow, m_fitting, hTx, hTm, by omega, hCV, by omega, by omega⟩ hP hD hS
set_option maxHeartbeats 4000000 in
set_option maxRecDepth 100000 in
theorem lo_51 {p : Program} {e : Env} {s : State} {m : MethodId} {below : List Frame} {meth : Method} {c : Code} {l : Launch} {b L : Nat} {xs : Nat → Int32} {D : va_G} {cy : Nat → ClassId} {ad : Nat → Nat} {adK adV : Nat → Nat} {f : Nat → va_E} {H : Heap} {locs : List Loc} {ls : Array Slot} (C : LX p s m meth c b L xs D cy) (hE : EN s.heap.size adK adV s) (hLI : LI ad cy f) (hP : va_P D vwCl (wl ad f) H) (hD : va_D (fun q : Nat => s.heap.size ≤ q) (wl ad f)) (hS : va_S (fun q : Nat => s.heap.size ≤ q) s.heap H locs) (x : Int32) (hx0 : 0 ≤ x.toInt ∧ x.toInt + 6 ≤ L) (hL : L ≤ 3072) (hl : lv_has ls 4 [(3, .int x), (2, .ref (ad 148)), (1, .ref (ad 0)), (0, .ref b)]) (hk : ∀ (f : Nat → va_E) (H : Heap) (locs : List Loc), LI ad cy f → va_P D vwCl (wl ad f) H → va_D (fun q : Nat => s.heap.size ≤ q) (wl ad f) → va_S (fun q : Nat => s.heap.size ≤ q) s.heap H locs → W p l e room_1 s m #[Value.ref b] below meth c H locs 185 12666 (lw_Z below #[Value.ref b] s) (F0 m 1720 ls [])) : W p l e room_1 s m #[Value.ref b] below meth c H locs 185 12666 (lw_Z below #[Value.ref b] s) (F0 m 1539 ls []) := by
  obtain ⟨hx, hb, hr, hlk, hml, hown, hts, hX, hbl, hK⟩ := id C
  obtain ⟨tx, rby, rnx, c_text, m_taped, m_size, m_faultKind, m_faultPlace, m_at, m_end, m_token, m_number, m_name, c_points, c_strands, c_units, c_told, c_ruleFrom, c_ruleTo, c_code, c_eWhat, c_eSign, m_bank, m_rb, m_codes, m_within, m_piled, m_unitsInRule, m_askStrand, m_askTied, m_thoughtClaim, m_thoughtNeed, m_thoughtAll, c_roundOf, m_acts, m_undone, m_laid, m_firstMove, m_seens, m_time, m_waysNow, m_fitting, hTx, hTm, hAU, hCV, hTT, hTR⟩ := hLI
  have hA : ∀ q : Nat, s.heap.size ≤ q → (fun q : Nat => s.heap.size ≤ q) q := fun _ h => h
  have hAB : ∀ q : Nat, (fun q : Nat => s.heap.size ≤ q) q → s.heap.size ≤ q := fun _ h => h
  have hbA : ¬ (fun q : Nat => s.heap.size ≤ q) b := Nat.not_le.mpr hbl
  refine lv_aload_n hx hb dL_law_1539 rfl (lv_at hl 2 rfl) ?_
  refine lv_aload_n hx hb dL_law_1540 rfl (lv_at hl 3 rfl) ?_
  refine lv_iload_n hx hb dL_law_1541 rfl (lv_at hl 0 rfl) ?_
  refine lv_iconst (v := 1) hx hb dL_law_1542 (by decide) ?_
  refine lv_iadd hx hb dL_law_1543 ?_
  refine lv_topi (fun y1 ey1 => ?_)
  have ty1 := tl_1
  have hy1 := r_add ey1 (by omega) (by omega)
  refine va_sld hx hb hX hbl hbA hS (vp_in_iff.mpr ⟨by omega, by omega⟩) dL_law_1544 ?_
  refine lv_topi (fun z2 ez2 => ?_)
  obtain ⟨_, _, _, e8, _⟩ := (show okX8 ad tx 0 (f 0) from hTx.1 0 (by decide))
  refine tVI (As := [.int z2]) (rest := []) (i := 0) ⟨hx, hb, hml, hown, hts⟩ hK hE hP hD hS hA hAB (s_X8_later_0 l s.heap.size adK adV D cy ad f tx rby rnx f hTx z2 (by omega) _) (cwV 1 hts gL_law_X8_later rfl rfl rfl (by decide +kernel) ⟨Nat.le_of_ble_eq_true rfl, Nat.le_of_ble_eq_true rfl⟩) (by decide) 8 e8 rfl rfl hl.1 rfl (Nat.le_of_ble_eq_true rfl) dL_law_1545 ⟨Nat.le_of_ble_eq_true rfl, Nat.le_of_ble_eq_true rfl⟩ (fun r3 f H locs hw hP hD hS => ?_)
  obtain ⟨_, w4, hT2, h5, h6⟩ := hw
  obtain ⟨hTx, hTm⟩ := LX_c hT2 hTm
  refine lv_aload_n hx hb dL_law_1548 rfl (lv_at hl 1 rfl) ?_
  refine lv_aload_n hx hb dL_law_1549 rfl (lv_at hl 3 rfl) ?_
  refine lv_iload_n hx hb dL_law_1550 rfl (lv_at hl 0 rfl) ?_
  refine lv_iconst (v := 1) hx hb dL_law_1551 (by decide) ?_
  refine lv_iadd hx hb dL_law_1552 ?_
  refine lv_topi (fun y7 ey7 => ?_)
  have ty7 := tl_1
  have hy7 := r_add ey7 (by omega) (by omega)
  refine va_sld hx hb hX hbl hbA hS (vp_in_iff.mpr ⟨by omega, by omega⟩) dL_law_1553 ?_
  refine lv_topi (fun z8 ez8 => ?_)
  have e8 := (show okX9 ad m_taped m_size m_faultKind m_faultPlace m_at m_end m_token m_number m_name m_bank m_rb m_codes m_within m_piled m_unitsInRule m_askStrand m_askTied m_thoughtClaim m_thoughtNeed m_thoughtAll m_acts m_undone m_laid m_firstMove m_seens m_time m_waysNow m_fitting 148 (f 148) from hTm.1 148 (by decide)).1
  refine tVI (As := [.int z8]) (rest := [.int r3]) (i := 148) ⟨hx, hb, hml, hown, hts⟩ hK hE hP hD hS hA hAB (s_X9_later_0 l s.heap.size adK adV D cy ad f c_text m_taped m_size m_faultKind m_faultPlace m_at m_end m_token m_number m_name c_points c_strands c_units c_told c_ruleFrom c_ruleTo c_code c_eWhat c_eSign m_bank m_rb m_codes m_within m_piled m_unitsInRule m_askStrand m_askTied m_thoughtClaim m_thoughtNeed m_thoughtAll c_roundOf m_acts m_undone m_laid m_firstMove m_seens m_time m_waysNow m_fitting f hTm z8 (by omega) _) (cwV 1 hts gL_law_X9_later rfl rfl rfl (by decide +kernel) ⟨Nat.le_of_ble_eq_true rfl, Nat.le_of_ble_eq_true rfl⟩) (by decide) 9 e8 rfl rfl hl.1 rfl (Nat.le_of_ble_eq_true rfl) dL_law_1554 ⟨Nat.le_of_ble_eq_true rfl, Nat.le_of_ble_eq_true rfl⟩ (fun r9 f H locs hw hP hD hS => ?_)
  obtain ⟨_, w10, hT2, h11, h12⟩ := hw
  obtain ⟨hTx, hTm⟩ := LX_m hT2 hTx
  have hzz : z2 = z8 := by rw [ez2, ez8, (i_eq y1 y7).mpr (by omega)]
  have hzi := c_eq hzz
  have ee : r3 = r9 := (i_eq _ _).mpr (by omega)
  refine lv_icmp_eq (tgt := 1720) hx hb dL_law_1557 (by decide) (fun _ => ?_) (fun c => absurd ee c)
  exact hk _ _ _ ⟨w4, rby, rnx, c_text, m_taped, m_size, m_faultKind, m_faultPlace, m_at, m_end, m_token, m_number, m_name, c_points, c_strands, c_units, c_told, c_ruleFrom, c_ruleTo, c_code, c_eWhat, c_eSign, m_bank, m_rb, m_codes, m_within, m_piled, m_unitsInRule, m_askStrand, m_askTied, m_thoughtClaim, m_thoughtNeed, m_thoughtAll, c_roundOf, m_acts, m_undone, m_laid, m_firstMove, m_seens, w10, m_waysNow, m_fitting, hTx, hTm, by omega, hCV, by omega, by omega⟩ hP hD hS
set_option maxHeartbeats 4000000 in
set_option maxRecDepth 100000 in
theorem lo_52 {p : Program} {e : Env} {s : State} {m : MethodId} {below : List Frame} {meth : Method} {c : Code} {l : Launch} {b L : Nat} {xs : Nat → Int32} {D : va_G} {cy : Nat → ClassId} {ad : Nat → Nat} {adK adV : Nat → Nat} {f : Nat → va_E} {H : Heap} {locs : List Loc} {ls : Array Slot} (C : LX p s m meth c b L xs D cy) (hE : EN s.heap.size adK adV s) (hLI : LI ad cy f) (hP : va_P D vwCl (wl ad f) H) (hD : va_D (fun q : Nat => s.heap.size ≤ q) (wl ad f)) (hS : va_S (fun q : Nat => s.heap.size ≤ q) s.heap H locs) (x : Int32) (hx0 : 0 ≤ x.toInt ∧ x.toInt + 6 ≤ L) (hL : L ≤ 3072) (hl : lv_has ls 4 [(3, .int x), (2, .ref (ad 148)), (1, .ref (ad 0)), (0, .ref b)]) (hk : ∀ (f : Nat → va_E) (H : Heap) (locs : List Loc), LI ad cy f → va_P D vwCl (wl ad f) H → va_D (fun q : Nat => s.heap.size ≤ q) (wl ad f) → va_S (fun q : Nat => s.heap.size ≤ q) s.heap H locs → W p l e room_1 s m #[Value.ref b] below meth c H locs 185 12666 (lw_Z below #[Value.ref b] s) (F0 m 1720 ls [])) : W p l e room_1 s m #[Value.ref b] below meth c H locs 185 12666 (lw_Z below #[Value.ref b] s) (F0 m 1562 ls []) := by
  obtain ⟨hx, hb, hr, hlk, hml, hown, hts, hX, hbl, hK⟩ := id C
  obtain ⟨tx, rby, rnx, c_text, m_taped, m_size, m_faultKind, m_faultPlace, m_at, m_end, m_token, m_number, m_name, c_points, c_strands, c_units, c_told, c_ruleFrom, c_ruleTo, c_code, c_eWhat, c_eSign, m_bank, m_rb, m_codes, m_within, m_piled, m_unitsInRule, m_askStrand, m_askTied, m_thoughtClaim, m_thoughtNeed, m_thoughtAll, c_roundOf, m_acts, m_undone, m_laid, m_firstMove, m_seens, m_time, m_waysNow, m_fitting, hTx, hTm, hAU, hCV, hTT, hTR⟩ := hLI
  have hA : ∀ q : Nat, s.heap.size ≤ q → (fun q : Nat => s.heap.size ≤ q) q := fun _ h => h
  have hAB : ∀ q : Nat, (fun q : Nat => s.heap.size ≤ q) q → s.heap.size ≤ q := fun _ h => h
  have hbA : ¬ (fun q : Nat => s.heap.size ≤ q) b := Nat.not_le.mpr hbl
  refine lv_aload_n hx hb dL_law_1562 rfl (lv_at hl 2 rfl) ?_
  refine lv_aload_n hx hb dL_law_1563 rfl (lv_at hl 3 rfl) ?_
  refine lv_iload_n hx hb dL_law_1564 rfl (lv_at hl 0 rfl) ?_
  refine lv_iconst (v := 1) hx hb dL_law_1565 (by decide) ?_
  refine lv_iadd hx hb dL_law_1566 ?_
  refine lv_topi (fun y1 ey1 => ?_)
  have ty1 := tl_1
  have hy1 := r_add ey1 (by omega) (by omega)
  refine va_sld hx hb hX hbl hbA hS (vp_in_iff.mpr ⟨by omega, by omega⟩) dL_law_1567 ?_
  refine lv_topi (fun z2 _ => ?_)
  obtain ⟨_, _, _, e8, _⟩ := (show okX8 ad tx 0 (f 0) from hTx.1 0 (by decide))
  refine tVI (As := [.int z2]) (rest := []) (i := 0) ⟨hx, hb, hml, hown, hts⟩ hK hE hP hD hS hA hAB (s_X8_ways_0 l s.heap.size adK adV D cy ad f tx rby rnx f hTx z2 _) (cwV 1 hts gL_law_X8_ways rfl rfl rfl (by decide +kernel) ⟨Nat.le_of_ble_eq_true rfl, Nat.le_of_ble_eq_true rfl⟩) (by decide) 8 e8 rfl rfl hl.1 rfl (Nat.le_of_ble_eq_true rfl) dL_law_1568 ⟨Nat.le_of_ble_eq_true rfl, Nat.le_of_ble_eq_true rfl⟩ (fun r3 f H locs hw hP hD hS => ?_)
  obtain ⟨_, hT2⟩ := hw
  obtain ⟨hTx, hTm⟩ := LX_c hT2 hTm
  refine lv_pop hx hb dL_law_1571 rfl ?_
  refine lv_aload_n hx hb dL_law_1572 rfl (lv_at hl 1 rfl) ?_
  refine lv_aload_n hx hb dL_law_1573 rfl (lv_at hl 3 rfl) ?_
  refine lv_iload_n hx hb dL_law_1574 rfl (lv_at hl 0 rfl) ?_
  refine lv_iconst (v := 1) hx hb dL_law_1575 (by decide) ?_
  refine lv_iadd hx hb dL_law_1576 ?_
  refine lv_topi (fun y4 ey4 => ?_)
  have ty4 := tl_1
  have hy4 := r_add ey4 (by omega) (by omega)
  refine va_sld hx hb hX hbl hbA hS (vp_in_iff.mpr ⟨by omega, by omega⟩) dL_law_1577 ?_
  refine lv_topi (fun z5 _ => ?_)
  have e8 := (show okX9 ad m_taped m_size m_faultKind m_faultPlace m_at m_end m_token m_number m_name m_bank m_rb m_codes m_within m_piled m_unitsInRule m_askStrand m_askTied m_thoughtClaim m_thoughtNeed m_thoughtAll m_acts m_undone m_laid m_firstMove m_seens m_time m_waysNow m_fitting 148 (f 148) from hTm.1 148 (by decide)).1
  refine tVI (As := [.int z5]) (rest := []) (i := 148) ⟨hx, hb, hml, hown, hts⟩ hK hE hP hD hS hA hAB (s_X9_ways_0 l s.heap.size adK adV D cy ad f c_text m_taped m_size m_faultKind m_faultPlace m_at m_end m_token m_number m_name c_points c_strands c_units c_told c_ruleFrom c_ruleTo c_code c_eWhat c_eSign m_bank m_rb m_codes m_within m_piled m_unitsInRule m_askStrand m_askTied m_thoughtClaim m_thoughtNeed m_thoughtAll c_roundOf m_acts m_undone m_laid m_firstMove m_seens m_time m_waysNow m_fitting f hTm z5 hCV _) (cwV 1 hts gL_law_X9_ways rfl rfl rfl (by decide +kernel) ⟨Nat.le_of_ble_eq_true rfl, Nat.le_of_ble_eq_true rfl⟩) (by decide) 9 e8 rfl rfl hl.1 rfl (Nat.le_of_ble_eq_true rfl) dL_law_1578 ⟨Nat.le_of_ble_eq_true rfl, Nat.le_of_ble_eq_true rfl⟩ (fun r6 f H locs hw hP hD hS => ?_)
  obtain ⟨_, w7, w8, w9, w10, w11, hT2⟩ := hw
  obtain ⟨hTx, hTm⟩ := LX_m hT2 hTx
  refine lv_pop hx hb dL_law_1581 rfl ?_
  refine lv_goto (tgt := 1720) hx hb dL_law_1582 (by decide) ?_
  exact hk _ _ _ ⟨tx, rby, rnx, c_text, m_taped, m_size, m_faultKind, m_faultPlace, m_at, m_end, m_token, m_number, m_name, c_points, c_strands, c_units, c_told, c_ruleFrom, c_ruleTo, c_code, c_eWhat, c_eSign, m_bank, m_rb, m_codes, m_within, m_piled, m_unitsInRule, w7, w8, m_thoughtClaim, m_thoughtNeed, m_thoughtAll, w9, m_acts, m_undone, m_laid, m_firstMove, m_seens, m_time, w10, w11, hTx, hTm, by omega, hCV, by omega, by omega⟩ hP hD hS
set_option maxHeartbeats 4000000 in
set_option maxRecDepth 100000 in
theorem lo_53 {p : Program} {e : Env} {s : State} {m : MethodId} {below : List Frame} {meth : Method} {c : Code} {l : Launch} {b L : Nat} {xs : Nat → Int32} {D : va_G} {cy : Nat → ClassId} {ad : Nat → Nat} {adK adV : Nat → Nat} {f : Nat → va_E} {H : Heap} {locs : List Loc} {ls : Array Slot} (C : LX p s m meth c b L xs D cy) (hE : EN s.heap.size adK adV s) (hLI : LI ad cy f) (hP : va_P D vwCl (wl ad f) H) (hD : va_D (fun q : Nat => s.heap.size ≤ q) (wl ad f)) (hS : va_S (fun q : Nat => s.heap.size ≤ q) s.heap H locs) (x : Int32) (hx0 : 0 ≤ x.toInt ∧ x.toInt + 6 ≤ L) (hL : L ≤ 3072) (hl : lv_has ls 4 [(3, .int x), (2, .ref (ad 148)), (1, .ref (ad 0)), (0, .ref b)]) (hk : ∀ (f : Nat → va_E) (H : Heap) (locs : List Loc), LI ad cy f → va_P D vwCl (wl ad f) H → va_D (fun q : Nat => s.heap.size ≤ q) (wl ad f) → va_S (fun q : Nat => s.heap.size ≤ q) s.heap H locs → W p l e room_1 s m #[Value.ref b] below meth c H locs 185 12666 (lw_Z below #[Value.ref b] s) (F0 m 1720 ls [])) : W p l e room_1 s m #[Value.ref b] below meth c H locs 185 12666 (lw_Z below #[Value.ref b] s) (F0 m 1585 ls []) := by
  obtain ⟨hx, hb, hr, hlk, hml, hown, hts, hX, hbl, hK⟩ := id C
  obtain ⟨tx, rby, rnx, c_text, m_taped, m_size, m_faultKind, m_faultPlace, m_at, m_end, m_token, m_number, m_name, c_points, c_strands, c_units, c_told, c_ruleFrom, c_ruleTo, c_code, c_eWhat, c_eSign, m_bank, m_rb, m_codes, m_within, m_piled, m_unitsInRule, m_askStrand, m_askTied, m_thoughtClaim, m_thoughtNeed, m_thoughtAll, c_roundOf, m_acts, m_undone, m_laid, m_firstMove, m_seens, m_time, m_waysNow, m_fitting, hTx, hTm, hAU, hCV, hTT, hTR⟩ := hLI
  have hA : ∀ q : Nat, s.heap.size ≤ q → (fun q : Nat => s.heap.size ≤ q) q := fun _ h => h
  have hAB : ∀ q : Nat, (fun q : Nat => s.heap.size ≤ q) q → s.heap.size ≤ q := fun _ h => h
  have hbA : ¬ (fun q : Nat => s.heap.size ≤ q) b := Nat.not_le.mpr hbl
  refine lv_aload_n hx hb dL_law_1585 rfl (lv_at hl 2 rfl) ?_
  refine lv_aload_n hx hb dL_law_1586 rfl (lv_at hl 3 rfl) ?_
  refine lv_iload_n hx hb dL_law_1587 rfl (lv_at hl 0 rfl) ?_
  refine lv_iconst (v := 1) hx hb dL_law_1588 (by decide) ?_
  refine lv_iadd hx hb dL_law_1589 ?_
  refine lv_topi (fun y1 ey1 => ?_)
  have ty1 := tl_1
  have hy1 := r_add ey1 (by omega) (by omega)
  refine va_sld hx hb hX hbl hbA hS (vp_in_iff.mpr ⟨by omega, by omega⟩) dL_law_1590 ?_
  refine lv_topi (fun z2 _ => ?_)
  refine lv_aload_n hx hb dL_law_1591 rfl (lv_at hl 3 rfl) ?_
  refine lv_iload_n hx hb dL_law_1592 rfl (lv_at hl 0 rfl) ?_
  refine lv_iconst (v := 2) hx hb dL_law_1593 (by decide) ?_
  refine lv_iadd hx hb dL_law_1594 ?_
  refine lv_topi (fun y3 ey3 => ?_)
  have ty3 := tl_2
  have hy3 := r_add ey3 (by omega) (by omega)
  refine va_sld hx hb hX hbl hbA hS (vp_in_iff.mpr ⟨by omega, by omega⟩) dL_law_1595 ?_
  refine lv_topi (fun z4 _ => ?_)
  obtain ⟨_, _, _, e8, _⟩ := (show okX8 ad tx 0 (f 0) from hTx.1 0 (by decide))
  refine tVI (As := [.int z2, .int z4]) (rest := []) (i := 0) ⟨hx, hb, hml, hown, hts⟩ hK hE hP hD hS hA hAB (s_X8_sure_0 l s.heap.size adK adV D cy ad f tx rby rnx f hTx z2 z4 _) (cwV 2 hts gL_law_X8_sure rfl rfl rfl (by decide +kernel) ⟨Nat.le_of_ble_eq_true rfl, Nat.le_of_ble_eq_true rfl⟩) (by decide) 8 e8 rfl rfl hl.1 rfl (Nat.le_of_ble_eq_true rfl) dL_law_1596 ⟨Nat.le_of_ble_eq_true rfl, Nat.le_of_ble_eq_true rfl⟩ (fun r5 f H locs hw hP hD hS => ?_)
  obtain ⟨_, hT2⟩ := hw
  obtain ⟨hTx, hTm⟩ := LX_c hT2 hTm
  refine lv_pop hx hb dL_law_1599 rfl ?_
  refine lv_aload_n hx hb dL_law_1600 rfl (lv_at hl 1 rfl) ?_
  refine lv_aload_n hx hb dL_law_1601 rfl (lv_at hl 3 rfl) ?_
  refine lv_iload_n hx hb dL_law_1602 rfl (lv_at hl 0 rfl) ?_
  refine lv_iconst (v := 1) hx hb dL_law_1603 (by decide) ?_
  refine lv_iadd hx hb dL_law_1604 ?_
  refine lv_topi (fun y6 ey6 => ?_)
  have ty6 := tl_1
  have hy6 := r_add ey6 (by omega) (by omega)
  refine va_sld hx hb hX hbl hbA hS (vp_in_iff.mpr ⟨by omega, by omega⟩) dL_law_1605 ?_
  refine lv_topi (fun z7 _ => ?_)
  refine lv_aload_n hx hb dL_law_1606 rfl (lv_at hl 3 rfl) ?_
  refine lv_iload_n hx hb dL_law_1607 rfl (lv_at hl 0 rfl) ?_
  refine lv_iconst (v := 2) hx hb dL_law_1608 (by decide) ?_
  refine lv_iadd hx hb dL_law_1609 ?_
  refine lv_topi (fun y8 ey8 => ?_)
  have ty8 := tl_2
  have hy8 := r_add ey8 (by omega) (by omega)
  refine va_sld hx hb hX hbl hbA hS (vp_in_iff.mpr ⟨by omega, by omega⟩) dL_law_1610 ?_
  refine lv_topi (fun z9 _ => ?_)
  have e8 := (show okX9 ad m_taped m_size m_faultKind m_faultPlace m_at m_end m_token m_number m_name m_bank m_rb m_codes m_within m_piled m_unitsInRule m_askStrand m_askTied m_thoughtClaim m_thoughtNeed m_thoughtAll m_acts m_undone m_laid m_firstMove m_seens m_time m_waysNow m_fitting 148 (f 148) from hTm.1 148 (by decide)).1
  refine tVI (As := [.int z7, .int z9]) (rest := []) (i := 148) ⟨hx, hb, hml, hown, hts⟩ hK hE hP hD hS hA hAB (s_X9_sure_0 l s.heap.size adK adV D cy ad f c_text m_taped m_size m_faultKind m_faultPlace m_at m_end m_token m_number m_name c_points c_strands c_units c_told c_ruleFrom c_ruleTo c_code c_eWhat c_eSign m_bank m_rb m_codes m_within m_piled m_unitsInRule m_askStrand m_askTied m_thoughtClaim m_thoughtNeed m_thoughtAll c_roundOf m_acts m_undone m_laid m_firstMove m_seens m_time m_waysNow m_fitting f hTm z7 z9 hCV _) (cwV 2 hts gL_law_X9_sure rfl rfl rfl (by decide +kernel) ⟨Nat.le_of_ble_eq_true rfl, Nat.le_of_ble_eq_true rfl⟩) (by decide) 9 e8 rfl rfl hl.1 rfl (Nat.le_of_ble_eq_true rfl) dL_law_1611 ⟨Nat.le_of_ble_eq_true rfl, Nat.le_of_ble_eq_true rfl⟩ (fun r10 f H locs hw hP hD hS => ?_)
  obtain ⟨_, w11, w12, w13, w14, w15, hT2⟩ := hw
  obtain ⟨hTx, hTm⟩ := LX_m hT2 hTx
  refine lv_pop hx hb dL_law_1614 rfl ?_
  refine lv_goto (tgt := 1720) hx hb dL_law_1615 (by decide) ?_
  exact hk _ _ _ ⟨tx, rby, rnx, c_text, m_taped, m_size, m_faultKind, m_faultPlace, m_at, m_end, m_token, m_number, m_name, c_points, c_strands, c_units, c_told, c_ruleFrom, c_ruleTo, c_code, c_eWhat, c_eSign, m_bank, m_rb, m_codes, m_within, m_piled, m_unitsInRule, w11, w12, m_thoughtClaim, m_thoughtNeed, m_thoughtAll, w13, m_acts, m_undone, m_laid, m_firstMove, m_seens, m_time, w14, w15, hTx, hTm, by omega, hCV, by omega, by omega⟩ hP hD hS
set_option maxHeartbeats 4000000 in
set_option maxRecDepth 100000 in
theorem lo_54 {p : Program} {e : Env} {s : State} {m : MethodId} {below : List Frame} {meth : Method} {c : Code} {l : Launch} {b L : Nat} {xs : Nat → Int32} {D : va_G} {cy : Nat → ClassId} {ad : Nat → Nat} {adK adV : Nat → Nat} {f : Nat → va_E} {H : Heap} {locs : List Loc} {ls : Array Slot} (C : LX p s m meth c b L xs D cy) (hE : EN s.heap.size adK adV s) (hLI : LI ad cy f) (hP : va_P D vwCl (wl ad f) H) (hD : va_D (fun q : Nat => s.heap.size ≤ q) (wl ad f)) (hS : va_S (fun q : Nat => s.heap.size ≤ q) s.heap H locs) (x : Int32) (hx0 : 0 ≤ x.toInt ∧ x.toInt + 6 ≤ L) (hL : L ≤ 3072) (hl : lv_has ls 4 [(3, .int x), (2, .ref (ad 148)), (1, .ref (ad 0)), (0, .ref b)]) (hk : ∀ (f : Nat → va_E) (H : Heap) (locs : List Loc), LI ad cy f → va_P D vwCl (wl ad f) H → va_D (fun q : Nat => s.heap.size ≤ q) (wl ad f) → va_S (fun q : Nat => s.heap.size ≤ q) s.heap H locs → W p l e room_1 s m #[Value.ref b] below meth c H locs 185 12666 (lw_Z below #[Value.ref b] s) (F0 m 1720 ls [])) : W p l e room_1 s m #[Value.ref b] below meth c H locs 185 12666 (lw_Z below #[Value.ref b] s) (F0 m 1618 ls []) := by
  obtain ⟨hx, hb, hr, hlk, hml, hown, hts, hX, hbl, hK⟩ := id C
  obtain ⟨tx, rby, rnx, c_text, m_taped, m_size, m_faultKind, m_faultPlace, m_at, m_end, m_token, m_number, m_name, c_points, c_strands, c_units, c_told, c_ruleFrom, c_ruleTo, c_code, c_eWhat, c_eSign, m_bank, m_rb, m_codes, m_within, m_piled, m_unitsInRule, m_askStrand, m_askTied, m_thoughtClaim, m_thoughtNeed, m_thoughtAll, c_roundOf, m_acts, m_undone, m_laid, m_firstMove, m_seens, m_time, m_waysNow, m_fitting, hTx, hTm, hAU, hCV, hTT, hTR⟩ := hLI
  have hA : ∀ q : Nat, s.heap.size ≤ q → (fun q : Nat => s.heap.size ≤ q) q := fun _ h => h
  have hAB : ∀ q : Nat, (fun q : Nat => s.heap.size ≤ q) q → s.heap.size ≤ q := fun _ h => h
  have hbA : ¬ (fun q : Nat => s.heap.size ≤ q) b := Nat.not_le.mpr hbl
  refine lv_aload_n hx hb dL_law_1618 rfl (lv_at hl 2 rfl) ?_
  refine lv_aload_n hx hb dL_law_1619 rfl (lv_at hl 3 rfl) ?_
  refine lv_iload_n hx hb dL_law_1620 rfl (lv_at hl 0 rfl) ?_
  refine lv_iconst (v := 1) hx hb dL_law_1621 (by decide) ?_
  refine lv_iadd hx hb dL_law_1622 ?_
  refine lv_topi (fun y1 ey1 => ?_)
  have ty1 := tl_1
  have hy1 := r_add ey1 (by omega) (by omega)
  refine va_sld hx hb hX hbl hbA hS (vp_in_iff.mpr ⟨by omega, by omega⟩) dL_law_1623 ?_
  refine lv_topi (fun z2 _ => ?_)
  refine lv_aload_n hx hb dL_law_1624 rfl (lv_at hl 3 rfl) ?_
  refine lv_iload_n hx hb dL_law_1625 rfl (lv_at hl 0 rfl) ?_
  refine lv_iconst (v := 2) hx hb dL_law_1626 (by decide) ?_
  refine lv_iadd hx hb dL_law_1627 ?_
  refine lv_topi (fun y3 ey3 => ?_)
  have ty3 := tl_2
  have hy3 := r_add ey3 (by omega) (by omega)
  refine va_sld hx hb hX hbl hbA hS (vp_in_iff.mpr ⟨by omega, by omega⟩) dL_law_1628 ?_
  refine lv_topi (fun z4 _ => ?_)
  obtain ⟨_, _, _, e8, _⟩ := (show okX8 ad tx 0 (f 0) from hTx.1 0 (by decide))
  refine tVI (As := [.int z2, .int z4]) (rest := []) (i := 0) ⟨hx, hb, hml, hown, hts⟩ hK hE hP hD hS hA hAB (s_X8_ask_0 l s.heap.size adK adV D cy ad f tx rby rnx f hTx z2 z4 _) (cwV 2 hts gL_law_X8_ask rfl rfl rfl (by decide +kernel) ⟨Nat.le_of_ble_eq_true rfl, Nat.le_of_ble_eq_true rfl⟩) (by decide) 8 e8 rfl rfl hl.1 rfl (Nat.le_of_ble_eq_true rfl) dL_law_1629 ⟨Nat.le_of_ble_eq_true rfl, Nat.le_of_ble_eq_true rfl⟩ (fun r5 f H locs hw hP hD hS => ?_)
  obtain ⟨_, hT2⟩ := hw
  obtain ⟨hTx, hTm⟩ := LX_c hT2 hTm
  refine lv_pop hx hb dL_law_1632 rfl ?_
  refine lv_aload_n hx hb dL_law_1633 rfl (lv_at hl 1 rfl) ?_
  refine lv_aload_n hx hb dL_law_1634 rfl (lv_at hl 3 rfl) ?_
  refine lv_iload_n hx hb dL_law_1635 rfl (lv_at hl 0 rfl) ?_
  refine lv_iconst (v := 1) hx hb dL_law_1636 (by decide) ?_
  refine lv_iadd hx hb dL_law_1637 ?_
  refine lv_topi (fun y6 ey6 => ?_)
  have ty6 := tl_1
  have hy6 := r_add ey6 (by omega) (by omega)
  refine va_sld hx hb hX hbl hbA hS (vp_in_iff.mpr ⟨by omega, by omega⟩) dL_law_1638 ?_
  refine lv_topi (fun z7 _ => ?_)
  refine lv_aload_n hx hb dL_law_1639 rfl (lv_at hl 3 rfl) ?_
  refine lv_iload_n hx hb dL_law_1640 rfl (lv_at hl 0 rfl) ?_
  refine lv_iconst (v := 2) hx hb dL_law_1641 (by decide) ?_
  refine lv_iadd hx hb dL_law_1642 ?_
  refine lv_topi (fun y8 ey8 => ?_)
  have ty8 := tl_2
  have hy8 := r_add ey8 (by omega) (by omega)
  refine va_sld hx hb hX hbl hbA hS (vp_in_iff.mpr ⟨by omega, by omega⟩) dL_law_1643 ?_
  refine lv_topi (fun z9 _ => ?_)
  have e8 := (show okX9 ad m_taped m_size m_faultKind m_faultPlace m_at m_end m_token m_number m_name m_bank m_rb m_codes m_within m_piled m_unitsInRule m_askStrand m_askTied m_thoughtClaim m_thoughtNeed m_thoughtAll m_acts m_undone m_laid m_firstMove m_seens m_time m_waysNow m_fitting 148 (f 148) from hTm.1 148 (by decide)).1
  refine tVI (As := [.int z7, .int z9]) (rest := []) (i := 148) ⟨hx, hb, hml, hown, hts⟩ hK hE hP hD hS hA hAB (s_X9_ask_0 l s.heap.size adK adV D cy ad f c_text m_taped m_size m_faultKind m_faultPlace m_at m_end m_token m_number m_name c_points c_strands c_units c_told c_ruleFrom c_ruleTo c_code c_eWhat c_eSign m_bank m_rb m_codes m_within m_piled m_unitsInRule m_askStrand m_askTied m_thoughtClaim m_thoughtNeed m_thoughtAll c_roundOf m_acts m_undone m_laid m_firstMove m_seens m_time m_waysNow m_fitting f hTm z7 z9 hCV _) (cwV 2 hts gL_law_X9_ask rfl rfl rfl (by decide +kernel) ⟨Nat.le_of_ble_eq_true rfl, Nat.le_of_ble_eq_true rfl⟩) (by decide) 9 e8 rfl rfl hl.1 rfl (Nat.le_of_ble_eq_true rfl) dL_law_1644 ⟨Nat.le_of_ble_eq_true rfl, Nat.le_of_ble_eq_true rfl⟩ (fun r10 f H locs hw hP hD hS => ?_)
  obtain ⟨_, w11, w12, w13, w14, w15, hT2⟩ := hw
  obtain ⟨hTx, hTm⟩ := LX_m hT2 hTx
  refine lv_pop hx hb dL_law_1647 rfl ?_
  refine lv_goto (tgt := 1720) hx hb dL_law_1648 (by decide) ?_
  exact hk _ _ _ ⟨tx, rby, rnx, c_text, m_taped, m_size, m_faultKind, m_faultPlace, m_at, m_end, m_token, m_number, m_name, c_points, c_strands, c_units, c_told, c_ruleFrom, c_ruleTo, c_code, c_eWhat, c_eSign, m_bank, m_rb, m_codes, m_within, m_piled, m_unitsInRule, w11, w12, m_thoughtClaim, m_thoughtNeed, m_thoughtAll, w13, m_acts, m_undone, m_laid, m_firstMove, m_seens, m_time, w14, w15, hTx, hTm, by omega, hCV, by omega, by omega⟩ hP hD hS
set_option maxHeartbeats 4000000 in
set_option maxRecDepth 100000 in
theorem lo_55 {p : Program} {e : Env} {s : State} {m : MethodId} {below : List Frame} {meth : Method} {c : Code} {l : Launch} {b L : Nat} {xs : Nat → Int32} {D : va_G} {cy : Nat → ClassId} {ad : Nat → Nat} {adK adV : Nat → Nat} {f : Nat → va_E} {H : Heap} {locs : List Loc} {ls : Array Slot} (C : LX p s m meth c b L xs D cy) (hE : EN s.heap.size adK adV s) (hLI : LI ad cy f) (hP : va_P D vwCl (wl ad f) H) (hD : va_D (fun q : Nat => s.heap.size ≤ q) (wl ad f)) (hS : va_S (fun q : Nat => s.heap.size ≤ q) s.heap H locs) (x : Int32) (hx0 : 0 ≤ x.toInt ∧ x.toInt + 6 ≤ L) (hL : L ≤ 3072) (hl : lv_has ls 4 [(3, .int x), (2, .ref (ad 148)), (1, .ref (ad 0)), (0, .ref b)]) (hk : ∀ (f : Nat → va_E) (H : Heap) (locs : List Loc), LI ad cy f → va_P D vwCl (wl ad f) H → va_D (fun q : Nat => s.heap.size ≤ q) (wl ad f) → va_S (fun q : Nat => s.heap.size ≤ q) s.heap H locs → W p l e room_1 s m #[Value.ref b] below meth c H locs 185 12666 (lw_Z below #[Value.ref b] s) (F0 m 1720 ls [])) : W p l e room_1 s m #[Value.ref b] below meth c H locs 185 12666 (lw_Z below #[Value.ref b] s) (F0 m 1651 ls []) := by
  obtain ⟨hx, hb, hr, hlk, hml, hown, hts, hX, hbl, hK⟩ := id C
  obtain ⟨tx, rby, rnx, c_text, m_taped, m_size, m_faultKind, m_faultPlace, m_at, m_end, m_token, m_number, m_name, c_points, c_strands, c_units, c_told, c_ruleFrom, c_ruleTo, c_code, c_eWhat, c_eSign, m_bank, m_rb, m_codes, m_within, m_piled, m_unitsInRule, m_askStrand, m_askTied, m_thoughtClaim, m_thoughtNeed, m_thoughtAll, c_roundOf, m_acts, m_undone, m_laid, m_firstMove, m_seens, m_time, m_waysNow, m_fitting, hTx, hTm, hAU, hCV, hTT, hTR⟩ := hLI
  have hA : ∀ q : Nat, s.heap.size ≤ q → (fun q : Nat => s.heap.size ≤ q) q := fun _ h => h
  have hAB : ∀ q : Nat, (fun q : Nat => s.heap.size ≤ q) q → s.heap.size ≤ q := fun _ h => h
  have hbA : ¬ (fun q : Nat => s.heap.size ≤ q) b := Nat.not_le.mpr hbl
  refine lv_aload_n hx hb dL_law_1651 rfl (lv_at hl 2 rfl) ?_
  refine lv_aload_n hx hb dL_law_1652 rfl (lv_at hl 3 rfl) ?_
  refine lv_iload_n hx hb dL_law_1653 rfl (lv_at hl 0 rfl) ?_
  refine lv_iconst (v := 1) hx hb dL_law_1654 (by decide) ?_
  refine lv_iadd hx hb dL_law_1655 ?_
  refine lv_topi (fun y1 ey1 => ?_)
  have ty1 := tl_1
  have hy1 := r_add ey1 (by omega) (by omega)
  refine va_sld hx hb hX hbl hbA hS (vp_in_iff.mpr ⟨by omega, by omega⟩) dL_law_1656 ?_
  refine lv_topi (fun z2 _ => ?_)
  obtain ⟨_, _, _, e8, _⟩ := (show okX8 ad tx 0 (f 0) from hTx.1 0 (by decide))
  refine tVI (As := [.int z2]) (rest := []) (i := 0) ⟨hx, hb, hml, hown, hts⟩ hK hE hP hD hS hA hAB (s_X8_image_0 l s.heap.size adK adV D cy ad f tx rby rnx f hTx z2 _) (cwV 1 hts gL_law_X8_image rfl rfl rfl (by decide +kernel) ⟨Nat.le_of_ble_eq_true rfl, Nat.le_of_ble_eq_true rfl⟩) (by decide) 8 e8 rfl rfl hl.1 rfl (Nat.le_of_ble_eq_true rfl) dL_law_1657 ⟨Nat.le_of_ble_eq_true rfl, Nat.le_of_ble_eq_true rfl⟩ (fun r3 f H locs hw hP hD hS => ?_)
  obtain ⟨_, hT2⟩ := hw
  obtain ⟨hTx, hTm⟩ := LX_c hT2 hTm
  refine lv_pop hx hb dL_law_1660 rfl ?_
  refine lv_aload_n hx hb dL_law_1661 rfl (lv_at hl 1 rfl) ?_
  refine lv_aload_n hx hb dL_law_1662 rfl (lv_at hl 3 rfl) ?_
  refine lv_iload_n hx hb dL_law_1663 rfl (lv_at hl 0 rfl) ?_
  refine lv_iconst (v := 1) hx hb dL_law_1664 (by decide) ?_
  refine lv_iadd hx hb dL_law_1665 ?_
  refine lv_topi (fun y4 ey4 => ?_)
  have ty4 := tl_1
  have hy4 := r_add ey4 (by omega) (by omega)
  refine va_sld hx hb hX hbl hbA hS (vp_in_iff.mpr ⟨by omega, by omega⟩) dL_law_1666 ?_
  refine lv_topi (fun z5 _ => ?_)
  have e8 := (show okX9 ad m_taped m_size m_faultKind m_faultPlace m_at m_end m_token m_number m_name m_bank m_rb m_codes m_within m_piled m_unitsInRule m_askStrand m_askTied m_thoughtClaim m_thoughtNeed m_thoughtAll m_acts m_undone m_laid m_firstMove m_seens m_time m_waysNow m_fitting 148 (f 148) from hTm.1 148 (by decide)).1
  refine tVI (As := [.int z5]) (rest := []) (i := 148) ⟨hx, hb, hml, hown, hts⟩ hK hE hP hD hS hA hAB (s_X9_image_0 l s.heap.size adK adV D cy ad f c_text m_taped m_size m_faultKind m_faultPlace m_at m_end m_token m_number m_name c_points c_strands c_units c_told c_ruleFrom c_ruleTo c_code c_eWhat c_eSign m_bank m_rb m_codes m_within m_piled m_unitsInRule m_askStrand m_askTied m_thoughtClaim m_thoughtNeed m_thoughtAll c_roundOf m_acts m_undone m_laid m_firstMove m_seens m_time m_waysNow m_fitting f hTm z5 _) (cwV 1 hts gL_law_X9_image rfl rfl rfl (by decide +kernel) ⟨Nat.le_of_ble_eq_true rfl, Nat.le_of_ble_eq_true rfl⟩) (by decide) 9 e8 rfl rfl hl.1 rfl (Nat.le_of_ble_eq_true rfl) dL_law_1667 ⟨Nat.le_of_ble_eq_true rfl, Nat.le_of_ble_eq_true rfl⟩ (fun r6 f H locs hw hP hD hS => ?_)
  obtain ⟨_, hT2⟩ := hw
  obtain ⟨hTx, hTm⟩ := LX_m hT2 hTx
  refine lv_pop hx hb dL_law_1670 rfl ?_
  refine lv_goto (tgt := 1720) hx hb dL_law_1671 (by decide) ?_
  exact hk _ _ _ ⟨tx, rby, rnx, c_text, m_taped, m_size, m_faultKind, m_faultPlace, m_at, m_end, m_token, m_number, m_name, c_points, c_strands, c_units, c_told, c_ruleFrom, c_ruleTo, c_code, c_eWhat, c_eSign, m_bank, m_rb, m_codes, m_within, m_piled, m_unitsInRule, m_askStrand, m_askTied, m_thoughtClaim, m_thoughtNeed, m_thoughtAll, c_roundOf, m_acts, m_undone, m_laid, m_firstMove, m_seens, m_time, m_waysNow, m_fitting, hTx, hTm, by omega, hCV, by omega, by omega⟩ hP hD hS
set_option maxHeartbeats 4000000 in
set_option maxRecDepth 100000 in
theorem lo_56 {p : Program} {e : Env} {s : State} {m : MethodId} {below : List Frame} {meth : Method} {c : Code} {l : Launch} {b L : Nat} {xs : Nat → Int32} {D : va_G} {cy : Nat → ClassId} {ad : Nat → Nat} {adK adV : Nat → Nat} {f : Nat → va_E} {H : Heap} {locs : List Loc} {ls : Array Slot} (C : LX p s m meth c b L xs D cy) (hE : EN s.heap.size adK adV s) (hLI : LI ad cy f) (hP : va_P D vwCl (wl ad f) H) (hD : va_D (fun q : Nat => s.heap.size ≤ q) (wl ad f)) (hS : va_S (fun q : Nat => s.heap.size ≤ q) s.heap H locs) (x : Int32) (hx0 : 0 ≤ x.toInt ∧ x.toInt + 6 ≤ L) (hL : L ≤ 3072) (hl : lv_has ls 4 [(3, .int x), (2, .ref (ad 148)), (1, .ref (ad 0)), (0, .ref b)]) (hk : ∀ (f : Nat → va_E) (H : Heap) (locs : List Loc), LI ad cy f → va_P D vwCl (wl ad f) H → va_D (fun q : Nat => s.heap.size ≤ q) (wl ad f) → va_S (fun q : Nat => s.heap.size ≤ q) s.heap H locs → W p l e room_1 s m #[Value.ref b] below meth c H locs 185 12666 (lw_Z below #[Value.ref b] s) (F0 m 1720 ls [])) : W p l e room_1 s m #[Value.ref b] below meth c H locs 185 12666 (lw_Z below #[Value.ref b] s) (F0 m 1674 ls []) := by
  obtain ⟨hx, hb, hr, hlk, hml, hown, hts, hX, hbl, hK⟩ := id C
  obtain ⟨tx, rby, rnx, c_text, m_taped, m_size, m_faultKind, m_faultPlace, m_at, m_end, m_token, m_number, m_name, c_points, c_strands, c_units, c_told, c_ruleFrom, c_ruleTo, c_code, c_eWhat, c_eSign, m_bank, m_rb, m_codes, m_within, m_piled, m_unitsInRule, m_askStrand, m_askTied, m_thoughtClaim, m_thoughtNeed, m_thoughtAll, c_roundOf, m_acts, m_undone, m_laid, m_firstMove, m_seens, m_time, m_waysNow, m_fitting, hTx, hTm, hAU, hCV, hTT, hTR⟩ := hLI
  have hA : ∀ q : Nat, s.heap.size ≤ q → (fun q : Nat => s.heap.size ≤ q) q := fun _ h => h
  have hAB : ∀ q : Nat, (fun q : Nat => s.heap.size ≤ q) q → s.heap.size ≤ q := fun _ h => h
  have hbA : ¬ (fun q : Nat => s.heap.size ≤ q) b := Nat.not_le.mpr hbl
  refine lv_aload_n hx hb dL_law_1674 rfl (lv_at hl 2 rfl) ?_
  refine lv_aload_n hx hb dL_law_1675 rfl (lv_at hl 3 rfl) ?_
  refine lv_iload_n hx hb dL_law_1676 rfl (lv_at hl 0 rfl) ?_
  refine lv_iconst (v := 1) hx hb dL_law_1677 (by decide) ?_
  refine lv_iadd hx hb dL_law_1678 ?_
  refine lv_topi (fun y1 ey1 => ?_)
  have ty1 := tl_1
  have hy1 := r_add ey1 (by omega) (by omega)
  refine va_sld hx hb hX hbl hbA hS (vp_in_iff.mpr ⟨by omega, by omega⟩) dL_law_1679 ?_
  refine lv_topi (fun z2 _ => ?_)
  obtain ⟨_, _, _, e8, _⟩ := (show okX8 ad tx 0 (f 0) from hTx.1 0 (by decide))
  refine tVI (As := [.int z2]) (rest := []) (i := 0) ⟨hx, hb, hml, hown, hts⟩ hK hE hP hD hS hA hAB (s_X8_back_0 l s.heap.size adK adV D cy ad f tx rby rnx f hTx z2 _) (cwV 1 hts gL_law_X8_back rfl rfl rfl (by decide +kernel) ⟨Nat.le_of_ble_eq_true rfl, Nat.le_of_ble_eq_true rfl⟩) (by decide) 8 e8 rfl rfl hl.1 rfl (Nat.le_of_ble_eq_true rfl) dL_law_1680 ⟨Nat.le_of_ble_eq_true rfl, Nat.le_of_ble_eq_true rfl⟩ (fun r3 f H locs hw hP hD hS => ?_)
  obtain ⟨_, hT2⟩ := hw
  obtain ⟨hTx, hTm⟩ := LX_c hT2 hTm
  refine lv_pop hx hb dL_law_1683 rfl ?_
  refine lv_aload_n hx hb dL_law_1684 rfl (lv_at hl 1 rfl) ?_
  refine lv_aload_n hx hb dL_law_1685 rfl (lv_at hl 3 rfl) ?_
  refine lv_iload_n hx hb dL_law_1686 rfl (lv_at hl 0 rfl) ?_
  refine lv_iconst (v := 1) hx hb dL_law_1687 (by decide) ?_
  refine lv_iadd hx hb dL_law_1688 ?_
  refine lv_topi (fun y4 ey4 => ?_)
  have ty4 := tl_1
  have hy4 := r_add ey4 (by omega) (by omega)
  refine va_sld hx hb hX hbl hbA hS (vp_in_iff.mpr ⟨by omega, by omega⟩) dL_law_1689 ?_
  refine lv_topi (fun z5 _ => ?_)
  have e8 := (show okX9 ad m_taped m_size m_faultKind m_faultPlace m_at m_end m_token m_number m_name m_bank m_rb m_codes m_within m_piled m_unitsInRule m_askStrand m_askTied m_thoughtClaim m_thoughtNeed m_thoughtAll m_acts m_undone m_laid m_firstMove m_seens m_time m_waysNow m_fitting 148 (f 148) from hTm.1 148 (by decide)).1
  refine tVI (As := [.int z5]) (rest := []) (i := 148) ⟨hx, hb, hml, hown, hts⟩ hK hE hP hD hS hA hAB (s_X9_back_0 l s.heap.size adK adV D cy ad f c_text m_taped m_size m_faultKind m_faultPlace m_at m_end m_token m_number m_name c_points c_strands c_units c_told c_ruleFrom c_ruleTo c_code c_eWhat c_eSign m_bank m_rb m_codes m_within m_piled m_unitsInRule m_askStrand m_askTied m_thoughtClaim m_thoughtNeed m_thoughtAll c_roundOf m_acts m_undone m_laid m_firstMove m_seens m_time m_waysNow m_fitting f hTm z5 (by omega) _) (cwV 1 hts gL_law_X9_back rfl rfl rfl (by decide +kernel) ⟨Nat.le_of_ble_eq_true rfl, Nat.le_of_ble_eq_true rfl⟩) (by decide) 9 e8 rfl rfl hl.1 rfl (Nat.le_of_ble_eq_true rfl) dL_law_1690 ⟨Nat.le_of_ble_eq_true rfl, Nat.le_of_ble_eq_true rfl⟩ (fun r6 f H locs hw hP hD hS => ?_)
  obtain ⟨_, w7, w8, hT2, h9⟩ := hw
  obtain ⟨hTx, hTm⟩ := LX_m hT2 hTx
  refine lv_pop hx hb dL_law_1693 rfl ?_
  refine lv_goto (tgt := 1720) hx hb dL_law_1694 (by decide) ?_
  exact hk _ _ _ ⟨tx, rby, rnx, c_text, m_taped, m_size, m_faultKind, m_faultPlace, m_at, m_end, m_token, m_number, m_name, c_points, c_strands, c_units, c_told, c_ruleFrom, c_ruleTo, c_code, c_eWhat, c_eSign, m_bank, m_rb, m_codes, m_within, m_piled, m_unitsInRule, m_askStrand, m_askTied, m_thoughtClaim, m_thoughtNeed, m_thoughtAll, c_roundOf, w7, w8, m_laid, m_firstMove, m_seens, m_time, m_waysNow, m_fitting, hTx, hTm, by omega, hCV, by omega, by omega⟩ hP hD hS
set_option maxHeartbeats 4000000 in
set_option maxRecDepth 100000 in
theorem lo_57 {p : Program} {e : Env} {s : State} {m : MethodId} {below : List Frame} {meth : Method} {c : Code} {l : Launch} {b L : Nat} {xs : Nat → Int32} {D : va_G} {cy : Nat → ClassId} {ad : Nat → Nat} {adK adV : Nat → Nat} {f : Nat → va_E} {H : Heap} {locs : List Loc} {ls : Array Slot} (C : LX p s m meth c b L xs D cy) (hE : EN s.heap.size adK adV s) (hLI : LI ad cy f) (hP : va_P D vwCl (wl ad f) H) (hD : va_D (fun q : Nat => s.heap.size ≤ q) (wl ad f)) (hS : va_S (fun q : Nat => s.heap.size ≤ q) s.heap H locs) (x : Int32) (hx0 : 0 ≤ x.toInt ∧ x.toInt + 6 ≤ L) (hL : L ≤ 3072) (hl : lv_has ls 4 [(3, .int x), (2, .ref (ad 148)), (1, .ref (ad 0)), (0, .ref b)]) (hk : ∀ (f : Nat → va_E) (H : Heap) (locs : List Loc), LI ad cy f → va_P D vwCl (wl ad f) H → va_D (fun q : Nat => s.heap.size ≤ q) (wl ad f) → va_S (fun q : Nat => s.heap.size ≤ q) s.heap H locs → W p l e room_1 s m #[Value.ref b] below meth c H locs 185 12666 (lw_Z below #[Value.ref b] s) (F0 m 1720 ls [])) : W p l e room_1 s m #[Value.ref b] below meth c H locs 185 12666 (lw_Z below #[Value.ref b] s) (F0 m 1697 ls []) := by
  obtain ⟨hx, hb, hr, hlk, hml, hown, hts, hX, hbl, hK⟩ := id C
  obtain ⟨tx, rby, rnx, c_text, m_taped, m_size, m_faultKind, m_faultPlace, m_at, m_end, m_token, m_number, m_name, c_points, c_strands, c_units, c_told, c_ruleFrom, c_ruleTo, c_code, c_eWhat, c_eSign, m_bank, m_rb, m_codes, m_within, m_piled, m_unitsInRule, m_askStrand, m_askTied, m_thoughtClaim, m_thoughtNeed, m_thoughtAll, c_roundOf, m_acts, m_undone, m_laid, m_firstMove, m_seens, m_time, m_waysNow, m_fitting, hTx, hTm, hAU, hCV, hTT, hTR⟩ := hLI
  have hA : ∀ q : Nat, s.heap.size ≤ q → (fun q : Nat => s.heap.size ≤ q) q := fun _ h => h
  have hAB : ∀ q : Nat, (fun q : Nat => s.heap.size ≤ q) q → s.heap.size ≤ q := fun _ h => h
  have hbA : ¬ (fun q : Nat => s.heap.size ≤ q) b := Nat.not_le.mpr hbl
  refine lv_aload_n hx hb dL_law_1697 rfl (lv_at hl 2 rfl) ?_
  refine lv_aload_n hx hb dL_law_1698 rfl (lv_at hl 3 rfl) ?_
  refine lv_iload_n hx hb dL_law_1699 rfl (lv_at hl 0 rfl) ?_
  refine lv_iconst (v := 1) hx hb dL_law_1700 (by decide) ?_
  refine lv_iadd hx hb dL_law_1701 ?_
  refine lv_topi (fun y1 ey1 => ?_)
  have ty1 := tl_1
  have hy1 := r_add ey1 (by omega) (by omega)
  refine va_sld hx hb hX hbl hbA hS (vp_in_iff.mpr ⟨by omega, by omega⟩) dL_law_1702 ?_
  refine lv_topi (fun z2 _ => ?_)
  obtain ⟨_, _, _, e8, _⟩ := (show okX8 ad tx 0 (f 0) from hTx.1 0 (by decide))
  refine tVI (As := [.int z2]) (rest := []) (i := 0) ⟨hx, hb, hml, hown, hts⟩ hK hE hP hD hS hA hAB (s_X8_about_0 l s.heap.size adK adV D cy ad f tx rby rnx f hTx z2 _) (cwV 1 hts gL_law_X8_about rfl rfl rfl (by decide +kernel) ⟨Nat.le_of_ble_eq_true rfl, Nat.le_of_ble_eq_true rfl⟩) (by decide) 8 e8 rfl rfl hl.1 rfl (Nat.le_of_ble_eq_true rfl) dL_law_1703 ⟨Nat.le_of_ble_eq_true rfl, Nat.le_of_ble_eq_true rfl⟩ (fun r3 g H locs hw hP hD hS => ?_)
  obtain ⟨_, rfl⟩ := hw
  refine lv_pop hx hb dL_law_1706 rfl ?_
  refine lv_aload_n hx hb dL_law_1707 rfl (lv_at hl 1 rfl) ?_
  refine lv_aload_n hx hb dL_law_1708 rfl (lv_at hl 3 rfl) ?_
  refine lv_iload_n hx hb dL_law_1709 rfl (lv_at hl 0 rfl) ?_
  refine lv_iconst (v := 1) hx hb dL_law_1710 (by decide) ?_
  refine lv_iadd hx hb dL_law_1711 ?_
  refine lv_topi (fun y4 ey4 => ?_)
  have ty4 := tl_1
  have hy4 := r_add ey4 (by omega) (by omega)
  refine va_sld hx hb hX hbl hbA hS (vp_in_iff.mpr ⟨by omega, by omega⟩) dL_law_1712 ?_
  refine lv_topi (fun z5 _ => ?_)
  have e8 := (show okX9 ad m_taped m_size m_faultKind m_faultPlace m_at m_end m_token m_number m_name m_bank m_rb m_codes m_within m_piled m_unitsInRule m_askStrand m_askTied m_thoughtClaim m_thoughtNeed m_thoughtAll m_acts m_undone m_laid m_firstMove m_seens m_time m_waysNow m_fitting 148 (f 148) from hTm.1 148 (by decide)).1
  refine tVI (As := [.int z5]) (rest := []) (i := 148) ⟨hx, hb, hml, hown, hts⟩ hK hE hP hD hS hA hAB (s_X9_about_0 l s.heap.size adK adV D cy ad f c_text m_taped m_size m_faultKind m_faultPlace m_at m_end m_token m_number m_name c_points c_strands c_units c_told c_ruleFrom c_ruleTo c_code c_eWhat c_eSign m_bank m_rb m_codes m_within m_piled m_unitsInRule m_askStrand m_askTied m_thoughtClaim m_thoughtNeed m_thoughtAll c_roundOf m_acts m_undone m_laid m_firstMove m_seens m_time m_waysNow m_fitting f hTm z5 _) (cwV 1 hts gL_law_X9_about rfl rfl rfl (by decide +kernel) ⟨Nat.le_of_ble_eq_true rfl, Nat.le_of_ble_eq_true rfl⟩) (by decide) 9 e8 rfl rfl hl.1 rfl (Nat.le_of_ble_eq_true rfl) dL_law_1713 ⟨Nat.le_of_ble_eq_true rfl, Nat.le_of_ble_eq_true rfl⟩ (fun r6 g H locs hw hP hD hS => ?_)
  obtain ⟨_, rfl⟩ := hw
  refine lv_pop hx hb dL_law_1716 rfl ?_
  refine lv_goto (tgt := 1720) hx hb dL_law_1717 (by decide) ?_
  exact hk _ _ _ ⟨tx, rby, rnx, c_text, m_taped, m_size, m_faultKind, m_faultPlace, m_at, m_end, m_token, m_number, m_name, c_points, c_strands, c_units, c_told, c_ruleFrom, c_ruleTo, c_code, c_eWhat, c_eSign, m_bank, m_rb, m_codes, m_within, m_piled, m_unitsInRule, m_askStrand, m_askTied, m_thoughtClaim, m_thoughtNeed, m_thoughtAll, c_roundOf, m_acts, m_undone, m_laid, m_firstMove, m_seens, m_time, m_waysNow, m_fitting, hTx, hTm, by omega, hCV, by omega, by omega⟩ hP hD hS
