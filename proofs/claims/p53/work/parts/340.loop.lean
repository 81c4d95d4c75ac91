set_option maxHeartbeats 8000000 in
set_option maxRecDepth 100000 in
theorem law_loop {p : Program} {e : Env} {s : State} {m : MethodId} {below : List Frame} {meth : Method} {c : Code} {l : Launch} {b L : Nat} {xs : Nat → Int32} {D : va_G} {cy : Nat → ClassId} {ad : Nat → Nat} {adK adV : Nat → Nat} (C : LX p s m meth c b L xs D cy) (hE : EN s.heap.size adK adV s) (hL : L ≤ 3072) : ∀ (N : Nat) (f : Nat → va_E) (H : Heap) (locs : List Loc) (ls : Array Slot) (x : Int32), 3080 - x.toInt ≤ (N : Int) → (0 ≤ x.toInt ∧ x.toInt ≤ 3078) → LI ad cy f → va_P D vwCl (wl ad f) H → va_D (fun q : Nat => s.heap.size ≤ q) (wl ad f) → va_S (fun q : Nat => s.heap.size ≤ q) s.heap H locs → lv_has ls 4 [(3, .int x), (2, .ref (ad 148)), (1, .ref (ad 0)), (0, .ref b)] → W p l e room_1 s m #[Value.ref b] below meth c H locs 185 12666 (lw_Z below #[Value.ref b] s) (F0 m 18 ls []) := by
  intro N
  induction N with
  | zero => intro f H locs ls x hN hx0; exact absurd hN (by omega)
  | succ N ih =>
    intro f H locs ls x hN hx0 hLI hP hD hS hl
    obtain ⟨hx, hb, hr, hlk, hml, hown, hts, hX, hbl, hK⟩ := id C
    have hbA : ¬ (fun q : Nat => s.heap.size ≤ q) b := Nat.not_le.mpr hbl
    have t6 := tl_6
    have hLn := nI_toInt (n := L) (by omega)
    refine lv_iload_n hx hb dL_law_18 rfl (lv_at hl 0 rfl) ?_
    refine lv_aload_n hx hb dL_law_19 rfl (lv_at hl 3 rfl) ?_
    refine va_slen hx hb hX hbl hbA hS dL_law_20 ?_
    refine lv_bipush (v := 6) hx hb dL_law_21 (by decide) ?_
    refine lv_isub hx hb dL_law_23 ?_
    refine lv_topi (fun y ey => ?_)
    have hy := r_sub ey (by have : (Int32.ofNat L).toInt = (L : Int) := hLn; omega) (by have : (Int32.ofNat L).toInt = (L : Int) := hLn; omega)
    have hy2 : y.toInt = (L : Int) - 6 := by have h1 : (Int32.ofNat L).toInt = (L : Int) := hLn; omega
    refine lv_icmp_gt (tgt := 1726) hx hb dL_law_24 (by decide) (fun _ => ?_) (fun q => ?_)
    · refine lv_iconst (v := 1) hx hb dL_law_1726 (by decide) ?_
      refine va_forget hS.2.2 ?_
      refine W.widen (k := 600000) (n := 7302250) (Nat.le_of_ble_eq_true rfl) (Nat.le_of_ble_eq_true rfl) ?_
      exact lw_ret hx hb hr hlk dL_law_1727
    have kq := c_nlt q
    have hxL : 0 ≤ x.toInt ∧ x.toInt + 6 ≤ L := by omega
    have tail : ∀ (f : Nat → va_E) (H : Heap) (locs : List Loc), LI ad cy f → va_P D vwCl (wl ad f) H → va_D (fun q : Nat => s.heap.size ≤ q) (wl ad f) → va_S (fun q : Nat => s.heap.size ≤ q) s.heap H locs → W p l e room_1 s m #[Value.ref b] below meth c H locs 185 12666 (lw_Z below #[Value.ref b] s) (F0 m 1720 ls []) := by
      intro f H locs hLI hP hD hS
      obtain ⟨w, ew⟩ : ∃ q : Int32, q = x + Int32.ofInt (6) := ⟨_, rfl⟩
      refine lv_iinc (v := w) (lv' := [(3, .int w), (2, .ref (ad 148)), (1, .ref (ad 0)), (0, .ref b)]) hx hb dL_law_1720 hl (k := 0) rfl ew.symm (by decide) rfl (fun ls hl => ?_)
      have hw := r_inc ew (by decide) (by omega) (by omega)
      refine lv_goto (tgt := 18) hx hb dL_law_1723 (by decide) ?_
      exact ih f H locs ls w (by omega) (by omega) hLI hP hD hS hl
    refine lv_aload_n hx hb dL_law_27 rfl (lv_at hl 3 rfl) ?_
    refine lv_iload_n hx hb dL_law_28 rfl (lv_at hl 0 rfl) ?_
    refine va_sld hx hb hX hbl hbA hS (vp_in_iff.mpr ⟨by omega, by omega⟩) dL_law_29 ?_
    refine lv_bipush (v := 63) hx hb dL_law_30 (by decide) ?_
    refine lv_iand hx hb dL_law_32 ?_
    obtain ⟨j, hj, ej⟩ := pk_andE (xs (Int32.toNatClampNeg x)) (m := 63) 6 (by decide)
    refine tpi ej ?_
    have hj : j = 0 ∨ j = 1 ∨ j = 2 ∨ j = 3 ∨ j = 4 ∨ j = 5 ∨ j = 6 ∨ j = 7 ∨ j = 8 ∨ j = 9 ∨ j = 10 ∨ j = 11 ∨ j = 12 ∨ j = 13 ∨ j = 14 ∨ j = 15 ∨ j = 16 ∨ j = 17 ∨ j = 18 ∨ j = 19 ∨ j = 20 ∨ j = 21 ∨ j = 22 ∨ j = 23 ∨ j = 24 ∨ j = 25 ∨ j = 26 ∨ j = 27 ∨ j = 28 ∨ j = 29 ∨ j = 30 ∨ j = 31 ∨ j = 32 ∨ j = 33 ∨ j = 34 ∨ j = 35 ∨ j = 36 ∨ j = 37 ∨ j = 38 ∨ j = 39 ∨ j = 40 ∨ j = 41 ∨ j = 42 ∨ j = 43 ∨ j = 44 ∨ j = 45 ∨ j = 46 ∨ j = 47 ∨ j = 48 ∨ j = 49 ∨ j = 50 ∨ j = 51 ∨ j = 52 ∨ j = 53 ∨ j = 54 ∨ j = 55 ∨ j = 56 ∨ j = 57 ∨ (58 ≤ j ∧ j < 64) := by omega
    rcases hj with rfl | rfl | rfl | rfl | rfl | rfl | rfl | rfl | rfl | rfl | rfl | rfl | rfl | rfl | rfl | rfl | rfl | rfl | rfl | rfl | rfl | rfl | rfl | rfl | rfl | rfl | rfl | rfl | rfl | rfl | rfl | rfl | rfl | rfl | rfl | rfl | rfl | rfl | rfl | rfl | rfl | rfl | rfl | rfl | rfl | rfl | rfl | rfl | rfl | rfl | rfl | rfl | rfl | rfl | rfl | rfl | rfl | rfl | hj
    · exact lv_tableIn (off := 247) (tgt := 280) hx hb dL_law_33 (by decide) (by decide) (by decide) (by decide) (lo_0 C hE hLI hP hD hS x hxL hL hl tail)
    · exact lv_tableIn (off := 310) (tgt := 343) hx hb dL_law_33 (by decide) (by decide) (by decide) (by decide) (lo_1 C hE hLI hP hD hS x hxL hL hl tail)
    · exact lv_tableIn (off := 333) (tgt := 366) hx hb dL_law_33 (by decide) (by decide) (by decide) (by decide) (lo_2 C hE hLI hP hD hS x hxL hL hl tail)
    · exact lv_tableIn (off := 346) (tgt := 379) hx hb dL_law_33 (by decide) (by decide) (by decide) (by decide) (lo_3 C hE hLI hP hD hS x hxL hL hl tail)
    · exact lv_tableIn (off := 369) (tgt := 402) hx hb dL_law_33 (by decide) (by decide) (by decide) (by decide) (lo_4 C hE hLI hP hD hS x hxL hL hl tail)
    · exact lv_tableIn (off := 402) (tgt := 435) hx hb dL_law_33 (by decide) (by decide) (by decide) (by decide) (lo_5 C hE hLI hP hD hS x hxL hL hl tail)
    · exact lv_tableIn (off := 435) (tgt := 468) hx hb dL_law_33 (by decide) (by decide) (by decide) (by decide) (lo_6 C hE hLI hP hD hS x hxL hL hl tail)
    · exact lv_tableIn (off := 458) (tgt := 491) hx hb dL_law_33 (by decide) (by decide) (by decide) (by decide) (lo_7 C hE hLI hP hD hS x hxL hL hl tail)
    · exact lv_tableIn (off := 481) (tgt := 514) hx hb dL_law_33 (by decide) (by decide) (by decide) (by decide) (lo_8 C hE hLI hP hD hS x hxL hL hl tail)
    · exact lv_tableIn (off := 514) (tgt := 547) hx hb dL_law_33 (by decide) (by decide) (by decide) (by decide) (lo_9 C hE hLI hP hD hS x hxL hL hl tail)
    · exact lv_tableIn (off := 537) (tgt := 570) hx hb dL_law_33 (by decide) (by decide) (by decide) (by decide) (lo_10 C hE hLI hP hD hS x hxL hL hl tail)
    · exact lv_tableIn (off := 560) (tgt := 593) hx hb dL_law_33 (by decide) (by decide) (by decide) (by decide) (lo_11 C hE hLI hP hD hS x hxL hL hl tail)
    · exact lv_tableIn (off := 573) (tgt := 606) hx hb dL_law_33 (by decide) (by decide) (by decide) (by decide) (lo_12 C hE hLI hP hD hS x hxL hL hl tail)
    · exact lv_tableIn (off := 586) (tgt := 619) hx hb dL_law_33 (by decide) (by decide) (by decide) (by decide) (lo_13 C hE hLI hP hD hS x hxL hL hl tail)
    · exact lv_tableIn (off := 599) (tgt := 632) hx hb dL_law_33 (by decide) (by decide) (by decide) (by decide) (lo_14 C hE hLI hP hD hS x hxL hL hl tail)
    · exact lv_tableIn (off := 612) (tgt := 645) hx hb dL_law_33 (by decide) (by decide) (by decide) (by decide) (lo_15 C hE hLI hP hD hS x hxL hL hl tail)
    · exact lv_tableIn (off := 625) (tgt := 658) hx hb dL_law_33 (by decide) (by decide) (by decide) (by decide) (lo_16 C hE hLI hP hD hS x hxL hL hl tail)
    · exact lv_tableIn (off := 638) (tgt := 671) hx hb dL_law_33 (by decide) (by decide) (by decide) (by decide) (lo_17 C hE hLI hP hD hS x hxL hL hl tail)
    · exact lv_tableIn (off := 671) (tgt := 704) hx hb dL_law_33 (by decide) (by decide) (by decide) (by decide) (lo_18 C hE hLI hP hD hS x hxL hL hl tail)
    · exact lv_tableIn (off := 704) (tgt := 737) hx hb dL_law_33 (by decide) (by decide) (by decide) (by decide) (lo_19 C hE hLI hP hD hS x hxL hL hl tail)
    · exact lv_tableIn (off := 737) (tgt := 770) hx hb dL_law_33 (by decide) (by decide) (by decide) (by decide) (lo_20 C hE hLI hP hD hS x hxL hL hl tail)
    · exact lv_tableIn (off := 760) (tgt := 793) hx hb dL_law_33 (by decide) (by decide) (by decide) (by decide) (lo_21 C hE hLI hP hD hS x hxL hL hl tail)
    · exact lv_tableIn (off := 793) (tgt := 826) hx hb dL_law_33 (by decide) (by decide) (by decide) (by decide) (lo_22 C hE hLI hP hD hS x hxL hL hl tail)
    · exact lv_tableIn (off := 816) (tgt := 849) hx hb dL_law_33 (by decide) (by decide) (by decide) (by decide) (lo_23 C hE hLI hP hD hS x hxL hL hl tail)
    · exact lv_tableIn (off := 839) (tgt := 872) hx hb dL_law_33 (by decide) (by decide) (by decide) (by decide) (lo_24 C hE hLI hP hD hS x hxL hL hl tail)
    · exact lv_tableIn (off := 862) (tgt := 895) hx hb dL_law_33 (by decide) (by decide) (by decide) (by decide) (lo_25 C hE hLI hP hD hS x hxL hL hl tail)
    · exact lv_tableIn (off := 905) (tgt := 938) hx hb dL_law_33 (by decide) (by decide) (by decide) (by decide) (lo_26 C hE hLI hP hD hS x hxL hL hl tail)
    · exact lv_tableIn (off := 928) (tgt := 961) hx hb dL_law_33 (by decide) (by decide) (by decide) (by decide) (lo_27 C hE hLI hP hD hS x hxL hL hl tail)
    · exact lv_tableIn (off := 951) (tgt := 984) hx hb dL_law_33 (by decide) (by decide) (by decide) (by decide) (lo_28 C hE hLI hP hD hS x hxL hL hl tail)
    · exact lv_tableIn (off := 974) (tgt := 1007) hx hb dL_law_33 (by decide) (by decide) (by decide) (by decide) (lo_29 C hE hLI hP hD hS x hxL hL hl tail)
    · exact lv_tableIn (off := 987) (tgt := 1020) hx hb dL_law_33 (by decide) (by decide) (by decide) (by decide) (lo_30 C hE hLI hP hD hS x hxL hL hl tail)
    · exact lv_tableIn (off := 1010) (tgt := 1043) hx hb dL_law_33 (by decide) (by decide) (by decide) (by decide) (lo_31 C hE hLI hP hD hS x hxL hL hl tail)
    · exact lv_tableIn (off := 1023) (tgt := 1056) hx hb dL_law_33 (by decide) (by decide) (by decide) (by decide) (lo_32 C hE hLI hP hD hS x hxL hL hl tail)
    · exact lv_tableIn (off := 1046) (tgt := 1079) hx hb dL_law_33 (by decide) (by decide) (by decide) (by decide) (lo_33 C hE hLI hP hD hS x hxL hL hl tail)
    · exact lv_tableIn (off := 1069) (tgt := 1102) hx hb dL_law_33 (by decide) (by decide) (by decide) (by decide) (lo_34 C hE hLI hP hD hS x hxL hL hl tail)
    · exact lv_tableIn (off := 1092) (tgt := 1125) hx hb dL_law_33 (by decide) (by decide) (by decide) (by decide) (lo_35 C hE hLI hP hD hS x hxL hL hl tail)
    · exact lv_tableIn (off := 1115) (tgt := 1148) hx hb dL_law_33 (by decide) (by decide) (by decide) (by decide) (lo_36 C hE hLI hP hD hS x hxL hL hl tail)
    · exact lv_tableIn (off := 1148) (tgt := 1181) hx hb dL_law_33 (by decide) (by decide) (by decide) (by decide) (lo_37 C hE hLI hP hD hS x hxL hL hl tail)
    · exact lv_tableIn (off := 1181) (tgt := 1214) hx hb dL_law_33 (by decide) (by decide) (by decide) (by decide) (lo_38 C hE hLI hP hD hS x hxL hL hl tail)
    · exact lv_tableIn (off := 1204) (tgt := 1237) hx hb dL_law_33 (by decide) (by decide) (by decide) (by decide) (lo_39 C hE hLI hP hD hS x hxL hL hl tail)
    · exact lv_tableIn (off := 1237) (tgt := 1270) hx hb dL_law_33 (by decide) (by decide) (by decide) (by decide) (lo_40 C hE hLI hP hD hS x hxL hL hl tail)
    · exact lv_tableIn (off := 1270) (tgt := 1303) hx hb dL_law_33 (by decide) (by decide) (by decide) (by decide) (lo_41 C hE hLI hP hD hS x hxL hL hl tail)
    · exact lv_tableIn (off := 1293) (tgt := 1326) hx hb dL_law_33 (by decide) (by decide) (by decide) (by decide) (lo_42 C hE hLI hP hD hS x hxL hL hl tail)
    · exact lv_tableIn (off := 1316) (tgt := 1349) hx hb dL_law_33 (by decide) (by decide) (by decide) (by decide) (lo_43 C hE hLI hP hD hS x hxL hL hl tail)
    · exact lv_tableIn (off := 1329) (tgt := 1362) hx hb dL_law_33 (by decide) (by decide) (by decide) (by decide) (lo_44 C hE hLI hP hD hS x hxL hL hl tail)
    · exact lv_tableIn (off := 1352) (tgt := 1385) hx hb dL_law_33 (by decide) (by decide) (by decide) (by decide) (lo_45 C hE hLI hP hD hS x hxL hL hl tail)
    · exact lv_tableIn (off := 1365) (tgt := 1398) hx hb dL_law_33 (by decide) (by decide) (by decide) (by decide) (lo_46 C hE hLI hP hD hS x hxL hL hl tail)
    · exact lv_tableIn (off := 1378) (tgt := 1411) hx hb dL_law_33 (by decide) (by decide) (by decide) (by decide) (lo_47 C hE hLI hP hD hS x hxL hL hl tail)
    · exact lv_tableIn (off := 1401) (tgt := 1434) hx hb dL_law_33 (by decide) (by decide) (by decide) (by decide) (lo_48 C hE hLI hP hD hS x hxL hL hl tail)
    · exact lv_tableIn (off := 1434) (tgt := 1467) hx hb dL_law_33 (by decide) (by decide) (by decide) (by decide) (lo_49 C hE hLI hP hD hS x hxL hL hl tail)
    · exact lv_tableIn (off := 1483) (tgt := 1516) hx hb dL_law_33 (by decide) (by decide) (by decide) (by decide) (lo_50 C hE hLI hP hD hS x hxL hL hl tail)
    · exact lv_tableIn (off := 1506) (tgt := 1539) hx hb dL_law_33 (by decide) (by decide) (by decide) (by decide) (lo_51 C hE hLI hP hD hS x hxL hL hl tail)
    · exact lv_tableIn (off := 1529) (tgt := 1562) hx hb dL_law_33 (by decide) (by decide) (by decide) (by decide) (lo_52 C hE hLI hP hD hS x hxL hL hl tail)
    · exact lv_tableIn (off := 1552) (tgt := 1585) hx hb dL_law_33 (by decide) (by decide) (by decide) (by decide) (lo_53 C hE hLI hP hD hS x hxL hL hl tail)
    · exact lv_tableIn (off := 1585) (tgt := 1618) hx hb dL_law_33 (by decide) (by decide) (by decide) (by decide) (lo_54 C hE hLI hP hD hS x hxL hL hl tail)
    · exact lv_tableIn (off := 1618) (tgt := 1651) hx hb dL_law_33 (by decide) (by decide) (by decide) (by decide) (lo_55 C hE hLI hP hD hS x hxL hL hl tail)
    · exact lv_tableIn (off := 1641) (tgt := 1674) hx hb dL_law_33 (by decide) (by decide) (by decide) (by decide) (lo_56 C hE hLI hP hD hS x hxL hL hl tail)
    · exact lv_tableIn (off := 1664) (tgt := 1697) hx hb dL_law_33 (by decide) (by decide) (by decide) (by decide) (lo_57 C hE hLI hP hD hS x hxL hL hl tail)
    · exact lv_tableOut (tgt := 1720) hx hb dL_law_33 (Or.inr (by rw [nI_toInt (by omega)]; omega)) (by decide) (tail f H locs hLI hP hD hS)
