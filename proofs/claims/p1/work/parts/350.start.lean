/-! the start of the law: what the Statement gives, the two constructors, the one call, the end -/
theorem arrW_i {args : Array Value} {s : State} (h : (Cond.arrayClass .int).before args s = true) : ∃ cA : ClassId, ArrOfT s cA .int ∧ va_RA s cA .int := by
  obtain ⟨cA, kA, comp, h1, h2, h3⟩ := Cond.arrayClass_spec h
  exact ⟨cA, fun n z => ⟨fun k h => (by cases h), kA, h2, comp, h3⟩, h1⟩
theorem arrW_b {args : Array Value} {s : State} (h : (Cond.arrayClass .byte).before args s = true) : ∃ cA : ClassId, ArrOfT s cA .byte ∧ va_RA s cA .byte := by
  obtain ⟨cA, kA, comp, h1, h2, h3⟩ := Cond.arrayClass_spec h
  exact ⟨cA, fun n z => ⟨fun k h => (by cases h), kA, h2, comp, h3⟩, h1⟩
theorem arrW_j {args : Array Value} {s : State} (h : (Cond.arrayClass .long).before args s = true) : ∃ cA : ClassId, ArrOfT s cA .long ∧ va_RA s cA .long := by
  obtain ⟨cA, kA, comp, h1, h2, h3⟩ := Cond.arrayClass_spec h
  exact ⟨cA, fun n z => ⟨fun k h => (by cases h), kA, h2, comp, h3⟩, h1⟩
theorem arrW_z {args : Array Value} {s : State} (h : (Cond.arrayClass .boolean).before args s = true) : ∃ cA : ClassId, ArrOfT s cA .boolean ∧ va_RA s cA .boolean := by
  obtain ⟨cA, kA, comp, h1, h2, h3⟩ := Cond.arrayClass_spec h
  exact ⟨cA, fun n z => ⟨fun k h => (by cases h), kA, h2, comp, h3⟩, h1⟩
theorem arrW_o {args : Array Value} {s : State} (h : (Cond.arrayOver (.object RX4)).before args s = true) : ∃ cA : ClassId, ArrOfT s cA (.object RX4) ∧ va_RA s cA (.object RX4) := by
  obtain ⟨comp, cA, kA, h1, -, h3, h4, h5⟩ := Cond.arrayOver_spec h
  exact ⟨cA, fun n z => ⟨fun k h => (by cases h), kA, h3, comp, h4⟩, kA, comp, h3, h4, h1, h5⟩
set_option maxRecDepth 100000 in
theorem nl_in : ∀ w ∈ nlW, w ∈ lw_tbl := by
  intro w hw
  simp only [nlW, List.mem_cons, List.not_mem_nil, or_false] at hw
  rcases hw with rfl | rfl | rfl | rfl | rfl | rfl | rfl | rfl | rfl | rfl | rfl | rfl | rfl | rfl | rfl
  · exact List.mem_append_right _ (List.mem_of_getElem? (i := 233) (by decide +kernel))
  · exact List.mem_append_right _ (List.mem_of_getElem? (i := 287) (by decide +kernel))
  · exact List.mem_append_right _ (List.mem_of_getElem? (i := 290) (by decide +kernel))
  · exact List.mem_append_right _ (List.mem_of_getElem? (i := 332) (by decide +kernel))
  · exact List.mem_append_right _ (List.mem_of_getElem? (i := 356) (by decide +kernel))
  · exact List.mem_append_right _ (List.mem_of_getElem? (i := 243) (by decide +kernel))
  · exact List.mem_append_right _ (List.mem_of_getElem? (i := 295) (by decide +kernel))
  · exact List.mem_append_right _ (List.mem_of_getElem? (i := 681) (by decide +kernel))
  · exact List.mem_append_right _ (List.mem_of_getElem? (i := 35) (by decide +kernel))
  · exact List.mem_append_right _ (List.mem_of_getElem? (i := 592) (by decide +kernel))
  · exact List.mem_append_right _ (List.mem_of_getElem? (i := 799) (by decide +kernel))
  · exact List.mem_append_right _ (List.mem_of_getElem? (i := 41) (by decide +kernel))
  · exact List.mem_append_right _ (List.mem_of_getElem? (i := 581) (by decide +kernel))
  · exact List.mem_append_right _ (List.mem_of_getElem? (i := 1117) (by decide +kernel))
  · exact List.mem_append_right _ (List.mem_of_getElem? (i := 1100) (by decide +kernel))
set_option maxRecDepth 100000 in
theorem el_in : ∀ j : Nat, j < 112 → Cond.eq (.elem (.field (Term.string RX3 33) "java/lang/String" "value" "[B") (.int (Int32.ofNat j))) (.int (byW.getD j 0)) ∈ flatC (Jvm.Cond.and given_1 narrow_1) := by decide +kernel
set_option maxHeartbeats 4000000 in
set_option maxRecDepth 100000 in
theorem en_start {s : State} {b : Nat} (hts : ∀ w ∈ lw_tbl, w.before #[Value.ref b] s = true) (hgv : (Jvm.Cond.and given_1 narrow_1).before #[Value.ref b] s = true) : ∃ adK adV : Nat → Nat, EN s.heap.size adK adV s := by
  have hs := flat_of_before _ hgv
  have hA : ∀ a : Nat, a < s.heap.size → ¬ (fun q : Nat => s.heap.size ≤ q) a := fun a h => Nat.not_le.mpr h
  obtain ⟨adK, adV, h1, h2⟩ := vk_Sof (args := #[Value.ref b]) (s := s) (N := 1) (tm := fun _ => (Term.string RX3 33)) (len := [112]) (byt := [byW]) (A := fun q : Nat => s.heap.size ≤ q)
    (fun i hi => by obtain rfl : i = 0 := by omega
                    decide)
    (fun i hi => hs (Cond.exactly (Term.string RX3 33) "java/lang/String") (by decide +kernel))
    (fun i hi => hs (Cond.eq (.field (Term.string RX3 33) "java/lang/String" "coder" "B") (.int 0)) (by decide +kernel))
    (fun i hi => hs (Cond.arrayOf (.field (Term.string RX3 33) "java/lang/String" "value" "[B") .byte) (by decide +kernel))
    (fun i hi => by obtain rfl : i = 0 := by omega
                    exact hs (Cond.eq (.length (.field (Term.string RX3 33) "java/lang/String" "value" "[B")) (.int 112)) (by decide +kernel))
    (fun i hi j hj => by obtain rfl : i = 0 := by omega
                         exact hs _ (el_in j hj))
    (fun i j hi hj hne => absurd (show i = j by omega) hne) hA
  refine ⟨adK, adV, Nat.le_refl _, fun w hw => va_Nw.of (nl_tab w hw) (hts w (nl_in w hw)), va_AO.of (A := #[Value.ref b]) (hts (.arrayOver (.object RX4)) (List.mem_append_right _ (List.mem_of_getElem? (i := 241) (by decide +kernel)))), ?_, h1, ?_, ?_⟩
  · exact vk_R.of (A := #[Value.ref b]) (hts (.stringRef RX3 33 txW) (List.mem_append_right _ (List.mem_of_getElem? (i := 137) (by decide +kernel)))) (h2 0 (by decide))
  · exact va_Zof (args := #[Value.ref b]) (hts (.laysStatic "java/lang/String" "COMPACT_STRINGS" "Z") (List.mem_append_right _ (List.mem_of_getElem? (i := 147) (by decide +kernel)))) (hts (.initialized "java/lang/String") (List.mem_append_right _ (List.mem_of_getElem? (i := 5) (by decide +kernel)))) (va_eqt (hs (Cond.eq (.static "java/lang/String" "COMPACT_STRINGS" "Z") (.int 1)) (by decide +kernel))) hA
  · exact va_Zqof (args := #[Value.ref b]) (hts (.laysStatic "jdk/internal/util/Preconditions" "SIOOBE_FORMATTER" "Ljava/util/function/BiFunction;") (List.mem_append_right _ (List.mem_of_getElem? (i := 163) (by decide +kernel)))) (hts (.initialized "jdk/internal/util/Preconditions") (List.mem_append_right _ (List.mem_of_getElem? (i := 7) (by decide +kernel)))) (hs (Cond.isRef (.static "jdk/internal/util/Preconditions" "SIOOBE_FORMATTER" "Ljava/util/function/BiFunction;")) (by decide +kernel)) hA
set_option maxHeartbeats 8000000 in
set_option maxRecDepth 100000 in
theorem law_sw {p : Program} {e : Env} {s : State} {m : MethodId} {below : List Frame} {meth : Method} {c : Code} {l : Launch} {b : Nat} {xs : Nat → Int32} {D : va_G} {cy : Nat → ClassId} {x0 m0 : Nat} {u v : SU} {H : Heap} {locs : List Loc} {ls : Array Slot} (C : LX p s m meth c b xs D cy) (hP : va_P D vwCl (wXM cy x0 m0 u v) H) (hD : va_D (fun q : Nat => s.heap.size ≤ q) (wXM cy x0 m0 u v)) (hS : va_S (fun q : Nat => s.heap.size ≤ q) s.heap H locs) (hF : FX u) (hl : lv_has ls 4 [(3, .int 0), (2, .ref m0), (1, .ref x0), (0, .ref b)]) (z : Int32) : W p l e room_1 s m #[Value.ref b] below meth c H locs 185 12666 (lw_Z below #[Value.ref b] s) (F0 m 33 ls [.int (z &&& 63)]) := by
  have hx := C.1
  have hb := C.2.1
  obtain ⟨j, hj, ej⟩ := pk_andE z (m := 63) 6 (by decide)
  refine tpi ej ?_
  have hj : j = 0 ∨ j = 1 ∨ j = 2 ∨ j = 3 ∨ j = 4 ∨ j = 5 ∨ j = 6 ∨ j = 7 ∨ j = 8 ∨ j = 9 ∨ j = 10 ∨ j = 11 ∨ j = 12 ∨ j = 13 ∨ j = 14 ∨ j = 15 ∨ j = 16 ∨ j = 17 ∨ j = 18 ∨ j = 19 ∨ j = 20 ∨ j = 21 ∨ j = 22 ∨ j = 23 ∨ j = 24 ∨ j = 25 ∨ j = 26 ∨ j = 27 ∨ j = 28 ∨ j = 29 ∨ j = 30 ∨ j = 31 ∨ j = 32 ∨ j = 33 ∨ j = 34 ∨ j = 35 ∨ j = 36 ∨ j = 37 ∨ j = 38 ∨ j = 39 ∨ j = 40 ∨ j = 41 ∨ j = 42 ∨ j = 43 ∨ j = 44 ∨ j = 45 ∨ j = 46 ∨ j = 47 ∨ j = 48 ∨ j = 49 ∨ j = 50 ∨ j = 51 ∨ j = 52 ∨ j = 53 ∨ j = 54 ∨ j = 55 ∨ j = 56 ∨ j = 57 ∨ (58 ≤ j ∧ j < 64) := by omega
  rcases hj with rfl | rfl | rfl | rfl | rfl | rfl | rfl | rfl | rfl | rfl | rfl | rfl | rfl | rfl | rfl | rfl | rfl | rfl | rfl | rfl | rfl | rfl | rfl | rfl | rfl | rfl | rfl | rfl | rfl | rfl | rfl | rfl | rfl | rfl | rfl | rfl | rfl | rfl | rfl | rfl | rfl | rfl | rfl | rfl | rfl | rfl | rfl | rfl | rfl | rfl | rfl | rfl | rfl | rfl | rfl | rfl | rfl | rfl | hj
  · exact lv_tableIn (off := 247) (tgt := 280) hx hb dL_law_33 (by decide) (by decide) (by decide) (by decide) (lo_0 C hP hD hS hF hl)
  · exact lv_tableIn (off := 310) (tgt := 343) hx hb dL_law_33 (by decide) (by decide) (by decide) (by decide) (lo_1 C hP hD hS hF hl)
  · exact lv_tableIn (off := 333) (tgt := 366) hx hb dL_law_33 (by decide) (by decide) (by decide) (by decide) (lo_2 C hP hD hS hF hl)
  · exact lv_tableIn (off := 346) (tgt := 379) hx hb dL_law_33 (by decide) (by decide) (by decide) (by decide) (lo_3 C hP hD hS hF hl)
  · exact lv_tableIn (off := 369) (tgt := 402) hx hb dL_law_33 (by decide) (by decide) (by decide) (by decide) (lo_4 C hP hD hS hF hl)
  · exact lv_tableIn (off := 402) (tgt := 435) hx hb dL_law_33 (by decide) (by decide) (by decide) (by decide) (lo_5 C hP hD hS hF hl)
  · exact lv_tableIn (off := 435) (tgt := 468) hx hb dL_law_33 (by decide) (by decide) (by decide) (by decide) (lo_6 C hP hD hS hF hl)
  · exact lv_tableIn (off := 458) (tgt := 491) hx hb dL_law_33 (by decide) (by decide) (by decide) (by decide) (lo_7 C hP hD hS hF hl)
  · exact lv_tableIn (off := 481) (tgt := 514) hx hb dL_law_33 (by decide) (by decide) (by decide) (by decide) (lo_8 C hP hD hS hF hl)
  · exact lv_tableIn (off := 514) (tgt := 547) hx hb dL_law_33 (by decide) (by decide) (by decide) (by decide) (lo_9 C hP hD hS hF hl)
  · exact lv_tableIn (off := 537) (tgt := 570) hx hb dL_law_33 (by decide) (by decide) (by decide) (by decide) (lo_10 C hP hD hS hF hl)
  · exact lv_tableIn (off := 560) (tgt := 593) hx hb dL_law_33 (by decide) (by decide) (by decide) (by decide) (lo_11 C hP hD hS hF hl)
  · exact lv_tableIn (off := 573) (tgt := 606) hx hb dL_law_33 (by decide) (by decide) (by decide) (by decide) (lo_12 C hP hD hS hF hl)
  · exact lv_tableIn (off := 586) (tgt := 619) hx hb dL_law_33 (by decide) (by decide) (by decide) (by decide) (lo_13 C hP hD hS hF hl)
  · exact lv_tableIn (off := 599) (tgt := 632) hx hb dL_law_33 (by decide) (by decide) (by decide) (by decide) (lo_14 C hP hD hS hF hl)
  · exact lv_tableIn (off := 612) (tgt := 645) hx hb dL_law_33 (by decide) (by decide) (by decide) (by decide) (lo_15 C hP hD hS hF hl)
  · exact lv_tableIn (off := 625) (tgt := 658) hx hb dL_law_33 (by decide) (by decide) (by decide) (by decide) (lo_16 C hP hD hS hF hl)
  · exact lv_tableIn (off := 638) (tgt := 671) hx hb dL_law_33 (by decide) (by decide) (by decide) (by decide) (lo_17 C hP hD hS hF hl)
  · exact lv_tableIn (off := 671) (tgt := 704) hx hb dL_law_33 (by decide) (by decide) (by decide) (by decide) (lo_18 C hP hD hS hF hl)
  · exact lv_tableIn (off := 704) (tgt := 737) hx hb dL_law_33 (by decide) (by decide) (by decide) (by decide) (lo_19 C hP hD hS hF hl)
  · exact lv_tableIn (off := 737) (tgt := 770) hx hb dL_law_33 (by decide) (by decide) (by decide) (by decide) (lo_20 C hP hD hS hF hl)
  · exact lv_tableIn (off := 760) (tgt := 793) hx hb dL_law_33 (by decide) (by decide) (by decide) (by decide) (lo_21 C hP hD hS hF hl)
  · exact lv_tableIn (off := 793) (tgt := 826) hx hb dL_law_33 (by decide) (by decide) (by decide) (by decide) (lo_22 C hP hD hS hF hl)
  · exact lv_tableIn (off := 816) (tgt := 849) hx hb dL_law_33 (by decide) (by decide) (by decide) (by decide) (lo_23 C hP hD hS hF hl)
  · exact lv_tableIn (off := 839) (tgt := 872) hx hb dL_law_33 (by decide) (by decide) (by decide) (by decide) (lo_24 C hP hD hS hF hl)
  · exact lv_tableIn (off := 862) (tgt := 895) hx hb dL_law_33 (by decide) (by decide) (by decide) (by decide) (lo_25 C hP hD hS hF hl)
  · exact lv_tableIn (off := 905) (tgt := 938) hx hb dL_law_33 (by decide) (by decide) (by decide) (by decide) (lo_26 C hP hD hS hF hl)
  · exact lv_tableIn (off := 928) (tgt := 961) hx hb dL_law_33 (by decide) (by decide) (by decide) (by decide) (lo_27 C hP hD hS hF hl)
  · exact lv_tableIn (off := 951) (tgt := 984) hx hb dL_law_33 (by decide) (by decide) (by decide) (by decide) (lo_28 C hP hD hS hF hl)
  · exact lv_tableIn (off := 974) (tgt := 1007) hx hb dL_law_33 (by decide) (by decide) (by decide) (by decide) (lo_29 C hP hD hS hF hl)
  · exact lv_tableIn (off := 987) (tgt := 1020) hx hb dL_law_33 (by decide) (by decide) (by decide) (by decide) (lo_30 C hP hD hS hF hl)
  · exact lv_tableIn (off := 1010) (tgt := 1043) hx hb dL_law_33 (by decide) (by decide) (by decide) (by decide) (lo_31 C hP hD hS hF hl)
  · exact lv_tableIn (off := 1023) (tgt := 1056) hx hb dL_law_33 (by decide) (by decide) (by decide) (by decide) (lo_32 C hP hD hS hF hl)
  · exact lv_tableIn (off := 1046) (tgt := 1079) hx hb dL_law_33 (by decide) (by decide) (by decide) (by decide) (lo_33 C hP hD hS hF hl)
  · exact lv_tableIn (off := 1069) (tgt := 1102) hx hb dL_law_33 (by decide) (by decide) (by decide) (by decide) (lo_34 C hP hD hS hF hl)
  · exact lv_tableIn (off := 1092) (tgt := 1125) hx hb dL_law_33 (by decide) (by decide) (by decide) (by decide) (lo_35 C hP hD hS hF hl)
  · exact lv_tableIn (off := 1115) (tgt := 1148) hx hb dL_law_33 (by decide) (by decide) (by decide) (by decide) (lo_36 C hP hD hS hF hl)
  · exact lv_tableIn (off := 1148) (tgt := 1181) hx hb dL_law_33 (by decide) (by decide) (by decide) (by decide) (lo_37 C hP hD hS hF hl)
  · exact lv_tableIn (off := 1181) (tgt := 1214) hx hb dL_law_33 (by decide) (by decide) (by decide) (by decide) (lo_38 C hP hD hS hF hl)
  · exact lv_tableIn (off := 1204) (tgt := 1237) hx hb dL_law_33 (by decide) (by decide) (by decide) (by decide) (lo_39 C hP hD hS hF hl)
  · exact lv_tableIn (off := 1237) (tgt := 1270) hx hb dL_law_33 (by decide) (by decide) (by decide) (by decide) (lo_40 C hP hD hS hF hl)
  · exact lv_tableIn (off := 1270) (tgt := 1303) hx hb dL_law_33 (by decide) (by decide) (by decide) (by decide) (lo_41 C hP hD hS hF hl)
  · exact lv_tableIn (off := 1293) (tgt := 1326) hx hb dL_law_33 (by decide) (by decide) (by decide) (by decide) (lo_42 C hP hD hS hF hl)
  · exact lv_tableIn (off := 1316) (tgt := 1349) hx hb dL_law_33 (by decide) (by decide) (by decide) (by decide) (lo_43 C hP hD hS hF hl)
  · exact lv_tableIn (off := 1329) (tgt := 1362) hx hb dL_law_33 (by decide) (by decide) (by decide) (by decide) (lo_44 C hP hD hS hF hl)
  · exact lv_tableIn (off := 1352) (tgt := 1385) hx hb dL_law_33 (by decide) (by decide) (by decide) (by decide) (lo_45 C hP hD hS hF hl)
  · exact lv_tableIn (off := 1365) (tgt := 1398) hx hb dL_law_33 (by decide) (by decide) (by decide) (by decide) (lo_46 C hP hD hS hF hl)
  · exact lv_tableIn (off := 1378) (tgt := 1411) hx hb dL_law_33 (by decide) (by decide) (by decide) (by decide) (lo_47 C hP hD hS hF hl)
  · exact lv_tableIn (off := 1401) (tgt := 1434) hx hb dL_law_33 (by decide) (by decide) (by decide) (by decide) (lo_48 C hP hD hS hF hl)
  · exact lv_tableIn (off := 1434) (tgt := 1467) hx hb dL_law_33 (by decide) (by decide) (by decide) (by decide) (lo_49 C hP hD hS hF hl)
  · exact lv_tableIn (off := 1483) (tgt := 1516) hx hb dL_law_33 (by decide) (by decide) (by decide) (by decide) (lo_50 C hP hD hS hF hl)
  · exact lv_tableIn (off := 1506) (tgt := 1539) hx hb dL_law_33 (by decide) (by decide) (by decide) (by decide) (lo_51 C hP hD hS hF hl)
  · exact lv_tableIn (off := 1529) (tgt := 1562) hx hb dL_law_33 (by decide) (by decide) (by decide) (by decide) (lo_52 C hP hD hS hF hl)
  · exact lv_tableIn (off := 1552) (tgt := 1585) hx hb dL_law_33 (by decide) (by decide) (by decide) (by decide) (lo_53 C hP hD hS hF hl)
  · exact lv_tableIn (off := 1585) (tgt := 1618) hx hb dL_law_33 (by decide) (by decide) (by decide) (by decide) (lo_54 C hP hD hS hF hl)
  · exact lv_tableIn (off := 1618) (tgt := 1651) hx hb dL_law_33 (by decide) (by decide) (by decide) (by decide) (lo_55 C hP hD hS hF hl)
  · exact lv_tableIn (off := 1641) (tgt := 1674) hx hb dL_law_33 (by decide) (by decide) (by decide) (by decide) (lo_56 C hP hD hS hF hl)
  · exact lv_tableIn (off := 1664) (tgt := 1697) hx hb dL_law_33 (by decide) (by decide) (by decide) (by decide) (lo_57 C hP hD hS hF hl)
  · refine lv_tableOut (tgt := 1720) hx hb dL_law_33 (Or.inr (by rw [nI_toInt (by omega)]; omega)) (by decide) (law_tail C hS hl)
set_option maxHeartbeats 8000000 in
set_option maxRecDepth 100000 in
theorem whole_start {p : Program} {e : Env} {s : State} {m : MethodId} {below : List Frame} {meth : Method} {c : Code} (l : Launch) (hflags : l.flags = flags0) {b L : Nat} {xs : Nat → Int32} (hL : L ≤ 6) (C0 : lw_At p s m meth c b L xs) : W p l e room_1 s m #[Value.ref b] below meth c s.heap [] 0 0 (lw_Z below #[Value.ref b] s) (entryFrame m ([Value.ref b] : List Value).toArray 4) := by
  obtain ⟨hx, hb, hr, hml, hown, hts0, hX, hbl, hlk, hgv⟩ := C0
  have hts := hts0
  have hA : ∀ q : Nat, s.heap.size ≤ q → (fun q : Nat => s.heap.size ≤ q) q := fun _ h => h
  have hAB : ∀ q : Nat, (fun q : Nat => s.heap.size ≤ q) q → s.heap.size ≤ q := fun _ h => h
  have hbA : ¬ (fun q : Nat => s.heap.size ≤ q) b := Nat.not_le.mpr hbl
  obtain ⟨adK, adV, hE⟩ := en_start hts0 hgv
  obtain ⟨c0, iS0, hKn0⟩ := u_known (C := RX0) (T := TX0) (N := 4) (n := 4) hts0 inX0 (hts0 (.instantiable RX0 4) (List.mem_append_right _ (List.mem_of_getElem? (i := 235) (by decide +kernel))))
  obtain ⟨c1, iS1, hKn1⟩ := u_known (C := RX1) (T := TX1) (N := 6) (n := 6) hts0 inX1 (hts0 (.instantiable RX1 6) (List.mem_append_right _ (List.mem_of_getElem? (i := 40) (by decide +kernel))))
  obtain ⟨c2, iS2, hKn2⟩ := u_known (C := RX2) (T := TX2) (N := 10) (n := 10) hts0 inX2 (hts0 (.instantiable RX2 10) (List.mem_append_right _ (List.mem_of_getElem? (i := 289) (by decide +kernel))))
  obtain ⟨c3, iS3, hKn3⟩ := u_known (C := RX3) (T := TX3) (N := 13) (n := 13) hts0 inX3 (hts0 (.instantiable RX3 13) (List.mem_append_right _ (List.mem_of_getElem? (i := 28) (by decide +kernel))))
  obtain ⟨c4, iS4, hKn4⟩ := u_known (C := RX4) (T := TX4) (N := 5) (n := 5) hts0 inX4 (hts0 (.instantiable RX4 5) (List.mem_append_right _ (List.mem_of_getElem? (i := 242) (by decide +kernel))))
  obtain ⟨c5, iS5, hKn5⟩ := u_known (C := RX5) (T := TX5) (N := 12) (n := 12) hts0 inX5 (hts0 (.instantiable RX5 12) (List.mem_append_right _ (List.mem_of_getElem? (i := 34) (by decide +kernel))))
  obtain ⟨c6, iS6, hKn6⟩ := u_known (C := RX6) (T := TX6) (N := 3) (n := 3) hts0 inX6 (hts0 (.instantiable RX6 3) (List.mem_append_right _ (List.mem_of_getElem? (i := 355) (by decide +kernel))))
  obtain ⟨c7, iS7, hKn7⟩ := u_known (C := RX7) (T := TX7) (N := 5) (n := 5) hts0 inX7 (hts0 (.instantiable RX7 5) (List.mem_append_right _ (List.mem_of_getElem? (i := 331) (by decide +kernel))))
  obtain ⟨c8, iS8, hKn8⟩ := u_known (C := RX8) (T := TX8) (N := 13) (n := 13) hts0 inX8 (hts0 (.instantiable RX8 13) (List.mem_append_right _ (List.mem_of_getElem? (i := 20) (by decide +kernel))))
  obtain ⟨c9, iS9, hKn9⟩ := u_known (C := RX9) (T := TX9) (N := 64) (n := 64) hts0 inX9 (hts0 (.instantiable RX9 64) (List.mem_append_right _ (List.mem_of_getElem? (i := 1128) (by decide +kernel))))
  obtain ⟨D, hDn⟩ : ∃ D : va_G, ∀ (k : Nat) (q : vw_C), vwCl[k]? = some q → u_Kn s q.1 q.2.1 q.2.2 (D.1 k) (D.2 k) := by
    refine ⟨(fun k => [c0, c1, c2, c3, c4, c5, c6, c7, c8, c9].getD k c0, fun k => [iS0, iS1, iS2, iS3, iS4, iS5, iS6, iS7, iS8, iS9].getD k iS0), ?_⟩
    intro k q hq
    match k, hq with
    | 0, hq => cases hq; exact hKn0
    | 1, hq => cases hq; exact hKn1
    | 2, hq => cases hq; exact hKn2
    | 3, hq => cases hq; exact hKn3
    | 4, hq => cases hq; exact hKn4
    | 5, hq => cases hq; exact hKn5
    | 6, hq => cases hq; exact hKn6
    | 7, hq => cases hq; exact hKn7
    | 8, hq => cases hq; exact hKn8
    | 9, hq => cases hq; exact hKn9
    | k + 10, hq => simp [vwCl] at hq
  obtain ⟨cA0, hA0⟩ := arrW_i (hts0 (.arrayClass .int) (List.mem_append_right _ (List.mem_of_getElem? (i := 69) (by decide +kernel))))
  obtain ⟨cA1, hA1⟩ := arrW_b (hts0 (.arrayClass .byte) (List.mem_append_right _ (List.mem_of_getElem? (i := 68) (by decide +kernel))))
  obtain ⟨cA2, hA2⟩ := arrW_j (hts0 (.arrayClass .long) (List.mem_append_right _ (List.mem_of_getElem? (i := 231) (by decide +kernel))))
  obtain ⟨cA3, hA3⟩ := arrW_z (hts0 (.arrayClass .boolean) (List.mem_append_right _ (List.mem_of_getElem? (i := 353) (by decide +kernel))))
  obtain ⟨cA4, hA4⟩ := arrW_o (hts0 (.arrayOver (.object RX4)) (List.mem_append_right _ (List.mem_of_getElem? (i := 241) (by decide +kernel))))
  obtain ⟨cy, hcy⟩ : ∃ cy : Nat → ClassId, tyL cy = [(cA0, .int), (cA1, .byte), (cA2, .long), (cA3, .boolean), (cA4, .object RX4)] := ⟨fun k => [cA0, cA1, cA2, cA3, cA4].getD k cA0, rfl⟩
  have hK : va_K D vwCl (tyL cy) s := by
    refine ⟨hDn, ?_⟩
    rw [hcy]
    intro k q hq
    match k, hq with
    | 0, hq => cases hq; exact hA0
    | 1, hq => cases hq; exact hA1
    | 2, hq => cases hq; exact hA2
    | 3, hq => cases hq; exact hA3
    | 4, hq => cases hq; exact hA4
    | k + 5, hq => simp at hq
  have hS : va_S (fun q : Nat => s.heap.size ≤ q) s.heap s.heap [] := va_S.rf
  have hP : va_P D vwCl [] s.heap := fun k q h => by simp at h
  have hD : va_D (fun q : Nat => s.heap.size ≤ q) [] := ⟨fun i j p q h => by simp at h, fun k q h => by simp at h⟩
  have hl := lv_entry ([.ref b]) (n := 4) (Nat.le_of_ble_eq_true rfl)
  rw [lg_entry_eq]
  generalize (lg_sl ([.ref b]) ++ List.replicate (4 - (lg_sl ([.ref b])).length) Slot.unset).toArray = ls at hl ⊢
  have hl : lv_has ls 4 [(0, .ref b)] := hl
  refine st0 (fun H locs hP hS => ?_) hP hS
  refine va_new (D := D) (cl := vwCl) (ci := 8) (fs := [.null, .null, .null, .null, .null, .int 0, .null, .null, .null, .int 0, .null, .null, .int 0]) (C := RX8) (T := TX8) (N := 13) hx hb hts inX8 tyX8 tyX8_ok hown (hts (.classLink RL 7 RX8) (pcs_in _ (List.mem_of_getElem? (i := 0) rfl) _ (List.mem_of_getElem? (i := 0) (by decide +kernel)))) (hts (.instantiable RX8 13) (pcs_in _ (List.mem_of_getElem? (i := 0) rfl) _ (List.mem_of_getElem? (i := 1) (by decide +kernel)))) (hts (.initialized RX8) (pcs_in _ (List.mem_of_getElem? (i := 0) rfl) _ (List.mem_of_getElem? (i := 2) (by decide +kernel)))) hK hP hD hS hA rfl (by decide +kernel) (Nat.le_of_ble_eq_true rfl) (Nat.le_of_ble_eq_true rfl) dL_law_0 (fun x0 H hP hD hS => ?_)
  have hP : va_P D vwCl [(x0, .inr (8, [.null, .null, .null, .null, .null, .int 0, .null, .null, .null, .int 0, .null, .null, .int 0]))] H := hP
  have hD : va_D (fun q : Nat => s.heap.size ≤ q) [(x0, .inr (8, [.null, .null, .null, .null, .null, .int 0, .null, .null, .null, .int 0, .null, .null, .int 0]))] := hD
  refine W.widen (k := 1) (n := 13) (Nat.le_of_ble_eq_true rfl) (Nat.le_of_ble_eq_true rfl) ?_
  refine lv_dup hx hb dL_law_3 rfl ?_
  refine clCI (rest := [.ref x0]) (wr := []) ⟨hx, hb, hml, hown, hts⟩ hK hE hP hD hS hA hAB (kc_X8 l s.heap.size adK adV D cy x0 _) (cwI 0 hts gL_law_X8_init rfl rfl rfl (hts (.initialized RX8) (pcs_in _ (List.mem_of_getElem? (i := 0) rfl) _ (List.mem_of_getElem? (i := 2) (by decide +kernel)))) (hts (.methodLink RL 9 yX8_init) (pcs_in _ (List.mem_of_getElem? (i := 0) rfl) _ (List.mem_of_getElem? (i := 6) (by decide +kernel)))) (hts (.instanceMethod yX8_init) (pcs_in _ (List.mem_of_getElem? (i := 0) rfl) _ (List.mem_of_getElem? (i := 7) (by decide +kernel)))) rfl (by decide +kernel) ⟨Nat.le_of_ble_eq_true rfl, Nat.le_of_ble_eq_true rfl⟩) [0] [] rfl rfl rfl rfl (by decide) hl.1 rfl (Nat.le_of_ble_eq_true rfl) dL_law_4 ⟨Nat.le_of_ble_eq_true rfl, Nat.le_of_ble_eq_true rfl⟩ (c2 := 148) (s2 := 5358) rfl rfl (fun u H locs hwu hP hD hS => ?_)
  have hP : va_P D vwCl [(x0, .inr (8, [.ref (u.1 0), .ref (u.1 1), .ref (u.1 2), .ref (u.1 3), .ref (u.1 4), .int 0, .ref (u.1 5), .ref (u.1 6), .ref (u.1 7), .int 0, .ref (u.1 8), .ref (u.1 9), .int 0])), ((u.1 0), .inr (3, [.int 0, .int (-1), .int 0, .ref (u.1 10), .ref (u.1 11), .ref (u.1 12), .ref (u.1 13), .int 0, .int 0, .int 0, .int 0, .int 0, .long 0])), ((u.1 10), .inl (cy 1, 1600, .inl zI)), ((u.1 11), .inr (5, [.int 0, .int 0, .int 0, .int 0, .int 0, .ref (u.1 14), .ref (u.1 15), .ref (u.1 16), .ref (u.1 17), .ref (u.1 18), .ref (u.1 19), .ref (u.1 20)])), ((u.1 19), .inl (cy 0, 12, .inl zI)), ((u.1 20), .inr (1, [.ref (u.1 21), .int 0, .int 0, .ref (u.1 22), .ref (u.1 23), .int 0])), ((u.1 1), .inr (5, [.int 0, .int 0, .int 0, .int 0, .int 0, .ref (u.1 24), .ref (u.1 25), .ref (u.1 26), .ref (u.1 27), .ref (u.1 28), .ref (u.1 29), .ref (u.1 30)])), ((u.1 24), .inl (cy 0, 10, .inl zI)), ((u.1 29), .inl (cy 0, 12, .inl zI)), ((u.1 30), .inr (1, [.ref (u.1 31), .int 0, .int 0, .ref (u.1 32), .ref (u.1 33), .int 0])), ((u.1 2), .inr (0, [.ref (u.1 34), .int 0, .int 0, .int 0])), ((u.1 34), .inl (cy 4, 41, .inr (.inr (.inr (.inr (u.2 0)))))), ((u.1 35), .inr (4, [.ref (u.1 36), .int 0, .int 0, .int 0, .int 0])), ((u.1 36), .inl (cy 0, 12, .inl zI)), ((u.1 37), .inr (4, [.ref (u.1 38), .int 0, .int 0, .int 0, .int 0])), ((u.1 38), .inl (cy 0, 12, .inl zI)), ((u.1 3), .inr (4, [.ref (u.1 39), .int 0, .int 0, .int 0, .int 0])), ((u.1 39), .inl (cy 0, 12, .inl zI)), ((u.1 4), .inl (cy 4, 3, .inr (.inr (.inr (.inr (u.2 1)))))), ((u.1 5), .inr (2, [.int 0, .ref (u.1 40), .ref (u.1 41), .ref (u.1 42), .ref (u.1 43), .int 0, .ref (u.1 44), .ref (u.1 45), .ref (u.1 46), .int 0])), ((u.1 41), .inl (cy 0, 10, .inl zI)), ((u.1 44), .inl (cy 0, 12, .inl zI)), ((u.1 45), .inl (cy 0, 10, .inl zI)), ((u.1 8), .inr (7, [.int 0, .ref (u.1 47), .ref (u.1 48), .ref (u.1 49), .ref (u.1 50)])), ((u.1 9), .inr (6, [.int 0, .ref (u.1 51), .ref (u.1 52)])), ((u.1 51), .inl (cy 0, 79, .inl zI)), ((u.1 52), .inl (cy 0, 79, .inl zI)), ((u.1 53), .inr (4, [.ref (u.1 54), .int 0, .int 0, .int 0, .int 0])), ((u.1 54), .inl (cy 0, 12, .inl zI)), ((u.1 55), .inr (4, [.ref (u.1 56), .int 0, .int 0, .int 0, .int 0])), ((u.1 56), .inl (cy 0, 12, .inl zI)), ((u.1 57), .inr (4, [.ref (u.1 58), .int 0, .int 0, .int 0, .int 0])), ((u.1 58), .inl (cy 0, 12, .inl zI))] H := hP
  have hD : va_D (fun q : Nat => s.heap.size ≤ q) [(x0, .inr (8, [.ref (u.1 0), .ref (u.1 1), .ref (u.1 2), .ref (u.1 3), .ref (u.1 4), .int 0, .ref (u.1 5), .ref (u.1 6), .ref (u.1 7), .int 0, .ref (u.1 8), .ref (u.1 9), .int 0])), ((u.1 0), .inr (3, [.int 0, .int (-1), .int 0, .ref (u.1 10), .ref (u.1 11), .ref (u.1 12), .ref (u.1 13), .int 0, .int 0, .int 0, .int 0, .int 0, .long 0])), ((u.1 10), .inl (cy 1, 1600, .inl zI)), ((u.1 11), .inr (5, [.int 0, .int 0, .int 0, .int 0, .int 0, .ref (u.1 14), .ref (u.1 15), .ref (u.1 16), .ref (u.1 17), .ref (u.1 18), .ref (u.1 19), .ref (u.1 20)])), ((u.1 19), .inl (cy 0, 12, .inl zI)), ((u.1 20), .inr (1, [.ref (u.1 21), .int 0, .int 0, .ref (u.1 22), .ref (u.1 23), .int 0])), ((u.1 1), .inr (5, [.int 0, .int 0, .int 0, .int 0, .int 0, .ref (u.1 24), .ref (u.1 25), .ref (u.1 26), .ref (u.1 27), .ref (u.1 28), .ref (u.1 29), .ref (u.1 30)])), ((u.1 24), .inl (cy 0, 10, .inl zI)), ((u.1 29), .inl (cy 0, 12, .inl zI)), ((u.1 30), .inr (1, [.ref (u.1 31), .int 0, .int 0, .ref (u.1 32), .ref (u.1 33), .int 0])), ((u.1 2), .inr (0, [.ref (u.1 34), .int 0, .int 0, .int 0])), ((u.1 34), .inl (cy 4, 41, .inr (.inr (.inr (.inr (u.2 0)))))), ((u.1 35), .inr (4, [.ref (u.1 36), .int 0, .int 0, .int 0, .int 0])), ((u.1 36), .inl (cy 0, 12, .inl zI)), ((u.1 37), .inr (4, [.ref (u.1 38), .int 0, .int 0, .int 0, .int 0])), ((u.1 38), .inl (cy 0, 12, .inl zI)), ((u.1 3), .inr (4, [.ref (u.1 39), .int 0, .int 0, .int 0, .int 0])), ((u.1 39), .inl (cy 0, 12, .inl zI)), ((u.1 4), .inl (cy 4, 3, .inr (.inr (.inr (.inr (u.2 1)))))), ((u.1 5), .inr (2, [.int 0, .ref (u.1 40), .ref (u.1 41), .ref (u.1 42), .ref (u.1 43), .int 0, .ref (u.1 44), .ref (u.1 45), .ref (u.1 46), .int 0])), ((u.1 41), .inl (cy 0, 10, .inl zI)), ((u.1 44), .inl (cy 0, 12, .inl zI)), ((u.1 45), .inl (cy 0, 10, .inl zI)), ((u.1 8), .inr (7, [.int 0, .ref (u.1 47), .ref (u.1 48), .ref (u.1 49), .ref (u.1 50)])), ((u.1 9), .inr (6, [.int 0, .ref (u.1 51), .ref (u.1 52)])), ((u.1 51), .inl (cy 0, 79, .inl zI)), ((u.1 52), .inl (cy 0, 79, .inl zI)), ((u.1 53), .inr (4, [.ref (u.1 54), .int 0, .int 0, .int 0, .int 0])), ((u.1 54), .inl (cy 0, 12, .inl zI)), ((u.1 55), .inr (4, [.ref (u.1 56), .int 0, .int 0, .int 0, .int 0])), ((u.1 56), .inl (cy 0, 12, .inl zI)), ((u.1 57), .inr (4, [.ref (u.1 58), .int 0, .int 0, .int 0, .int 0])), ((u.1 58), .inl (cy 0, 12, .inl zI))] := hD
  obtain ⟨hfx0, hfx1, hfx2, hfx3, hfx4, -⟩ := hwu
  refine lv_astore_n (lv' := [(1, .ref x0), (0, .ref b)]) hx hb dL_law_7 rfl hl (by decide) rfl (fun ls hl => ?_)
  refine va_new (D := D) (cl := vwCl) (ci := 9) (fs := [.null, .null, .int 0, .int 0, .int 0, .int 0, .int 0, .int 0, .int 0, .int 0, .long 0, .null, .null, .null, .null, .null, .null, .null, .null, .null, .null, .null, .null, .null, .null, .null, .null, .null, .null, .int 0, .int 0, .int 0, .int 0, .int 0, .int 0, .int 0, .int 0, .null, .null, .int 0, .int 0, .int 0, .null, .null, .null, .int 0, .int 0, .null, .int 0, .int 0, .null, .null, .null, .null, .null, .null, .null, .null, .int 0, .int 0, .int 0, .int 0, .null, .null]) (C := RX9) (T := TX9) (N := 64) hx hb hts inX9 tyX9 tyX9_ok hown (hts (.classLink RL 10 RX9) (pcs_in _ (List.mem_of_getElem? (i := 0) rfl) _ (List.mem_of_getElem? (i := 3) (by decide +kernel)))) (hts (.instantiable RX9 64) (pcs_in _ (List.mem_of_getElem? (i := 0) rfl) _ (List.mem_of_getElem? (i := 4) (by decide +kernel)))) (hts (.initialized RX9) (pcs_in _ (List.mem_of_getElem? (i := 0) rfl) _ (List.mem_of_getElem? (i := 5) (by decide +kernel)))) hK hP hD hS hA rfl (by decide +kernel) (Nat.le_of_ble_eq_true rfl) (Nat.le_of_ble_eq_true rfl) dL_law_8 (fun m0 H hP hD hS => ?_)
  have hP : va_P D vwCl [(x0, .inr (8, [.ref (u.1 0), .ref (u.1 1), .ref (u.1 2), .ref (u.1 3), .ref (u.1 4), .int 0, .ref (u.1 5), .ref (u.1 6), .ref (u.1 7), .int 0, .ref (u.1 8), .ref (u.1 9), .int 0])), ((u.1 0), .inr (3, [.int 0, .int (-1), .int 0, .ref (u.1 10), .ref (u.1 11), .ref (u.1 12), .ref (u.1 13), .int 0, .int 0, .int 0, .int 0, .int 0, .long 0])), ((u.1 10), .inl (cy 1, 1600, .inl zI)), ((u.1 11), .inr (5, [.int 0, .int 0, .int 0, .int 0, .int 0, .ref (u.1 14), .ref (u.1 15), .ref (u.1 16), .ref (u.1 17), .ref (u.1 18), .ref (u.1 19), .ref (u.1 20)])), ((u.1 19), .inl (cy 0, 12, .inl zI)), ((u.1 20), .inr (1, [.ref (u.1 21), .int 0, .int 0, .ref (u.1 22), .ref (u.1 23), .int 0])), ((u.1 1), .inr (5, [.int 0, .int 0, .int 0, .int 0, .int 0, .ref (u.1 24), .ref (u.1 25), .ref (u.1 26), .ref (u.1 27), .ref (u.1 28), .ref (u.1 29), .ref (u.1 30)])), ((u.1 24), .inl (cy 0, 10, .inl zI)), ((u.1 29), .inl (cy 0, 12, .inl zI)), ((u.1 30), .inr (1, [.ref (u.1 31), .int 0, .int 0, .ref (u.1 32), .ref (u.1 33), .int 0])), ((u.1 2), .inr (0, [.ref (u.1 34), .int 0, .int 0, .int 0])), ((u.1 34), .inl (cy 4, 41, .inr (.inr (.inr (.inr (u.2 0)))))), ((u.1 35), .inr (4, [.ref (u.1 36), .int 0, .int 0, .int 0, .int 0])), ((u.1 36), .inl (cy 0, 12, .inl zI)), ((u.1 37), .inr (4, [.ref (u.1 38), .int 0, .int 0, .int 0, .int 0])), ((u.1 38), .inl (cy 0, 12, .inl zI)), ((u.1 3), .inr (4, [.ref (u.1 39), .int 0, .int 0, .int 0, .int 0])), ((u.1 39), .inl (cy 0, 12, .inl zI)), ((u.1 4), .inl (cy 4, 3, .inr (.inr (.inr (.inr (u.2 1)))))), ((u.1 5), .inr (2, [.int 0, .ref (u.1 40), .ref (u.1 41), .ref (u.1 42), .ref (u.1 43), .int 0, .ref (u.1 44), .ref (u.1 45), .ref (u.1 46), .int 0])), ((u.1 41), .inl (cy 0, 10, .inl zI)), ((u.1 44), .inl (cy 0, 12, .inl zI)), ((u.1 45), .inl (cy 0, 10, .inl zI)), ((u.1 8), .inr (7, [.int 0, .ref (u.1 47), .ref (u.1 48), .ref (u.1 49), .ref (u.1 50)])), ((u.1 9), .inr (6, [.int 0, .ref (u.1 51), .ref (u.1 52)])), ((u.1 51), .inl (cy 0, 79, .inl zI)), ((u.1 52), .inl (cy 0, 79, .inl zI)), ((u.1 53), .inr (4, [.ref (u.1 54), .int 0, .int 0, .int 0, .int 0])), ((u.1 54), .inl (cy 0, 12, .inl zI)), ((u.1 55), .inr (4, [.ref (u.1 56), .int 0, .int 0, .int 0, .int 0])), ((u.1 56), .inl (cy 0, 12, .inl zI)), ((u.1 57), .inr (4, [.ref (u.1 58), .int 0, .int 0, .int 0, .int 0])), ((u.1 58), .inl (cy 0, 12, .inl zI)), (m0, .inr (9, [.null, .null, .int 0, .int 0, .int 0, .int 0, .int 0, .int 0, .int 0, .int 0, .long 0, .null, .null, .null, .null, .null, .null, .null, .null, .null, .null, .null, .null, .null, .null, .null, .null, .null, .null, .int 0, .int 0, .int 0, .int 0, .int 0, .int 0, .int 0, .int 0, .null, .null, .int 0, .int 0, .int 0, .null, .null, .null, .int 0, .int 0, .null, .int 0, .int 0, .null, .null, .null, .null, .null, .null, .null, .null, .int 0, .int 0, .int 0, .int 0, .null, .null]))] H := hP
  have hD : va_D (fun q : Nat => s.heap.size ≤ q) [(x0, .inr (8, [.ref (u.1 0), .ref (u.1 1), .ref (u.1 2), .ref (u.1 3), .ref (u.1 4), .int 0, .ref (u.1 5), .ref (u.1 6), .ref (u.1 7), .int 0, .ref (u.1 8), .ref (u.1 9), .int 0])), ((u.1 0), .inr (3, [.int 0, .int (-1), .int 0, .ref (u.1 10), .ref (u.1 11), .ref (u.1 12), .ref (u.1 13), .int 0, .int 0, .int 0, .int 0, .int 0, .long 0])), ((u.1 10), .inl (cy 1, 1600, .inl zI)), ((u.1 11), .inr (5, [.int 0, .int 0, .int 0, .int 0, .int 0, .ref (u.1 14), .ref (u.1 15), .ref (u.1 16), .ref (u.1 17), .ref (u.1 18), .ref (u.1 19), .ref (u.1 20)])), ((u.1 19), .inl (cy 0, 12, .inl zI)), ((u.1 20), .inr (1, [.ref (u.1 21), .int 0, .int 0, .ref (u.1 22), .ref (u.1 23), .int 0])), ((u.1 1), .inr (5, [.int 0, .int 0, .int 0, .int 0, .int 0, .ref (u.1 24), .ref (u.1 25), .ref (u.1 26), .ref (u.1 27), .ref (u.1 28), .ref (u.1 29), .ref (u.1 30)])), ((u.1 24), .inl (cy 0, 10, .inl zI)), ((u.1 29), .inl (cy 0, 12, .inl zI)), ((u.1 30), .inr (1, [.ref (u.1 31), .int 0, .int 0, .ref (u.1 32), .ref (u.1 33), .int 0])), ((u.1 2), .inr (0, [.ref (u.1 34), .int 0, .int 0, .int 0])), ((u.1 34), .inl (cy 4, 41, .inr (.inr (.inr (.inr (u.2 0)))))), ((u.1 35), .inr (4, [.ref (u.1 36), .int 0, .int 0, .int 0, .int 0])), ((u.1 36), .inl (cy 0, 12, .inl zI)), ((u.1 37), .inr (4, [.ref (u.1 38), .int 0, .int 0, .int 0, .int 0])), ((u.1 38), .inl (cy 0, 12, .inl zI)), ((u.1 3), .inr (4, [.ref (u.1 39), .int 0, .int 0, .int 0, .int 0])), ((u.1 39), .inl (cy 0, 12, .inl zI)), ((u.1 4), .inl (cy 4, 3, .inr (.inr (.inr (.inr (u.2 1)))))), ((u.1 5), .inr (2, [.int 0, .ref (u.1 40), .ref (u.1 41), .ref (u.1 42), .ref (u.1 43), .int 0, .ref (u.1 44), .ref (u.1 45), .ref (u.1 46), .int 0])), ((u.1 41), .inl (cy 0, 10, .inl zI)), ((u.1 44), .inl (cy 0, 12, .inl zI)), ((u.1 45), .inl (cy 0, 10, .inl zI)), ((u.1 8), .inr (7, [.int 0, .ref (u.1 47), .ref (u.1 48), .ref (u.1 49), .ref (u.1 50)])), ((u.1 9), .inr (6, [.int 0, .ref (u.1 51), .ref (u.1 52)])), ((u.1 51), .inl (cy 0, 79, .inl zI)), ((u.1 52), .inl (cy 0, 79, .inl zI)), ((u.1 53), .inr (4, [.ref (u.1 54), .int 0, .int 0, .int 0, .int 0])), ((u.1 54), .inl (cy 0, 12, .inl zI)), ((u.1 55), .inr (4, [.ref (u.1 56), .int 0, .int 0, .int 0, .int 0])), ((u.1 56), .inl (cy 0, 12, .inl zI)), ((u.1 57), .inr (4, [.ref (u.1 58), .int 0, .int 0, .int 0, .int 0])), ((u.1 58), .inl (cy 0, 12, .inl zI)), (m0, .inr (9, [.null, .null, .int 0, .int 0, .int 0, .int 0, .int 0, .int 0, .int 0, .int 0, .long 0, .null, .null, .null, .null, .null, .null, .null, .null, .null, .null, .null, .null, .null, .null, .null, .null, .null, .null, .int 0, .int 0, .int 0, .int 0, .int 0, .int 0, .int 0, .int 0, .null, .null, .int 0, .int 0, .int 0, .null, .null, .null, .int 0, .int 0, .null, .int 0, .int 0, .null, .null, .null, .null, .null, .null, .null, .null, .int 0, .int 0, .int 0, .int 0, .null, .null]))] := hD
  refine W.widen (k := 149) (n := 5422) (Nat.le_of_ble_eq_true rfl) (Nat.le_of_ble_eq_true rfl) ?_
  refine lv_dup hx hb dL_law_11 rfl ?_
  refine clCI (rest := [.ref m0]) (wr := [(x0, .inr (8, [.ref (u.1 0), .ref (u.1 1), .ref (u.1 2), .ref (u.1 3), .ref (u.1 4), .int 0, .ref (u.1 5), .ref (u.1 6), .ref (u.1 7), .int 0, .ref (u.1 8), .ref (u.1 9), .int 0])), ((u.1 0), .inr (3, [.int 0, .int (-1), .int 0, .ref (u.1 10), .ref (u.1 11), .ref (u.1 12), .ref (u.1 13), .int 0, .int 0, .int 0, .int 0, .int 0, .long 0])), ((u.1 10), .inl (cy 1, 1600, .inl zI)), ((u.1 11), .inr (5, [.int 0, .int 0, .int 0, .int 0, .int 0, .ref (u.1 14), .ref (u.1 15), .ref (u.1 16), .ref (u.1 17), .ref (u.1 18), .ref (u.1 19), .ref (u.1 20)])), ((u.1 19), .inl (cy 0, 12, .inl zI)), ((u.1 20), .inr (1, [.ref (u.1 21), .int 0, .int 0, .ref (u.1 22), .ref (u.1 23), .int 0])), ((u.1 1), .inr (5, [.int 0, .int 0, .int 0, .int 0, .int 0, .ref (u.1 24), .ref (u.1 25), .ref (u.1 26), .ref (u.1 27), .ref (u.1 28), .ref (u.1 29), .ref (u.1 30)])), ((u.1 24), .inl (cy 0, 10, .inl zI)), ((u.1 29), .inl (cy 0, 12, .inl zI)), ((u.1 30), .inr (1, [.ref (u.1 31), .int 0, .int 0, .ref (u.1 32), .ref (u.1 33), .int 0])), ((u.1 2), .inr (0, [.ref (u.1 34), .int 0, .int 0, .int 0])), ((u.1 34), .inl (cy 4, 41, .inr (.inr (.inr (.inr (u.2 0)))))), ((u.1 35), .inr (4, [.ref (u.1 36), .int 0, .int 0, .int 0, .int 0])), ((u.1 36), .inl (cy 0, 12, .inl zI)), ((u.1 37), .inr (4, [.ref (u.1 38), .int 0, .int 0, .int 0, .int 0])), ((u.1 38), .inl (cy 0, 12, .inl zI)), ((u.1 3), .inr (4, [.ref (u.1 39), .int 0, .int 0, .int 0, .int 0])), ((u.1 39), .inl (cy 0, 12, .inl zI)), ((u.1 4), .inl (cy 4, 3, .inr (.inr (.inr (.inr (u.2 1)))))), ((u.1 5), .inr (2, [.int 0, .ref (u.1 40), .ref (u.1 41), .ref (u.1 42), .ref (u.1 43), .int 0, .ref (u.1 44), .ref (u.1 45), .ref (u.1 46), .int 0])), ((u.1 41), .inl (cy 0, 10, .inl zI)), ((u.1 44), .inl (cy 0, 12, .inl zI)), ((u.1 45), .inl (cy 0, 10, .inl zI)), ((u.1 8), .inr (7, [.int 0, .ref (u.1 47), .ref (u.1 48), .ref (u.1 49), .ref (u.1 50)])), ((u.1 9), .inr (6, [.int 0, .ref (u.1 51), .ref (u.1 52)])), ((u.1 51), .inl (cy 0, 79, .inl zI)), ((u.1 52), .inl (cy 0, 79, .inl zI)), ((u.1 53), .inr (4, [.ref (u.1 54), .int 0, .int 0, .int 0, .int 0])), ((u.1 54), .inl (cy 0, 12, .inl zI)), ((u.1 55), .inr (4, [.ref (u.1 56), .int 0, .int 0, .int 0, .int 0])), ((u.1 56), .inl (cy 0, 12, .inl zI)), ((u.1 57), .inr (4, [.ref (u.1 58), .int 0, .int 0, .int 0, .int 0])), ((u.1 58), .inl (cy 0, 12, .inl zI))]) ⟨hx, hb, hml, hown, hts⟩ hK hE hP hD hS hA hAB (kc_X9 l s.heap.size adK adV D cy m0 _) (cwI 0 hts gL_law_X9_init rfl rfl rfl (hts (.initialized RX9) (pcs_in _ (List.mem_of_getElem? (i := 0) rfl) _ (List.mem_of_getElem? (i := 5) (by decide +kernel)))) (hts (.methodLink RL 12 yX9_init) (pcs_in _ (List.mem_of_getElem? (i := 6) rfl) _ (List.mem_of_getElem? (i := 16) (by decide +kernel)))) (hts (.instanceMethod yX9_init) (pcs_in _ (List.mem_of_getElem? (i := 6) rfl) _ (List.mem_of_getElem? (i := 17) (by decide +kernel)))) rfl (by decide +kernel) ⟨Nat.le_of_ble_eq_true rfl, Nat.le_of_ble_eq_true rfl⟩) [33] [0, 1, 2, 3, 4, 5, 6, 7, 8, 9, 10, 11, 12, 13, 14, 15, 16, 17, 18, 19, 20, 21, 22, 23, 24, 25, 26, 27, 28, 29, 30, 31, 32] rfl rfl rfl rfl (by decide) hl.1 rfl (Nat.le_of_ble_eq_true rfl) dL_law_12 ⟨Nat.le_of_ble_eq_true rfl, Nat.le_of_ble_eq_true rfl⟩ (c2 := 185) (s2 := 12666) rfl rfl (fun v H locs hwv hP hD hS => ?_)
  have hP : va_P D vwCl (wXM cy x0 m0 u v) H := hP
  have hD : va_D (fun q : Nat => s.heap.size ≤ q) (wXM cy x0 m0 u v) := hD
  have hF : FX u := ⟨hfx0, hfx1, hfx2, hfx3, hfx4⟩
  refine lv_astore_n (lv' := [(2, .ref m0), (1, .ref x0), (0, .ref b)]) hx hb dL_law_15 rfl hl (by decide) rfl (fun ls hl => ?_)
  refine lv_iconst (v := 0) hx hb dL_law_16 (by decide) ?_
  refine lv_istore_n (lv' := [(3, .int 0), (2, .ref m0), (1, .ref x0), (0, .ref b)]) hx hb dL_law_17 rfl hl (by decide) rfl (fun ls hl => ?_)
  refine lv_iload_n hx hb dL_law_18 rfl (lv_at hl 0 rfl) ?_
  refine lv_aload_n hx hb dL_law_19 rfl (lv_at hl 3 rfl) ?_
  refine va_slen hx hb hX hbl hbA hS dL_law_20 ?_
  refine lv_bipush (v := 6) hx hb dL_law_21 (by decide) ?_
  refine lv_isub hx hb dL_law_23 ?_
  rcases Nat.lt_or_ge L 6 with hL6 | hL6
  · refine lv_icmp_gt (tgt := 1726) hx hb dL_law_24 (by decide) (fun _ => ?_) (fun c => absurd (show nI L - nI 6 < 0 from pk_sneg (by decide) hL6) c)
    refine lv_iconst (v := 1) hx hb dL_law_1726 (by decide) ?_
    refine va_forget hS.2.2 ?_
    refine W.widen (k := 600000) (n := 7302249) (Nat.le_of_ble_eq_true rfl) (Nat.le_of_ble_eq_true rfl) ?_
    exact lw_ret hx hb hr hlk dL_law_1727
  · obtain rfl : L = 6 := by omega
    refine tpi (v := 0) (by decide) ?_
    refine lv_icmp_gt (tgt := 1726) hx hb dL_law_24 (by decide) (fun c => absurd c (by decide)) (fun _ => ?_)
    refine lv_aload_n hx hb dL_law_27 rfl (lv_at hl 3 rfl) ?_
    refine lv_iload_n hx hb dL_law_28 rfl (lv_at hl 0 rfl) ?_
    refine va_sld hx hb hX hbl hbA hS (vin (by decide)) dL_law_29 ?_
    refine lv_bipush (v := 63) hx hb dL_law_30 (by decide) ?_
    refine lv_iand hx hb dL_law_32 ?_
    exact law_sw ⟨hx, hb, hr, hlk, hml, hown, hts, hX, hbl, hK⟩ hP hD hS hF hl _
-- ===== YOUR PART ENDS =====
set_option maxHeartbeats 4000000 in
theorem lw_walk (l : Launch) (hflags : l.flags = flags0) (b : Addr) (xs : List Int32) : MetFree l x (headSpec (Jvm.Cond.code x code maxLocals ret :: tables_1) room_1) (lw_P b xs) (fun _ _ _ _ _ => True) lw_Q := by
  refine MetFree.of_bodyS (code := code) (maxLocals := maxLocals) (ret := ret) (by decide) ?_ ?_
  · intro args s m h hn
    obtain ⟨meth, c, h1, h2, h3, h4, h5, h6, -, -⟩ := Cond.code_spec hn (atoms_spec (ws := Jvm.Cond.code x code maxLocals ret :: tables_1) h _ List.mem_cons_self)
    exact ⟨meth, c, h1, h2, h3, h4, h5, h6⟩
  · intro p e s m args below meth c s₁ B hml0 hP _
    obtain ⟨rfl, hx, hbd, hgv⟩ := hP
    obtain ⟨scr, harrAt, hlist, hof, hsmall⟩ := hx
    obtain ⟨hcb, hkn, -, -⟩ := State.arrayAt?_spec harrAt
    have hown : s.vm.findClass R_law = some m.cls := findClass_of_methodNamed B.named
    have hts0 : ∀ c ∈ (Jvm.Cond.code x code maxLocals ret :: tables_1), c.before #[Value.ref b] s = true := atoms_spec (ws := Jvm.Cond.code x code maxLocals ret :: tables_1) B.pre
    have hts : ∀ w ∈ lw_tbl, w.before #[Value.ref b] s = true := k2_hts_sels lw_privs (fun w hw => hts0 w (List.mem_cons_of_mem _ hw)) lw_privs_ok
    have hml : c.maxLocals = 4 := B.maxLocals_eq (hts0 _ List.mem_cons_self)
    have X₀ : Stand p l e room_1 s m #[Value.ref b] below meth c s₁ [] 0 0 := Stand.of_body B
    have hh0 : s₁.heap = s.heap := by rw [B.state]; rfl
    have hsz : scr.slots.size = xs.length := by rw [← Array.length_toList, hlist, List.length_map]
    have hval : ∀ j : Nat, j < xs.length → scr.slots[j]? = some (.int (xs.getD j 0)) := fun j hj => by
      rw [← Array.getElem?_toList, hlist]
      simp [hj]
    have hbl : b < s.heap.size := (Array.getElem?_eq_some_iff.mp hcb).1
    have hX : va_X b xs.length (fun j => xs.getD j 0) s s.heap := ⟨scr, hcb, hof, hkn, hsz, hval⟩
    have K : W p l e room_1 s m #[Value.ref b] below meth c s₁.heap [] 0 0 (lw_Z below #[Value.ref b] s) (entryFrame m ([Value.ref b] : List Value).toArray 4) := by
      rw [hh0]
      exact whole_start l hflags hbd ⟨B.exec, B.bytes, B.returns, hml, hown, hts, hX, hbl, B.notSynchronized, hgv⟩
    obtain ⟨t, a1, o, b1, b2, b3⟩ := K s₁ rfl X₀
    exact ⟨t, o, a1, b1, b2, b3⟩
theorem lw_pre_spec {args : Array Value} {s : State} (h : (Jvm.Cond.and given_1 narrow_1).before args s = true) (hr : rest_1_c.before args s = true) : ∃ (b : Addr) (xs : List Int32), lw_P b xs args s := by
  have hs := flat_of_before _ h
  have hq := flat_of_before _ hr
  have hc : (Cond.count 1).before args s = true := hs _ (by decide +kernel)
  have harr : (Cond.arrayOf (.arg 0) .int).before args s = true := hs _ (by decide +kernel)
  have hle : (Cond.le (.length (.arg 0)) (.int 6)).before args s = true := hs _ (by decide +kernel)
  have hlen : (Cond.isInt (.length (.arg 0))).before args s = true := hq _ (by decide +kernel)
  have hall : (Cond.all (.arg 0) (.isInt (.elem (.arg 0) (.index 0)))).before args s = true := hq _ (by decide +kernel)
  obtain ⟨b, xs, hb, hx⟩ := State.ints_of_pre rfl harr hlen hall
  have hsm : xs.length < 2 ^ 31 := hx.choose_spec.2.2.2
  have hev : (Term.length (.arg 0)).eval args s none [] s = some (.int xs.length.toInt32) := hx.length_eval hb
  have hv := Cond.le_ints hev (show (Term.int 6).eval args s none [] s = some (.int 6) from rfl)
  have hd : xs.length.toInt32 ≤ 6 := by
    simpa [Cond.before, Cond.holds, hv] using hle
  have hN : xs.length ≤ 6 := (Int32.ofNat_le_ofNat hsm (by decide)).mp (show Int32.ofNat xs.length ≤ Int32.ofNat 6 from hd)
  exact ⟨b, xs, Cond.one_arg hc (show args[0]? = some (.ref b) from hb), hx, hN, h⟩
theorem lw_comes (l : Launch) (hflags : l.flags = flags0) : Comes l x (Jvm.Cond.code x code maxLocals ret :: tables_1) room_1 (fun tb e args s => Calls_1 tb e args s ∧ rest_1 tb e args s ∧ Pre_1 tb e args s)
    (fun _ _ args s o t => lw_Q args s o t) := by
  intro p e ha hc hk s m args below hf hfit hheap happ hpre
  obtain ⟨b, xs, hP⟩ := lw_pre_spec hpre.2.2 hpre.2.1
  obtain ⟨k, o, h1, h2, h3, hQ⟩ := lw_walk l hflags b xs p e ha hc hk s m args below hf ((Spec.applies_iff_loose hf).mp happ).1 hP trivial
  exact ⟨k, o, h1, h2, h3, hQ⟩
theorem lw_frame {s t : State} {o : Outcome} {args : Array Value} (h : Framed s o t [] 600000 7302249) :
    Framed s o t (fieldLocs frame_1_writes args s ++ arrayLocs frame_1_arrays args s ++ staticLocs frame_1_statics s) 600000 7302249 := h
theorem lw_limb (L : Cond) (hL : ∀ (args : Array Value) (s t : State), L.after args s (.returned (some (.int 1))) t = true) :
    ArmFor flags0 classFile x code maxLocals ret World_1 tables_1 room_1 Calls_1 rest_1 Pre_1
      (fun tb e a s o t => postC L tb e a s o t ∧ Framed s o t (fieldLocs frame_1_writes a s ++ arrayLocs frame_1_arrays a s ++ staticLocs frame_1_statics s) 600000 7302249) := by
  intro l hflags _ _ p e ha hc hk s m args below hf hfit hheap happ hpre
  obtain ⟨k, o, h1, h2, h3, rfl, hF⟩ := lw_comes l hflags p e ha hc hk s m args below hf hfit hheap happ hpre
  exact ⟨k, _, h1, h2, h3, hL args s _, lw_frame hF⟩
theorem i_vc : Claimed_1_1 ∧ Claimed_1_2 := ⟨lw_limb limb_1_1 (fun args s t => by simp [limb_1_1, Cond.after, Cond.holds, Cond.value]), lw_limb limb_1_2 (fun args s t => Cond.after_iff.mpr (by
  first | (rw [show limb_1_2 = Cond.eq .result (.int 1) from rfl, Cond.eq_ints (x := 1) (y := 1) rfl rfl]; simp; done) | (simp [limb_1_2, Cond.value, Term.eval]; done)))⟩
