/-! the start of the law: what the Statement gives, the two constructors, the loop, the end -/
theorem arrW_i {args : Array Value} {s : State} (h : (Cond.arrayClass .int).before args s = true) : ∃ cA : ClassId, ArrOfT s cA .int ∧ va_RA s cA .int := by
  obtain ⟨cA, kA, comp, h1, h2, h3⟩ := Cond.arrayClass_spec h
  exact ⟨cA, fun n z => ⟨fun k h => (by cases h), kA, h2, comp, h3⟩, h1⟩
theorem arrW_b {args : Array Value} {s : State} (h : (Cond.arrayClass .byte).before args s = true) : ∃ cA : ClassId, ArrOfT s cA .byte ∧ va_RA s cA .byte := by
  obtain ⟨cA, kA, comp, h1, h2, h3⟩ := Cond.arrayClass_spec h
  exact ⟨cA, fun n z => ⟨fun k h => (by cases h), kA, h2, comp, h3⟩, h1⟩
theorem arrW_j {args : Array Value} {s : State} (h : (Cond.arrayClass .long).before args s = true) : ∃ cA : ClassId, ArrOfT s cA .long ∧ va_RA s cA .long := by
  obtain ⟨cA, kA, comp, h1, h2, h3⟩ := Cond.arrayClass_spec h
  exact ⟨cA, fun n z => ⟨fun k h => (by cases h), kA, h2, comp, h3⟩, h1⟩
theorem arrW_z {args : Array Value} {s : State} (h : (Cond.arrayClass .boolean).before args s = true) : ∃ cA : ClassId, ArrOfT s cA .boolean ∧ va_RA s cA .boolean := by
  obtain ⟨cA, kA, comp, h1, h2, h3⟩ := Cond.arrayClass_spec h
  exact ⟨cA, fun n z => ⟨fun k h => (by cases h), kA, h2, comp, h3⟩, h1⟩
theorem arrW_o {args : Array Value} {s : State} (h : (Cond.arrayOver (.object RX4)).before args s = true) : ∃ cA : ClassId, ArrOfT s cA (.object RX4) ∧ va_RA s cA (.object RX4) := by
  obtain ⟨comp, cA, kA, h1, -, h3, h4, h5⟩ := Cond.arrayOver_spec h
  exact ⟨cA, fun n z => ⟨fun k h => (by cases h), kA, h3, comp, h4⟩, kA, comp, h3, h4, h1, h5⟩
set_option maxRecDepth 100000 in
theorem nl_in : ∀ w ∈ nlW, w ∈ lw_tbl := by
  intro w hw
  simp only [nlW, List.mem_cons, List.not_mem_nil, or_false] at hw
  rcases hw with rfl | rfl | rfl | rfl | rfl | rfl | rfl | rfl | rfl | rfl | rfl | rfl | rfl | rfl | rfl
  · exact List.mem_append_right _ (List.mem_of_getElem? (i := 233) (by decide +kernel))
  · exact List.mem_append_right _ (List.mem_of_getElem? (i := 287) (by decide +kernel))
  · exact List.mem_append_right _ (List.mem_of_getElem? (i := 290) (by decide +kernel))
  · exact List.mem_append_right _ (List.mem_of_getElem? (i := 332) (by decide +kernel))
  · exact List.mem_append_right _ (List.mem_of_getElem? (i := 356) (by decide +kernel))
  · exact List.mem_append_right _ (List.mem_of_getElem? (i := 243) (by decide +kernel))
  · exact List.mem_append_right _ (List.mem_of_getElem? (i := 295) (by decide +kernel))
  · exact List.mem_append_right _ (List.mem_of_getElem? (i := 681) (by decide +kernel))
  · exact List.mem_append_right _ (List.mem_of_getElem? (i := 35) (by decide +kernel))
  · exact List.mem_append_right _ (List.mem_of_getElem? (i := 592) (by decide +kernel))
  · exact List.mem_append_right _ (List.mem_of_getElem? (i := 799) (by decide +kernel))
  · exact List.mem_append_right _ (List.mem_of_getElem? (i := 41) (by decide +kernel))
  · exact List.mem_append_right _ (List.mem_of_getElem? (i := 581) (by decide +kernel))
  · exact List.mem_append_right _ (List.mem_of_getElem? (i := 1117) (by decide +kernel))
  · exact List.mem_append_right _ (List.mem_of_getElem? (i := 1100) (by decide +kernel))
set_option maxRecDepth 100000 in
theorem el_in : ∀ j : Nat, j < 112 → Cond.eq (.elem (.field (Term.string RX3 33) "java/lang/String" "value" "[B") (.int (Int32.ofNat j))) (.int (byW.getD j 0)) ∈ flatC (Jvm.Cond.and given_1 narrow_1) := by decide +kernel
set_option maxRecDepth 100000 in
theorem el_inS : ∀ j : Nat, j < 11 → Cond.eq (.elem (.field (Term.string RX3 92) "java/lang/String" "value" "[B") (.int (Int32.ofNat j))) (.int (byS.getD j 0)) ∈ flatC (Jvm.Cond.and given_1 narrow_1) := by decide +kernel
set_option maxHeartbeats 4000000 in
set_option maxRecDepth 100000 in
theorem en_start {s : State} {b : Nat} (hts : ∀ w ∈ lw_tbl, w.before #[Value.ref b] s = true) (hgv : (Jvm.Cond.and given_1 narrow_1).before #[Value.ref b] s = true) : ∃ adK adV : Nat → Nat, EN s.heap.size adK adV s := by
  have hs := flat_of_before _ hgv
  have hA : ∀ a : Nat, a < s.heap.size → ¬ (fun q : Nat => s.heap.size ≤ q) a := fun a h => Nat.not_le.mpr h
  obtain ⟨adK, adV, h1, h2⟩ := vk_Sof (args := #[Value.ref b]) (s := s) (N := 2) (tm := fun i => [(Term.string RX3 33), (Term.string RX3 92)].getD i (Term.string RX3 33)) (len := [112, 11]) (byt := [byW, byS]) (A := fun q : Nat => s.heap.size ≤ q)
    (fun i hi => by
      rcases (show i = 0 ∨ i = 1 by omega) with rfl | rfl
      · decide
      · decide)
    (fun i hi => by
      rcases (show i = 0 ∨ i = 1 by omega) with rfl | rfl
      · exact hs (Cond.exactly (Term.string RX3 33) "java/lang/String") (by decide +kernel)
      · exact hs (Cond.exactly (Term.string RX3 92) "java/lang/String") (by decide +kernel))
    (fun i hi => by
      rcases (show i = 0 ∨ i = 1 by omega) with rfl | rfl
      · exact hs (Cond.eq (.field (Term.string RX3 33) "java/lang/String" "coder" "B") (.int 0)) (by decide +kernel)
      · exact hs (Cond.eq (.field (Term.string RX3 92) "java/lang/String" "coder" "B") (.int 0)) (by decide +kernel))
    (fun i hi => by
      rcases (show i = 0 ∨ i = 1 by omega) with rfl | rfl
      · exact hs (Cond.arrayOf (.field (Term.string RX3 33) "java/lang/String" "value" "[B") .byte) (by decide +kernel)
      · exact hs (Cond.arrayOf (.field (Term.string RX3 92) "java/lang/String" "value" "[B") .byte) (by decide +kernel))
    (fun i hi => by
      rcases (show i = 0 ∨ i = 1 by omega) with rfl | rfl
      · exact hs (Cond.eq (.length (.field (Term.string RX3 33) "java/lang/String" "value" "[B")) (.int 112)) (by decide +kernel)
      · exact hs (Cond.eq (.length (.field (Term.string RX3 92) "java/lang/String" "value" "[B")) (.int 11)) (by decide +kernel))
    (fun i hi => by
      rcases (show i = 0 ∨ i = 1 by omega) with rfl | rfl
      · exact fun j hj => hs _ (el_in j hj)
      · exact fun j hj => hs _ (el_inS j hj))
    (fun i j hi hj hne => by
      rcases (show (i = 0 ∧ j = 1) ∨ (i = 1 ∧ j = 0) by omega) with ⟨rfl, rfl⟩ | ⟨rfl, rfl⟩
      · exact Or.inl (hs (Cond.not (Cond.eq (Term.string RX3 33) (Term.string RX3 92))) (by decide +kernel))
      · exact Or.inr (hs (Cond.not (Cond.eq (Term.string RX3 33) (Term.string RX3 92))) (by decide +kernel))) hA
  refine ⟨adK, adV, Nat.le_refl _, fun w hw => va_Nw.of (nl_tab w hw) (hts w (nl_in w hw)), va_AO.of (A := #[Value.ref b]) (hts (.arrayOver (.object RX4)) (List.mem_append_right _ (List.mem_of_getElem? (i := 241) (by decide +kernel)))), ⟨?_, ?_⟩, h1, ?_, ?_⟩
  · exact vk_R.of (A := #[Value.ref b]) (hts (.stringRef RX3 33 txW) (List.mem_append_right _ (List.mem_of_getElem? (i := 137) (by decide +kernel)))) (h2 0 (by decide))
  · exact vk_R.of (A := #[Value.ref b]) (hts (.stringRef RX3 92 txS) (List.mem_append_right _ (List.mem_of_getElem? (i := 456) (by decide +kernel)))) (h2 1 (by decide))
  · exact va_Zof (args := #[Value.ref b]) (hts (.laysStatic "java/lang/String" "COMPACT_STRINGS" "Z") (List.mem_append_right _ (List.mem_of_getElem? (i := 147) (by decide +kernel)))) (hts (.initialized "java/lang/String") (List.mem_append_right _ (List.mem_of_getElem? (i := 5) (by decide +kernel)))) (va_eqt (hs (Cond.eq (.static "java/lang/String" "COMPACT_STRINGS" "Z") (.int 1)) (by decide +kernel))) hA
  · exact va_Zqof (args := #[Value.ref b]) (hts (.laysStatic "jdk/internal/util/Preconditions" "SIOOBE_FORMATTER" "Ljava/util/function/BiFunction;") (List.mem_append_right _ (List.mem_of_getElem? (i := 163) (by decide +kernel)))) (hts (.initialized "jdk/internal/util/Preconditions") (List.mem_append_right _ (List.mem_of_getElem? (i := 7) (by decide +kernel)))) (hs (Cond.isRef (.static "jdk/internal/util/Preconditions" "SIOOBE_FORMATTER" "Ljava/util/function/BiFunction;")) (by decide +kernel)) hA
set_option maxHeartbeats 8000000 in
set_option maxRecDepth 100000 in
theorem law_from {p : Program} {e : Env} {s : State} {m : MethodId} {below : List Frame} {meth : Method} {c : Code} {l : Launch} {b L : Nat} {xs : Nat → Int32} {D : va_G} {cy : Nat → ClassId} {adK adV : Nat → Nat} {x0 m0 : Nat} {u v : SU} {H : Heap} {locs : List Loc} {ls : Array Slot} (C : LX p s m meth c b L xs D cy) (hE : EN s.heap.size adK adV s) (hL : L ≤ 3072) (hF : FX u) (hP : va_P D vwCl (wXM cy x0 m0 u v) H) (hD : va_D (fun q : Nat => s.heap.size ≤ q) (wXM cy x0 m0 u v)) (hS : va_S (fun q : Nat => s.heap.size ≤ q) s.heap H locs) (hl : lv_has ls 4 [(3, .int 0), (2, .ref m0), (1, .ref x0), (0, .ref b)]) : W p l e room_1 s m #[Value.ref b] below meth c H locs 185 12666 (lw_Z below #[Value.ref b] s) (F0 m 18 ls []) :=
  law_loop (ad := adW (wXM cy x0 m0 u v)) C hE hL 3080 (fW (wXM cy x0 m0 u v)) H locs ls 0 (by decide) (by decide) (li0 cy x0 m0 u v hF) (by rw [wl_of _ rfl]; exact hP) (by rw [wl_of _ rfl]; exact hD) hS hl
