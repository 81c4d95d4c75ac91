set_option maxHeartbeats 4000000 in
set_option maxRecDepth 100000 in
theorem k_X4_copy_0 (l : Launch) (D : va_G) (cy : Nat → ClassId) (a0 a1 a2 a3 : Nat) (v0_1 : Value) (v0_2 : Value) (v0_3 : Value) (v0_4 : Value) (x1_1 : Int32) (x1_2 : Int32) (x1_3 : Int32) (x1_4 : Int32) (sz : Nat) : CtV l yX4_copy wsX4_copy 1 60 [.ref a0, .ref a1] D cy [(a0, .inr (4, [.ref a3, v0_1, v0_2, v0_3, v0_4])), (a1, .inr (4, [.ref a2, .int x1_1, .int x1_2, .int x1_3, .int x1_4])), (a2, .inl (cy 0, 12, .inl zI)), (a3, .inl (cy 0, 12, .inl zI))] sz 0 0 (fun (_ : Unit) => True) (fun _ => [(a0, .inr (4, [.ref a3, .int x1_1, .int x1_2, .int x1_3, .int x1_4])), (a1, .inr (4, [.ref a2, .int x1_1, .int x1_2, .int x1_3, .int x1_4])), (a2, .inl (cy 0, 12, .inl zI)), (a3, .inl (cy 0, 12, .inl zI))]) := by
  refine CtV.of (cc := cX4_copy) (maxL := 2) (own := RX4) (by decide) rfl (Nat.le_of_ble_eq_true rfl) rfl ?_
  intro p e s m below meth c A ls hx hb hr hml hts hown hlk hK hP hD hS hA hl
  have hl : lv_has ls 2 [(0, .ref a0), (1, .ref a1)] := hl
  refine st0 (fun H locs hP hS => ?_) hP hS
  have hP : va_P D vwCl [(a0, .inr (4, [.ref a3, v0_1, v0_2, v0_3, v0_4])), (a1, .inr (4, [.ref a2, .int x1_1, .int x1_2, .int x1_3, .int x1_4])), (a2, .inl (cy 0, 12, .inl zI)), (a3, .inl (cy 0, 12, .inl zI))] H := hP
  have hD : va_D A [(a0, .inr (4, [.ref a3, v0_1, v0_2, v0_3, v0_4])), (a1, .inr (4, [.ref a2, .int x1_1, .int x1_2, .int x1_3, .int x1_4])), (a2, .inl (cy 0, 12, .inl zI)), (a3, .inl (cy 0, 12, .inl zI))] := hD
  refine lv_aload_n hx hb dX4_copy_0 rfl (lv_at hl 1 rfl) ?_
  refine va_get (D := D) (cl := vwCl) (ci := 4) (v := .ref a2) (C := RX4) (T := TX4) (N := 5) hx hb hts in_X4_copy_X4 hown hK hP 1 rfl rfl 0 (by decide) (hts (.fieldLink RX4 9 "EightReasons$State" "strong" "[I") (List.mem_of_getElem? (i := 1) (by decide +kernel))) (fun _ h9 => h9) rfl dX4_copy_1 ?_
  refine lv_iconst (v := 0) hx hb dX4_copy_4 (by decide) ?_
  refine lv_aload_n hx hb dX4_copy_5 rfl (lv_at hl 0 rfl) ?_
  refine va_get (D := D) (cl := vwCl) (ci := 4) (v := .ref a3) (C := RX4) (T := TX4) (N := 5) hx hb hts in_X4_copy_X4 hown hK hP 0 rfl rfl 0 (by decide) (hts (.fieldLink RX4 9 "EightReasons$State" "strong" "[I") (List.mem_of_getElem? (i := 1) (by decide +kernel))) (fun _ h9 => h9) rfl dX4_copy_6 ?_
  refine lv_iconst (v := 0) hx hb dX4_copy_9 (by decide) ?_
  refine lv_bipush (v := 12) hx hb dX4_copy_10 (by decide) ?_
  refine va_copyi hx hb (hml.trans hl.1.symm) hown (hts (.methodLink RX4 18 arraycopyName) (List.mem_of_getElem? (i := 2) (by decide +kernel))) (hts (.native arraycopyName) (List.mem_of_getElem? (i := 3) (by decide +kernel))) (hts (.static arraycopyName) (List.mem_of_getElem? (i := 4) (by decide +kernel))) (hts (.initialized "java/lang/System") (List.mem_of_getElem? (i := 5) (by decide +kernel))) hK hP hD hS 2 3 0 0 (ty := .int) rfl rfl rfl rfl rfl (by decide) (by decide) (by decide) (by decide) (by decide) (fun _ _ => rfl) (Nat.le_of_ble_eq_true rfl) (Nat.le_of_ble_eq_true rfl) dX4_copy_12 (fun H locs hP hD hS => ?_)
  rw [zI_cpy] at hP hD
  have hP : va_P D vwCl [(a0, .inr (4, [.ref a3, v0_1, v0_2, v0_3, v0_4])), (a1, .inr (4, [.ref a2, .int x1_1, .int x1_2, .int x1_3, .int x1_4])), (a2, .inl (cy 0, 12, .inl zI)), (a3, .inl (cy 0, 12, .inl zI))] H := hP
  have hD : va_D A [(a0, .inr (4, [.ref a3, v0_1, v0_2, v0_3, v0_4])), (a1, .inr (4, [.ref a2, .int x1_1, .int x1_2, .int x1_3, .int x1_4])), (a2, .inl (cy 0, 12, .inl zI)), (a3, .inl (cy 0, 12, .inl zI))] := hD
  refine lv_aload_n hx hb dX4_copy_15 rfl (lv_at hl 0 rfl) ?_
  refine lv_aload_n hx hb dX4_copy_16 rfl (lv_at hl 1 rfl) ?_
  refine va_get (D := D) (cl := vwCl) (ci := 4) (v := .int x1_1) (C := RX4) (T := TX4) (N := 5) hx hb hts in_X4_copy_X4 hown hK hP 1 rfl rfl 1 (by decide) (hts (.fieldLink RX4 28 "EightReasons$State" "tied" "I") (List.mem_of_getElem? (i := 6) (by decide +kernel))) (fun _ h9 => h9) rfl dX4_copy_17 ?_
  refine va_put (D := D) (cl := vwCl) (ci := 4) (v := .int x1_1) (ty := tyX4 1) (C := RX4) (T := TX4) (N := 5) hx hb hts in_X4_copy_X4 tyX4 tyX4_ok nmX4 hown hK hP hD hS 0 rfl rfl 1 (by decide) (hts (.fieldLink RX4 28 "EightReasons$State" "tied" "I") (List.mem_of_getElem? (i := 6) (by decide +kernel))) (fun _ h9 => h9) rfl (tyX4_ok 1 (by decide)) rfl rfl (Nat.le_of_ble_eq_true rfl) dX4_copy_20 (fun H locs hP hD hS => ?_)
  have hP : va_P D vwCl [(a0, .inr (4, [.ref a3, .int x1_1, v0_2, v0_3, v0_4])), (a1, .inr (4, [.ref a2, .int x1_1, .int x1_2, .int x1_3, .int x1_4])), (a2, .inl (cy 0, 12, .inl zI)), (a3, .inl (cy 0, 12, .inl zI))] H := hP
  have hD : va_D A [(a0, .inr (4, [.ref a3, .int x1_1, v0_2, v0_3, v0_4])), (a1, .inr (4, [.ref a2, .int x1_1, .int x1_2, .int x1_3, .int x1_4])), (a2, .inl (cy 0, 12, .inl zI)), (a3, .inl (cy 0, 12, .inl zI))] := hD
  refine lv_aload_n hx hb dX4_copy_23 rfl (lv_at hl 0 rfl) ?_
  refine lv_aload_n hx hb dX4_copy_24 rfl (lv_at hl 1 rfl) ?_
  refine va_get (D := D) (cl := vwCl) (ci := 4) (v := .int x1_2) (C := RX4) (T := TX4) (N := 5) hx hb hts in_X4_copy_X4 hown hK hP 1 rfl rfl 2 (by decide) (hts (.fieldLink RX4 32 "EightReasons$State" "struck" "I") (List.mem_of_getElem? (i := 7) (by decide +kernel))) (fun _ h9 => h9) rfl dX4_copy_25 ?_
  refine va_put (D := D) (cl := vwCl) (ci := 4) (v := .int x1_2) (ty := tyX4 2) (C := RX4) (T := TX4) (N := 5) hx hb hts in_X4_copy_X4 tyX4 tyX4_ok nmX4 hown hK hP hD hS 0 rfl rfl 2 (by decide) (hts (.fieldLink RX4 32 "EightReasons$State" "struck" "I") (List.mem_of_getElem? (i := 7) (by decide +kernel))) (fun _ h9 => h9) rfl (tyX4_ok 2 (by decide)) rfl rfl (Nat.le_of_ble_eq_true rfl) dX4_copy_28 (fun H locs hP hD hS => ?_)
  have hP : va_P D vwCl [(a0, .inr (4, [.ref a3, .int x1_1, .int x1_2, v0_3, v0_4])), (a1, .inr (4, [.ref a2, .int x1_1, .int x1_2, .int x1_3, .int x1_4])), (a2, .inl (cy 0, 12, .inl zI)), (a3, .inl (cy 0, 12, .inl zI))] H := hP
  have hD : va_D A [(a0, .inr (4, [.ref a3, .int x1_1, .int x1_2, v0_3, v0_4])), (a1, .inr (4, [.ref a2, .int x1_1, .int x1_2, .int x1_3, .int x1_4])), (a2, .inl (cy 0, 12, .inl zI)), (a3, .inl (cy 0, 12, .inl zI))] := hD
  refine lv_aload_n hx hb dX4_copy_31 rfl (lv_at hl 0 rfl) ?_
  refine lv_aload_n hx hb dX4_copy_32 rfl (lv_at hl 1 rfl) ?_
  refine va_get (D := D) (cl := vwCl) (ci := 4) (v := .int x1_3) (C := RX4) (T := TX4) (N := 5) hx hb hts in_X4_copy_X4 hown hK hP 1 rfl rfl 3 (by decide) (hts (.fieldLink RX4 35 "EightReasons$State" "day" "I") (List.mem_of_getElem? (i := 8) (by decide +kernel))) (fun _ h9 => h9) rfl dX4_copy_33 ?_
  refine va_put (D := D) (cl := vwCl) (ci := 4) (v := .int x1_3) (ty := tyX4 3) (C := RX4) (T := TX4) (N := 5) hx hb hts in_X4_copy_X4 tyX4 tyX4_ok nmX4 hown hK hP hD hS 0 rfl rfl 3 (by decide) (hts (.fieldLink RX4 35 "EightReasons$State" "day" "I") (List.mem_of_getElem? (i := 8) (by decide +kernel))) (fun _ h9 => h9) rfl (tyX4_ok 3 (by decide)) rfl rfl (Nat.le_of_ble_eq_true rfl) dX4_copy_36 (fun H locs hP hD hS => ?_)
  have hP : va_P D vwCl [(a0, .inr (4, [.ref a3, .int x1_1, .int x1_2, .int x1_3, v0_4])), (a1, .inr (4, [.ref a2, .int x1_1, .int x1_2, .int x1_3, .int x1_4])), (a2, .inl (cy 0, 12, .inl zI)), (a3, .inl (cy 0, 12, .inl zI))] H := hP
  have hD : va_D A [(a0, .inr (4, [.ref a3, .int x1_1, .int x1_2, .int x1_3, v0_4])), (a1, .inr (4, [.ref a2, .int x1_1, .int x1_2, .int x1_3, .int x1_4])), (a2, .inl (cy 0, 12, .inl zI)), (a3, .inl (cy 0, 12, .inl zI))] := hD
  refine lv_aload_n hx hb dX4_copy_39 rfl (lv_at hl 0 rfl) ?_
  refine lv_aload_n hx hb dX4_copy_40 rfl (lv_at hl 1 rfl) ?_
  refine va_get (D := D) (cl := vwCl) (ci := 4) (v := .int x1_4) (C := RX4) (T := TX4) (N := 5) hx hb hts in_X4_copy_X4 hown hK hP 1 rfl rfl 4 (by decide) (hts (.fieldLink RX4 41 "EightReasons$State" "seed" "I") (List.mem_of_getElem? (i := 9) (by decide +kernel))) (fun _ h9 => h9) rfl dX4_copy_41 ?_
  refine va_put (D := D) (cl := vwCl) (ci := 4) (v := .int x1_4) (ty := tyX4 4) (C := RX4) (T := TX4) (N := 5) hx hb hts in_X4_copy_X4 tyX4 tyX4_ok nmX4 hown hK hP hD hS 0 rfl rfl 4 (by decide) (hts (.fieldLink RX4 41 "EightReasons$State" "seed" "I") (List.mem_of_getElem? (i := 9) (by decide +kernel))) (fun _ h9 => h9) rfl (tyX4_ok 4 (by decide)) rfl rfl (Nat.le_of_ble_eq_true rfl) dX4_copy_44 (fun H locs hP hD hS => ?_)
  have hP : va_P D vwCl [(a0, .inr (4, [.ref a3, .int x1_1, .int x1_2, .int x1_3, .int x1_4])), (a1, .inr (4, [.ref a2, .int x1_1, .int x1_2, .int x1_3, .int x1_4])), (a2, .inl (cy 0, 12, .inl zI)), (a3, .inl (cy 0, 12, .inl zI))] H := hP
  have hD : va_D A [(a0, .inr (4, [.ref a3, .int x1_1, .int x1_2, .int x1_3, .int x1_4])), (a1, .inr (4, [.ref a2, .int x1_1, .int x1_2, .int x1_3, .int x1_4])), (a2, .inl (cy 0, 12, .inl zI)), (a3, .inl (cy 0, 12, .inl zI))] := hD
  exact rtV hx hb hr hlk hP hD hS () [0, 1, 2, 3] rfl rfl trivial dX4_copy_47
set_option maxHeartbeats 4000000 in
set_option maxRecDepth 100000 in
theorem k_X0_nextState_0 (l : Launch) (D : va_G) (cy : Nat → ClassId) (a0 a1 a2 a3 a4 a5 : Nat) (v0_3 : Value) (g1_ : Nat → Option Nat) (v2_1 : Value) (v2_2 : Value) (v2_3 : Value) (v2_4 : Value) (x3_1 : Int32) (x3_2 : Int32) (x3_3 : Int32) (x3_4 : Int32) (sz : Nat) (hf1_0 : g1_ 0 = some a3) (hf1_1 : g1_ 1 = some a2) : CtR l yX0_nextState wsX0_nextState 2 81 [.ref a0] D cy [(a0, .inr (0, [.ref a1, .int 0, .int 0, v0_3])), (a1, .inl (cy 4, 41, .inr (.inr (.inr (.inr g1_))))), (a2, .inr (4, [.ref a5, v2_1, v2_2, v2_3, v2_4])), (a3, .inr (4, [.ref a4, .int x3_1, .int x3_2, .int x3_3, .int x3_4])), (a4, .inl (cy 0, 12, .inl zI)), (a5, .inl (cy 0, 12, .inl zI))] sz 0 0 (fun (_ : Unit) => True) (fun _ => [(a0, .inr (0, [.ref a1, .int 1, .int 1, .int 0])), (a1, .inl (cy 4, 41, .inr (.inr (.inr (.inr g1_))))), (a2, .inr (4, [.ref a5, .int x3_1, .int x3_2, .int x3_3, .int x3_4])), (a3, .inr (4, [.ref a4, .int x3_1, .int x3_2, .int x3_3, .int x3_4])), (a4, .inl (cy 0, 12, .inl zI)), (a5, .inl (cy 0, 12, .inl zI))]) (fun _ => a2) := by
  refine CtR.of (cc := cX0_nextState) (maxL := 2) (ty := (.object "EightReasons$State")) (own := RX0) (by decide) rfl (Nat.le_of_ble_eq_true rfl) rfl ?_
  intro p e s m below meth c A ls hx hb hr hml hts hown hlk hK hP hD hS hA hl
  have hl : lv_has ls 2 [(0, .ref a0)] := hl
  refine st0 (fun H locs hP hS => ?_) hP hS
  have hP : va_P D vwCl [(a0, .inr (0, [.ref a1, .int 0, .int 0, v0_3])), (a1, .inl (cy 4, 41, .inr (.inr (.inr (.inr g1_))))), (a2, .inr (4, [.ref a5, v2_1, v2_2, v2_3, v2_4])), (a3, .inr (4, [.ref a4, .int x3_1, .int x3_2, .int x3_3, .int x3_4])), (a4, .inl (cy 0, 12, .inl zI)), (a5, .inl (cy 0, 12, .inl zI))] H := hP
  have hD : va_D A [(a0, .inr (0, [.ref a1, .int 0, .int 0, v0_3])), (a1, .inl (cy 4, 41, .inr (.inr (.inr (.inr g1_))))), (a2, .inr (4, [.ref a5, v2_1, v2_2, v2_3, v2_4])), (a3, .inr (4, [.ref a4, .int x3_1, .int x3_2, .int x3_3, .int x3_4])), (a4, .inl (cy 0, 12, .inl zI)), (a5, .inl (cy 0, 12, .inl zI))] := hD
  refine lv_aload_n hx hb dX0_nextState_0 rfl (lv_at hl 0 rfl) ?_
  refine va_get (D := D) (cl := vwCl) (ci := 0) (v := .ref a1) (C := RX0) (T := TX0) (N := 4) hx hb hts in_X0_nextState_X0 hown hK hP 0 rfl rfl 0 (by decide) (hts (.fieldLink RX0 13 "EightReasons$Acts" "states" "[LEightReasons$State;") (List.mem_of_getElem? (i := 1) (by decide +kernel))) (fun _ h9 => h9) rfl dX0_nextState_1 ?_
  refine lv_aload_n hx hb dX0_nextState_4 rfl (lv_at hl 0 rfl) ?_
  refine va_get (D := D) (cl := vwCl) (ci := 0) (v := .int 0) (C := RX0) (T := TX0) (N := 4) hx hb hts in_X0_nextState_X0 hown hK hP 0 rfl rfl 1 (by decide) (hts (.fieldLink RX0 18 "EightReasons$Acts" "at" "I") (List.mem_of_getElem? (i := 2) (by decide +kernel))) (fun _ h9 => h9) rfl dX0_nextState_5 ?_
  refine va_aldq (C := RX4) hx hb hK hP 1 4 rfl rfl (vin (by decide)) dX0_nextState_8 (tpr (v := a3) hf1_0 ?_)
  refine lv_astore_n (lv' := [(1, .ref a3), (0, .ref a0)]) hx hb dX0_nextState_9 rfl hl (by decide) rfl (fun ls hl => ?_)
  refine lv_aload_n hx hb dX0_nextState_10 rfl (lv_at hl 1 rfl) ?_
  refine lv_aload_n hx hb dX0_nextState_11 rfl (lv_at hl 1 rfl) ?_
  refine va_get (D := D) (cl := vwCl) (ci := 0) (v := .int 0) (C := RX0) (T := TX0) (N := 4) hx hb hts in_X0_nextState_X0 hown hK hP 0 rfl rfl 1 (by decide) (hts (.fieldLink RX0 18 "EightReasons$Acts" "at" "I") (List.mem_of_getElem? (i := 2) (by decide +kernel))) (fun _ h9 => h9) rfl dX0_nextState_12 ?_
  refine lv_iconst (v := 1) hx hb dX0_nextState_15 (by decide) ?_
  refine lv_iadd hx hb dX0_nextState_16 (tpi (v := 1) (by decide) ?_)
  refine lv_bipush (v := 41) hx hb dX0_nextState_17 (by decide) ?_
  refine lv_irem hx hb dX0_nextState_19 (by decide) (tpi (v := 1) (by decide) ?_)
  refine va_put (D := D) (cl := vwCl) (ci := 0) (v := .int 1) (ty := tyX0 1) (C := RX0) (T := TX0) (N := 4) hx hb hts in_X0_nextState_X0 tyX0 tyX0_ok nmX0 hown hK hP hD hS 0 rfl rfl 1 (by decide) (hts (.fieldLink RX0 18 "EightReasons$Acts" "at" "I") (List.mem_of_getElem? (i := 2) (by decide +kernel))) (fun _ h9 => h9) rfl (tyX0_ok 1 (by decide)) rfl rfl (Nat.le_of_ble_eq_true rfl) dX0_nextState_20 (fun H locs hP hD hS => ?_)
  have hP : va_P D vwCl [(a0, .inr (0, [.ref a1, .int 1, .int 0, v0_3])), (a1, .inl (cy 4, 41, .inr (.inr (.inr (.inr g1_))))), (a2, .inr (4, [.ref a5, v2_1, v2_2, v2_3, v2_4])), (a3, .inr (4, [.ref a4, .int x3_1, .int x3_2, .int x3_3, .int x3_4])), (a4, .inl (cy 0, 12, .inl zI)), (a5, .inl (cy 0, 12, .inl zI))] H := hP
  have hD : va_D A [(a0, .inr (0, [.ref a1, .int 1, .int 0, v0_3])), (a1, .inl (cy 4, 41, .inr (.inr (.inr (.inr g1_))))), (a2, .inr (4, [.ref a5, v2_1, v2_2, v2_3, v2_4])), (a3, .inr (4, [.ref a4, .int x3_1, .int x3_2, .int x3_3, .int x3_4])), (a4, .inl (cy 0, 12, .inl zI)), (a5, .inl (cy 0, 12, .inl zI))] := hD
  refine lv_aload_n hx hb dX0_nextState_23 rfl (lv_at hl 1 rfl) ?_
  refine va_get (D := D) (cl := vwCl) (ci := 0) (v := .ref a1) (C := RX0) (T := TX0) (N := 4) hx hb hts in_X0_nextState_X0 hown hK hP 0 rfl rfl 0 (by decide) (hts (.fieldLink RX0 13 "EightReasons$Acts" "states" "[LEightReasons$State;") (List.mem_of_getElem? (i := 1) (by decide +kernel))) (fun _ h9 => h9) rfl dX0_nextState_24 ?_
  refine lv_aload_n hx hb dX0_nextState_27 rfl (lv_at hl 1 rfl) ?_
  refine va_get (D := D) (cl := vwCl) (ci := 0) (v := .int 1) (C := RX0) (T := TX0) (N := 4) hx hb hts in_X0_nextState_X0 hown hK hP 0 rfl rfl 1 (by decide) (hts (.fieldLink RX0 18 "EightReasons$Acts" "at" "I") (List.mem_of_getElem? (i := 2) (by decide +kernel))) (fun _ h9 => h9) rfl dX0_nextState_28 ?_
  refine va_aldq (C := RX4) hx hb hK hP 1 4 rfl rfl (vin (by decide)) dX0_nextState_31 (tpr (v := a2) hf1_1 ?_)
  refine lv_aload_n hx hb dX0_nextState_32 rfl (lv_at hl 0 rfl) ?_
  refine clVV (As := [.ref a3]) (rest := []) (wr := [(a0, .inr (0, [.ref a1, .int 1, .int 0, v0_3])), (a1, .inl (cy 4, 41, .inr (.inr (.inr (.inr g1_)))))]) ⟨hx, hb, hml, hown, hts⟩ hK hP hD hS hA (k_X4_copy_0 l D cy a2 a3 a4 a5 (v2_1) (v2_2) (v2_3) (v2_4) x3_1 x3_2 x3_3 x3_4 _) (cwV 1 hts gX0_nextState_X4_copy rfl rfl rfl (by decide +kernel) ⟨Nat.le_of_ble_eq_true rfl, Nat.le_of_ble_eq_true rfl⟩) 2 4 rfl rfl [2, 3, 4, 5] [0, 1] rfl rfl rfl rfl (by decide) rfl hl.1 rfl (Nat.le_of_ble_eq_true rfl) dX0_nextState_33 ⟨Nat.le_of_ble_eq_true rfl, Nat.le_of_ble_eq_true rfl⟩ rfl rfl (fun _ H locs _ hP hD hS => ?_)
  have hP : va_P D vwCl [(a0, .inr (0, [.ref a1, .int 1, .int 0, v0_3])), (a1, .inl (cy 4, 41, .inr (.inr (.inr (.inr g1_))))), (a2, .inr (4, [.ref a5, .int x3_1, .int x3_2, .int x3_3, .int x3_4])), (a3, .inr (4, [.ref a4, .int x3_1, .int x3_2, .int x3_3, .int x3_4])), (a4, .inl (cy 0, 12, .inl zI)), (a5, .inl (cy 0, 12, .inl zI))] H := hP
  have hD : va_D A [(a0, .inr (0, [.ref a1, .int 1, .int 0, v0_3])), (a1, .inl (cy 4, 41, .inr (.inr (.inr (.inr g1_))))), (a2, .inr (4, [.ref a5, .int x3_1, .int x3_2, .int x3_3, .int x3_4])), (a3, .inr (4, [.ref a4, .int x3_1, .int x3_2, .int x3_3, .int x3_4])), (a4, .inl (cy 0, 12, .inl zI)), (a5, .inl (cy 0, 12, .inl zI))] := hD
  refine lv_aload_n hx hb dX0_nextState_36 rfl (lv_at hl 1 rfl) ?_
  refine lv_aload_n hx hb dX0_nextState_37 rfl (lv_at hl 1 rfl) ?_
  refine va_get (D := D) (cl := vwCl) (ci := 0) (v := .int 0) (C := RX0) (T := TX0) (N := 4) hx hb hts in_X0_nextState_X0 hown hK hP 0 rfl rfl 2 (by decide) (hts (.fieldLink RX0 26 "EightReasons$Acts" "undoable" "I") (List.mem_of_getElem? (i := 3) (by decide +kernel))) (fun _ h9 => h9) rfl dX0_nextState_38 ?_
  refine lv_iconst (v := 1) hx hb dX0_nextState_41 (by decide) ?_
  refine lv_iadd hx hb dX0_nextState_42 (tpi (v := 1) (by decide) ?_)
  refine lv_bipush (v := 40) hx hb dX0_nextState_43 (by decide) ?_
  refine va_mmin hx hb (hml.trans hl.1.symm) hown (hts (.methodLink RX0 29 Lib.Math.min.name) (List.mem_of_getElem? (i := 4) (by decide +kernel))) (hts (.static Lib.Math.min.name) (List.mem_of_getElem? (i := 5) (by decide +kernel))) (hts (.initialized "java/lang/Math") (List.mem_of_getElem? (i := 6) (by decide +kernel))) (hts (.code Lib.Math.min.name Lib.Math.min.code 2 (some .int)) (List.mem_of_getElem? (i := 7) (by decide +kernel))) (Nat.le_of_ble_eq_true rfl) (Nat.le_of_ble_eq_true rfl) (Nat.le_of_ble_eq_true rfl) (Nat.le_of_ble_eq_true rfl) dX0_nextState_45 (tpi (v := 1) (by decide) ?_)
  refine va_put (D := D) (cl := vwCl) (ci := 0) (v := .int 1) (ty := tyX0 2) (C := RX0) (T := TX0) (N := 4) hx hb hts in_X0_nextState_X0 tyX0 tyX0_ok nmX0 hown hK hP hD hS 0 rfl rfl 2 (by decide) (hts (.fieldLink RX0 26 "EightReasons$Acts" "undoable" "I") (List.mem_of_getElem? (i := 3) (by decide +kernel))) (fun _ h9 => h9) rfl (tyX0_ok 2 (by decide)) rfl rfl (Nat.le_of_ble_eq_true rfl) dX0_nextState_48 (fun H locs hP hD hS => ?_)
  have hP : va_P D vwCl [(a0, .inr (0, [.ref a1, .int 1, .int 1, v0_3])), (a1, .inl (cy 4, 41, .inr (.inr (.inr (.inr g1_))))), (a2, .inr (4, [.ref a5, .int x3_1, .int x3_2, .int x3_3, .int x3_4])), (a3, .inr (4, [.ref a4, .int x3_1, .int x3_2, .int x3_3, .int x3_4])), (a4, .inl (cy 0, 12, .inl zI)), (a5, .inl (cy 0, 12, .inl zI))] H := hP
  have hD : va_D A [(a0, .inr (0, [.ref a1, .int 1, .int 1, v0_3])), (a1, .inl (cy 4, 41, .inr (.inr (.inr (.inr g1_))))), (a2, .inr (4, [.ref a5, .int x3_1, .int x3_2, .int x3_3, .int x3_4])), (a3, .inr (4, [.ref a4, .int x3_1, .int x3_2, .int x3_3, .int x3_4])), (a4, .inl (cy 0, 12, .inl zI)), (a5, .inl (cy 0, 12, .inl zI))] := hD
  refine lv_aload_n hx hb dX0_nextState_51 rfl (lv_at hl 1 rfl) ?_
  refine lv_iconst (v := 0) hx hb dX0_nextState_52 (by decide) ?_
  refine va_put (D := D) (cl := vwCl) (ci := 0) (v := .int 0) (ty := tyX0 3) (C := RX0) (T := TX0) (N := 4) hx hb hts in_X0_nextState_X0 tyX0 tyX0_ok nmX0 hown hK hP hD hS 0 rfl rfl 3 (by decide) (hts (.fieldLink RX0 35 "EightReasons$Acts" "redoable" "I") (List.mem_of_getElem? (i := 8) (by decide +kernel))) (fun _ h9 => h9) rfl (tyX0_ok 3 (by decide)) rfl rfl (Nat.le_of_ble_eq_true rfl) dX0_nextState_53 (fun H locs hP hD hS => ?_)
  have hP : va_P D vwCl [(a0, .inr (0, [.ref a1, .int 1, .int 1, .int 0])), (a1, .inl (cy 4, 41, .inr (.inr (.inr (.inr g1_))))), (a2, .inr (4, [.ref a5, .int x3_1, .int x3_2, .int x3_3, .int x3_4])), (a3, .inr (4, [.ref a4, .int x3_1, .int x3_2, .int x3_3, .int x3_4])), (a4, .inl (cy 0, 12, .inl zI)), (a5, .inl (cy 0, 12, .inl zI))] H := hP
  have hD : va_D A [(a0, .inr (0, [.ref a1, .int 1, .int 1, .int 0])), (a1, .inl (cy 4, 41, .inr (.inr (.inr (.inr g1_))))), (a2, .inr (4, [.ref a5, .int x3_1, .int x3_2, .int x3_3, .int x3_4])), (a3, .inr (4, [.ref a4, .int x3_1, .int x3_2, .int x3_3, .int x3_4])), (a4, .inl (cy 0, 12, .inl zI)), (a5, .inl (cy 0, 12, .inl zI))] := hD
  refine lv_aload_n hx hb dX0_nextState_56 rfl (lv_at hl 1 rfl) ?_
  refine va_get (D := D) (cl := vwCl) (ci := 0) (v := .ref a1) (C := RX0) (T := TX0) (N := 4) hx hb hts in_X0_nextState_X0 hown hK hP 0 rfl rfl 0 (by decide) (hts (.fieldLink RX0 13 "EightReasons$Acts" "states" "[LEightReasons$State;") (List.mem_of_getElem? (i := 1) (by decide +kernel))) (fun _ h9 => h9) rfl dX0_nextState_57 ?_
  refine lv_aload_n hx hb dX0_nextState_60 rfl (lv_at hl 1 rfl) ?_
  refine va_get (D := D) (cl := vwCl) (ci := 0) (v := .int 1) (C := RX0) (T := TX0) (N := 4) hx hb hts in_X0_nextState_X0 hown hK hP 0 rfl rfl 1 (by decide) (hts (.fieldLink RX0 18 "EightReasons$Acts" "at" "I") (List.mem_of_getElem? (i := 2) (by decide +kernel))) (fun _ h9 => h9) rfl dX0_nextState_61 ?_
  refine va_aldq (C := RX4) hx hb hK hP 1 4 rfl rfl (vin (by decide)) dX0_nextState_64 (tpr (v := a2) hf1_1 ?_)
  exact rtR hx hb hr hlk hP hD hS () [0, 1, 2, 3, 4, 5] rfl rfl trivial rfl dX0_nextState_65
set_option maxHeartbeats 4000000 in
set_option maxRecDepth 100000 in
theorem k_X4_pass_0 (l : Launch) (D : va_G) (cy : Nat → ClassId) (a0 a1 : Nat) (v0_0 : Value) (v0_1 : Value) (v0_2 : Value) (v0_4 : Value) (v1_0 : Value) (v1_1 : Value) (v1_3 : Value) (v1_4 : Value) (v1_5 : Value) (v1_6 : Value) (v1_7 : Value) (v1_8 : Value) (v1_9 : Value) (v1_10 : Value) (v1_11 : Value) (sz : Nat) : CtI l yX4_pass wsX4_pass 0 0 [.ref a0, .ref a1] D cy [(a0, .inr (4, [v0_0, v0_1, v0_2, .int 0, v0_4])), (a1, .inr (5, [v1_0, v1_1, .int 0, v1_3, v1_4, v1_5, v1_6, v1_7, v1_8, v1_9, v1_10, v1_11]))] sz 0 0 (fun (r : Int32) (_ : Unit) => r = 0) (fun _ => [(a0, .inr (4, [v0_0, v0_1, v0_2, .int 1, v0_4])), (a1, .inr (5, [v1_0, v1_1, .int 0, v1_3, v1_4, v1_5, v1_6, v1_7, v1_8, v1_9, v1_10, v1_11]))]) := by
  refine CtI.of (cc := cX4_pass) (maxL := 4) (ty := .int) (own := RX4) (by decide) rfl (Nat.le_of_ble_eq_true rfl) rfl ?_
  intro p e s m below meth c A ls hx hb hr hml hts hown hlk hK hP hD hS hA hl
  have hl : lv_has ls 4 [(0, .ref a0), (1, .ref a1)] := hl
  refine st0 (fun H locs hP hS => ?_) hP hS
  have hP : va_P D vwCl [(a0, .inr (4, [v0_0, v0_1, v0_2, .int 0, v0_4])), (a1, .inr (5, [v1_0, v1_1, .int 0, v1_3, v1_4, v1_5, v1_6, v1_7, v1_8, v1_9, v1_10, v1_11]))] H := hP
  have hD : va_D A [(a0, .inr (4, [v0_0, v0_1, v0_2, .int 0, v0_4])), (a1, .inr (5, [v1_0, v1_1, .int 0, v1_3, v1_4, v1_5, v1_6, v1_7, v1_8, v1_9, v1_10, v1_11]))] := hD
  refine lv_iconst (v := 0) hx hb dX4_pass_0 (by decide) ?_
  refine lv_istore_n (lv' := [(2, .int 0), (0, .ref a0), (1, .ref a1)]) hx hb dX4_pass_1 rfl hl (by decide) rfl (fun ls hl => ?_)
  refine lv_aload_n hx hb dX4_pass_2 rfl (lv_at hl 1 rfl) ?_
  refine lv_dup hx hb dX4_pass_3 rfl ?_
  refine va_get (D := D) (cl := vwCl) (ci := 4) (v := .int 0) (C := RX4) (T := TX4) (N := 5) hx hb hts in_X4_pass_X4 hown hK hP 0 rfl rfl 3 (by decide) (hts (.fieldLink RX4 35 "EightReasons$State" "day" "I") (List.mem_of_getElem? (i := 1) (by decide +kernel))) (fun _ h9 => h9) rfl dX4_pass_4 ?_
  refine lv_iconst (v := 1) hx hb dX4_pass_7 (by decide) ?_
  refine lv_iadd hx hb dX4_pass_8 (tpi (v := 1) (by decide) ?_)
  refine va_put (D := D) (cl := vwCl) (ci := 4) (v := .int 1) (ty := tyX4 3) (C := RX4) (T := TX4) (N := 5) hx hb hts in_X4_pass_X4 tyX4 tyX4_ok nmX4 hown hK hP hD hS 0 rfl rfl 3 (by decide) (hts (.fieldLink RX4 35 "EightReasons$State" "day" "I") (List.mem_of_getElem? (i := 1) (by decide +kernel))) (fun _ h9 => h9) rfl (tyX4_ok 3 (by decide)) rfl rfl (Nat.le_of_ble_eq_true rfl) dX4_pass_9 (fun H locs hP hD hS => ?_)
  have hP : va_P D vwCl [(a0, .inr (4, [v0_0, v0_1, v0_2, .int 1, v0_4])), (a1, .inr (5, [v1_0, v1_1, .int 0, v1_3, v1_4, v1_5, v1_6, v1_7, v1_8, v1_9, v1_10, v1_11]))] H := hP
  have hD : va_D A [(a0, .inr (4, [v0_0, v0_1, v0_2, .int 1, v0_4])), (a1, .inr (5, [v1_0, v1_1, .int 0, v1_3, v1_4, v1_5, v1_6, v1_7, v1_8, v1_9, v1_10, v1_11]))] := hD
  refine lv_iconst (v := 0) hx hb dX4_pass_12 (by decide) ?_
  refine lv_istore_n (lv' := [(3, .int 0), (2, .int 0), (0, .ref a0), (1, .ref a1)]) hx hb dX4_pass_13 rfl hl (by decide) rfl (fun ls hl => ?_)
  refine lv_iload_n hx hb dX4_pass_14 rfl (lv_at hl 0 rfl) ?_
  refine lv_aload_n hx hb dX4_pass_15 rfl (lv_at hl 3 rfl) ?_
  refine va_get (D := D) (cl := vwCl) (ci := 5) (v := .int 0) (C := RX5) (T := TX5) (N := 12) hx hb hts in_X4_pass_X5 hown hK hP 1 rfl rfl 2 (by decide) (hts (.fieldLink RX4 44 "EightReasons$Suit" "strands" "I") (List.mem_of_getElem? (i := 2) (by decide +kernel))) (fun _ h9 => h9) rfl dX4_pass_16 ?_
  refine lv_icmp_ge (tgt := 97) hx hb dX4_pass_19 (by decide) (fun _ => ?_) (fun c => absurd (by decide) c)
  refine lv_iload_n hx hb dX4_pass_97 rfl (lv_at hl 1 rfl) ?_
  exact rtI hx hb hr hlk rfl hP hD hS () [0, 1] rfl rfl rfl dX4_pass_98
set_option maxHeartbeats 4000000 in
set_option maxRecDepth 100000 in
theorem k_X8_day_0 (l : Launch) (D : va_G) (cy : Nat → ClassId) (a0 a1 a2 a3 a4 a5 a6 a7 : Nat) (v0_0 : Value) (v0_3 : Value) (v0_4 : Value) (v0_5 : Value) (v0_6 : Value) (v0_7 : Value) (v0_8 : Value) (v0_9 : Value) (v0_10 : Value) (v0_11 : Value) (v0_12 : Value) (v1_3 : Value) (g2_ : Nat → Option Nat) (x3_1 : Int32) (x3_2 : Int32) (x3_4 : Int32) (v4_1 : Value) (v4_2 : Value) (x4_3 : Int32) (v4_4 : Value) (v7_0 : Value) (v7_1 : Value) (v7_3 : Value) (v7_4 : Value) (v7_5 : Value) (v7_6 : Value) (v7_7 : Value) (v7_8 : Value) (v7_9 : Value) (v7_10 : Value) (v7_11 : Value) (sz : Nat) (hf2_0 : g2_ 0 = some a3) (hf2_1 : g2_ 1 = some a4) : CtI l yX8_day wsX8_day 3 102 [.ref a0] D cy [(a0, .inr (8, [v0_0, .ref a7, .ref a1, v0_3, v0_4, v0_5, v0_6, v0_7, v0_8, v0_9, v0_10, v0_11, v0_12])), (a1, .inr (0, [.ref a2, .int 0, .int 0, v1_3])), (a2, .inl (cy 4, 41, .inr (.inr (.inr (.inr g2_))))), (a3, .inr (4, [.ref a5, .int x3_1, .int x3_2, .int 0, .int x3_4])), (a4, .inr (4, [.ref a6, v4_1, v4_2, .int x4_3, v4_4])), (a5, .inl (cy 0, 12, .inl zI)), (a6, .inl (cy 0, 12, .inl zI)), (a7, .inr (5, [v7_0, v7_1, .int 0, v7_3, v7_4, v7_5, v7_6, v7_7, v7_8, v7_9, v7_10, v7_11]))] sz 0 0 (fun (r : Int32) (_ : Unit) => r = 0) (fun _ => []) := by
  refine CtI.of (cc := cX8_day) (maxL := 1) (ty := .int) (own := RX8) (by decide) rfl (Nat.le_of_ble_eq_true rfl) rfl ?_
  intro p e s m below meth c A ls hx hb hr hml hts hown hlk hK hP hD hS hA hl
  have hl : lv_has ls 1 [(0, .ref a0)] := hl
  refine st0 (fun H locs hP hS => ?_) hP hS
  have hP : va_P D vwCl [(a0, .inr (8, [v0_0, .ref a7, .ref a1, v0_3, v0_4, v0_5, v0_6, v0_7, v0_8, v0_9, v0_10, v0_11, v0_12])), (a1, .inr (0, [.ref a2, .int 0, .int 0, v1_3])), (a2, .inl (cy 4, 41, .inr (.inr (.inr (.inr g2_))))), (a3, .inr (4, [.ref a5, .int x3_1, .int x3_2, .int 0, .int x3_4])), (a4, .inr (4, [.ref a6, v4_1, v4_2, .int x4_3, v4_4])), (a5, .inl (cy 0, 12, .inl zI)), (a6, .inl (cy 0, 12, .inl zI)), (a7, .inr (5, [v7_0, v7_1, .int 0, v7_3, v7_4, v7_5, v7_6, v7_7, v7_8, v7_9, v7_10, v7_11]))] H := hP
  have hD : va_D A [(a0, .inr (8, [v0_0, .ref a7, .ref a1, v0_3, v0_4, v0_5, v0_6, v0_7, v0_8, v0_9, v0_10, v0_11, v0_12])), (a1, .inr (0, [.ref a2, .int 0, .int 0, v1_3])), (a2, .inl (cy 4, 41, .inr (.inr (.inr (.inr g2_))))), (a3, .inr (4, [.ref a5, .int x3_1, .int x3_2, .int 0, .int x3_4])), (a4, .inr (4, [.ref a6, v4_1, v4_2, .int x4_3, v4_4])), (a5, .inl (cy 0, 12, .inl zI)), (a6, .inl (cy 0, 12, .inl zI)), (a7, .inr (5, [v7_0, v7_1, .int 0, v7_3, v7_4, v7_5, v7_6, v7_7, v7_8, v7_9, v7_10, v7_11]))] := hD
  refine lv_aload_n hx hb dX8_day_0 rfl (lv_at hl 0 rfl) ?_
  refine clVR (As := []) (rest := []) (wr := [(a3, .inr (4, [.ref a5, .int x3_1, .int x3_2, .int 0, .int x3_4])), (a4, .inr (4, [.ref a6, v4_1, v4_2, .int x4_3, v4_4])), (a5, .inl (cy 0, 12, .inl zI)), (a6, .inl (cy 0, 12, .inl zI)), (a7, .inr (5, [v7_0, v7_1, .int 0, v7_3, v7_4, v7_5, v7_6, v7_7, v7_8, v7_9, v7_10, v7_11]))]) ⟨hx, hb, hml, hown, hts⟩ hK hP hD hS hA (k_X8_now_0 l D cy a0 a1 a2 a3 (v0_0) (.ref a7) (v0_3) (v0_4) (v0_5) (v0_6) (v0_7) (v0_8) (v0_9) (v0_10) (v0_11) (v0_12) (.int 0) (v1_3) g2_ _ hf2_0) (cwV 0 hts gX8_day_X8_now rfl rfl rfl (by decide +kernel) ⟨Nat.le_of_ble_eq_true rfl, Nat.le_of_ble_eq_true rfl⟩) 0 8 rfl rfl [0, 1, 2] [3, 4, 5, 6, 7] rfl rfl rfl rfl (by decide) rfl hl.1 rfl (Nat.le_of_ble_eq_true rfl) dX8_day_1 ⟨Nat.le_of_ble_eq_true rfl, Nat.le_of_ble_eq_true rfl⟩ rfl rfl (fun _ H locs _ hP hD hS => ?_)
  have hP : va_P D vwCl [(a3, .inr (4, [.ref a5, .int x3_1, .int x3_2, .int 0, .int x3_4])), (a4, .inr (4, [.ref a6, v4_1, v4_2, .int x4_3, v4_4])), (a5, .inl (cy 0, 12, .inl zI)), (a6, .inl (cy 0, 12, .inl zI)), (a7, .inr (5, [v7_0, v7_1, .int 0, v7_3, v7_4, v7_5, v7_6, v7_7, v7_8, v7_9, v7_10, v7_11])), (a0, .inr (8, [v0_0, .ref a7, .ref a1, v0_3, v0_4, v0_5, v0_6, v0_7, v0_8, v0_9, v0_10, v0_11, v0_12])), (a1, .inr (0, [.ref a2, .int 0, .int 0, v1_3])), (a2, .inl (cy 4, 41, .inr (.inr (.inr (.inr g2_)))))] H := hP
  have hD : va_D A [(a3, .inr (4, [.ref a5, .int x3_1, .int x3_2, .int 0, .int x3_4])), (a4, .inr (4, [.ref a6, v4_1, v4_2, .int x4_3, v4_4])), (a5, .inl (cy 0, 12, .inl zI)), (a6, .inl (cy 0, 12, .inl zI)), (a7, .inr (5, [v7_0, v7_1, .int 0, v7_3, v7_4, v7_5, v7_6, v7_7, v7_8, v7_9, v7_10, v7_11])), (a0, .inr (8, [v0_0, .ref a7, .ref a1, v0_3, v0_4, v0_5, v0_6, v0_7, v0_8, v0_9, v0_10, v0_11, v0_12])), (a1, .inr (0, [.ref a2, .int 0, .int 0, v1_3])), (a2, .inl (cy 4, 41, .inr (.inr (.inr (.inr g2_)))))] := hD
  refine W.eq (g2 := F0 m 4 ls (.ref a3 :: [])) rfl ?_
  refine va_get (D := D) (cl := vwCl) (ci := 4) (v := .int 0) (C := RX4) (T := TX4) (N := 5) hx hb hts in_X8_day_X4 hown hK hP 0 rfl rfl 3 (by decide) (hts (.fieldLink RX8 160 "EightReasons$State" "day" "I") (List.mem_of_getElem? (i := 1) (by decide +kernel))) (fun _ h9 => h9) rfl dX8_day_4 ?_
  refine lv_sipush (v := 999) hx hb dX8_day_7 (by decide) ?_
  refine lv_icmp_lt (tgt := 15) hx hb dX8_day_10 (by decide) (fun _ => ?_) (fun c => absurd (by decide) c)
  refine lv_aload_n hx hb dX8_day_15 rfl (lv_at hl 0 rfl) ?_
  refine va_get (D := D) (cl := vwCl) (ci := 8) (v := .ref a1) (C := RX8) (T := TX8) (N := 13) hx hb hts in_X8_day_X8 hown hK hP 5 rfl rfl 2 (by decide) (hts (.fieldLink RX8 26 "EightReasons" "acts" "LEightReasons$Acts;") (List.mem_of_getElem? (i := 2) (by decide +kernel))) (fun _ h9 => h9) rfl dX8_day_16 ?_
  refine clVR (As := []) (rest := []) (wr := [(a7, .inr (5, [v7_0, v7_1, .int 0, v7_3, v7_4, v7_5, v7_6, v7_7, v7_8, v7_9, v7_10, v7_11])), (a0, .inr (8, [v0_0, .ref a7, .ref a1, v0_3, v0_4, v0_5, v0_6, v0_7, v0_8, v0_9, v0_10, v0_11, v0_12]))]) ⟨hx, hb, hml, hown, hts⟩ hK hP hD hS hA (k_X0_nextState_0 l D cy a1 a2 a4 a3 a5 a6 (v1_3) g2_ (v4_1) (v4_2) (.int x4_3) (v4_4) x3_1 x3_2 0 x3_4 _ hf2_0 hf2_1) (cwV 0 hts gX8_day_X0_nextState rfl rfl rfl (by decide +kernel) ⟨Nat.le_of_ble_eq_true rfl, Nat.le_of_ble_eq_true rfl⟩) 6 0 rfl rfl [6, 7, 1, 0, 2, 3] [4, 5] rfl rfl rfl rfl (by decide) rfl hl.1 rfl (Nat.le_of_ble_eq_true rfl) dX8_day_19 ⟨Nat.le_of_ble_eq_true rfl, Nat.le_of_ble_eq_true rfl⟩ rfl rfl (fun _ H locs _ hP hD hS => ?_)
  have hP : va_P D vwCl [(a7, .inr (5, [v7_0, v7_1, .int 0, v7_3, v7_4, v7_5, v7_6, v7_7, v7_8, v7_9, v7_10, v7_11])), (a0, .inr (8, [v0_0, .ref a7, .ref a1, v0_3, v0_4, v0_5, v0_6, v0_7, v0_8, v0_9, v0_10, v0_11, v0_12])), (a1, .inr (0, [.ref a2, .int 1, .int 1, .int 0])), (a2, .inl (cy 4, 41, .inr (.inr (.inr (.inr g2_))))), (a4, .inr (4, [.ref a6, .int x3_1, .int x3_2, .int 0, .int x3_4])), (a3, .inr (4, [.ref a5, .int x3_1, .int x3_2, .int 0, .int x3_4])), (a5, .inl (cy 0, 12, .inl zI)), (a6, .inl (cy 0, 12, .inl zI))] H := hP
  have hD : va_D A [(a7, .inr (5, [v7_0, v7_1, .int 0, v7_3, v7_4, v7_5, v7_6, v7_7, v7_8, v7_9, v7_10, v7_11])), (a0, .inr (8, [v0_0, .ref a7, .ref a1, v0_3, v0_4, v0_5, v0_6, v0_7, v0_8, v0_9, v0_10, v0_11, v0_12])), (a1, .inr (0, [.ref a2, .int 1, .int 1, .int 0])), (a2, .inl (cy 4, 41, .inr (.inr (.inr (.inr g2_))))), (a4, .inr (4, [.ref a6, .int x3_1, .int x3_2, .int 0, .int x3_4])), (a3, .inr (4, [.ref a5, .int x3_1, .int x3_2, .int 0, .int x3_4])), (a5, .inl (cy 0, 12, .inl zI)), (a6, .inl (cy 0, 12, .inl zI))] := hD
  refine W.eq (g2 := F0 m 22 ls (.ref a4 :: [])) rfl ?_
  refine lv_aload_n hx hb dX8_day_22 rfl (lv_at hl 0 rfl) ?_
  refine va_get (D := D) (cl := vwCl) (ci := 8) (v := .ref a7) (C := RX8) (T := TX8) (N := 13) hx hb hts in_X8_day_X8 hown hK hP 1 rfl rfl 1 (by decide) (hts (.fieldLink RX8 19 "EightReasons" "told" "LEightReasons$Suit;") (List.mem_of_getElem? (i := 3) (by decide +kernel))) (fun _ h9 => h9) rfl dX8_day_23 ?_
  refine clVI (As := [.ref a7]) (rest := []) (wr := [(a0, .inr (8, [v0_0, .ref a7, .ref a1, v0_3, v0_4, v0_5, v0_6, v0_7, v0_8, v0_9, v0_10, v0_11, v0_12])), (a1, .inr (0, [.ref a2, .int 1, .int 1, .int 0])), (a2, .inl (cy 4, 41, .inr (.inr (.inr (.inr g2_))))), (a3, .inr (4, [.ref a5, .int x3_1, .int x3_2, .int 0, .int x3_4])), (a5, .inl (cy 0, 12, .inl zI)), (a6, .inl (cy 0, 12, .inl zI))]) ⟨hx, hb, hml, hown, hts⟩ hK hP hD hS hA (k_X4_pass_0 l D cy a4 a7 (.ref a6) (.int x3_1) (.int x3_2) (.int x3_4) (v7_0) (v7_1) (v7_3) (v7_4) (v7_5) (v7_6) (v7_7) (v7_8) (v7_9) (v7_10) (v7_11) _) (cwV 1 hts gX8_day_X4_pass rfl rfl rfl (by decide +kernel) ⟨Nat.le_of_ble_eq_true rfl, Nat.le_of_ble_eq_true rfl⟩) 4 4 rfl rfl [4, 0] [1, 2, 3, 5, 6, 7] rfl rfl rfl rfl (by decide) rfl hl.1 rfl (Nat.le_of_ble_eq_true rfl) dX8_day_26 ⟨Nat.le_of_ble_eq_true rfl, Nat.le_of_ble_eq_true rfl⟩ rfl rfl (fun r _ H locs hw hP hD hS => ?_)
  have hP : va_P D vwCl [(a0, .inr (8, [v0_0, .ref a7, .ref a1, v0_3, v0_4, v0_5, v0_6, v0_7, v0_8, v0_9, v0_10, v0_11, v0_12])), (a1, .inr (0, [.ref a2, .int 1, .int 1, .int 0])), (a2, .inl (cy 4, 41, .inr (.inr (.inr (.inr g2_))))), (a3, .inr (4, [.ref a5, .int x3_1, .int x3_2, .int 0, .int x3_4])), (a5, .inl (cy 0, 12, .inl zI)), (a6, .inl (cy 0, 12, .inl zI)), (a4, .inr (4, [.ref a6, .int x3_1, .int x3_2, .int 1, .int x3_4])), (a7, .inr (5, [v7_0, v7_1, .int 0, v7_3, v7_4, v7_5, v7_6, v7_7, v7_8, v7_9, v7_10, v7_11]))] H := hP
  have hD : va_D A [(a0, .inr (8, [v0_0, .ref a7, .ref a1, v0_3, v0_4, v0_5, v0_6, v0_7, v0_8, v0_9, v0_10, v0_11, v0_12])), (a1, .inr (0, [.ref a2, .int 1, .int 1, .int 0])), (a2, .inl (cy 4, 41, .inr (.inr (.inr (.inr g2_))))), (a3, .inr (4, [.ref a5, .int x3_1, .int x3_2, .int 0, .int x3_4])), (a5, .inl (cy 0, 12, .inl zI)), (a6, .inl (cy 0, 12, .inl zI)), (a4, .inr (4, [.ref a6, .int x3_1, .int x3_2, .int 1, .int x3_4])), (a7, .inr (5, [v7_0, v7_1, .int 0, v7_3, v7_4, v7_5, v7_6, v7_7, v7_8, v7_9, v7_10, v7_11]))] := hD
  obtain rfl : r = 0 := hw
  exact rtI hx hb hr hlk rfl hP hD hS () [] rfl rfl rfl dX8_day_29
set_option maxHeartbeats 4000000 in
set_option maxRecDepth 100000 in
theorem k_X9_keepAct_0 (l : Launch) (D : va_G) (cy : Nat → ClassId) (a0 a1 a2 : Nat) (v0_0 : Value) (v0_1 : Value) (v0_2 : Value) (v0_3 : Value) (v0_4 : Value) (v0_5 : Value) (v0_6 : Value) (v0_7 : Value) (v0_8 : Value) (v0_9 : Value) (v0_10 : Value) (v0_11 : Value) (v0_12 : Value) (v0_13 : Value) (v0_14 : Value) (v0_15 : Value) (v0_16 : Value) (v0_17 : Value) (v0_18 : Value) (v0_19 : Value) (v0_20 : Value) (v0_21 : Value) (v0_22 : Value) (v0_23 : Value) (v0_24 : Value) (v0_25 : Value) (v0_26 : Value) (v0_27 : Value) (v0_28 : Value) (v0_29 : Value) (v0_30 : Value) (v0_31 : Value) (v0_32 : Value) (v0_33 : Value) (v0_34 : Value) (v0_35 : Value) (v0_36 : Value) (v0_38 : Value) (v0_39 : Value) (v0_40 : Value) (v0_41 : Value) (v0_42 : Value) (v0_43 : Value) (v0_46 : Value) (v0_47 : Value) (v0_48 : Value) (v0_49 : Value) (v0_50 : Value) (v0_51 : Value) (v0_52 : Value) (v0_53 : Value) (v0_54 : Value) (v0_55 : Value) (v0_56 : Value) (v0_57 : Value) (v0_58 : Value) (v0_59 : Value) (v0_60 : Value) (v0_61 : Value) (v0_62 : Value) (v0_63 : Value) (sz : Nat) : CtV l yX9_keepAct wsX9_keepAct 0 0 [.ref a0] D cy [(a0, .inr (9, [v0_0, v0_1, v0_2, v0_3, v0_4, v0_5, v0_6, v0_7, v0_8, v0_9, v0_10, v0_11, v0_12, v0_13, v0_14, v0_15, v0_16, v0_17, v0_18, v0_19, v0_20, v0_21, v0_22, v0_23, v0_24, v0_25, v0_26, v0_27, v0_28, v0_29, v0_30, v0_31, v0_32, v0_33, v0_34, v0_35, v0_36, .ref a1, v0_38, v0_39, v0_40, v0_41, v0_42, v0_43, .ref a2, .int 0, v0_46, v0_47, v0_48, v0_49, v0_50, v0_51, v0_52, v0_53, v0_54, v0_55, v0_56, v0_57, v0_58, v0_59, v0_60, v0_61, v0_62, v0_63])), (a1, .inl (cy 0, 16, .inl zI)), (a2, .inl (cy 0, 656, .inl zI))] sz 0 0 (fun (_ : Unit) => True) (fun _ => [(a0, .inr (9, [v0_0, v0_1, v0_2, v0_3, v0_4, v0_5, v0_6, v0_7, v0_8, v0_9, v0_10, v0_11, v0_12, v0_13, v0_14, v0_15, v0_16, v0_17, v0_18, v0_19, v0_20, v0_21, v0_22, v0_23, v0_24, v0_25, v0_26, v0_27, v0_28, v0_29, v0_30, v0_31, v0_32, v0_33, v0_34, v0_35, v0_36, .ref a1, v0_38, v0_39, v0_40, v0_41, v0_42, v0_43, .ref a2, .int 1, .int 0, v0_47, v0_48, v0_49, v0_50, v0_51, v0_52, v0_53, v0_54, v0_55, v0_56, v0_57, v0_58, v0_59, v0_60, v0_61, v0_62, v0_63])), (a1, .inl (cy 0, 16, .inl zI)), (a2, .inl (cy 0, 656, .inl zI))]) := by
  refine CtV.of (cc := cX9_keepAct) (maxL := 2) (own := RX9) (by decide) rfl (Nat.le_of_ble_eq_true rfl) rfl ?_
  intro p e s m below meth c A ls hx hb hr hml hts hown hlk hK hP hD hS hA hl
  have hl : lv_has ls 2 [(0, .ref a0)] := hl
  refine st0 (fun H locs hP hS => ?_) hP hS
  have hP : va_P D vwCl [(a0, .inr (9, [v0_0, v0_1, v0_2, v0_3, v0_4, v0_5, v0_6, v0_7, v0_8, v0_9, v0_10, v0_11, v0_12, v0_13, v0_14, v0_15, v0_16, v0_17, v0_18, v0_19, v0_20, v0_21, v0_22, v0_23, v0_24, v0_25, v0_26, v0_27, v0_28, v0_29, v0_30, v0_31, v0_32, v0_33, v0_34, v0_35, v0_36, .ref a1, v0_38, v0_39, v0_40, v0_41, v0_42, v0_43, .ref a2, .int 0, v0_46, v0_47, v0_48, v0_49, v0_50, v0_51, v0_52, v0_53, v0_54, v0_55, v0_56, v0_57, v0_58, v0_59, v0_60, v0_61, v0_62, v0_63])), (a1, .inl (cy 0, 16, .inl zI)), (a2, .inl (cy 0, 656, .inl zI))] H := hP
  have hD : va_D A [(a0, .inr (9, [v0_0, v0_1, v0_2, v0_3, v0_4, v0_5, v0_6, v0_7, v0_8, v0_9, v0_10, v0_11, v0_12, v0_13, v0_14, v0_15, v0_16, v0_17, v0_18, v0_19, v0_20, v0_21, v0_22, v0_23, v0_24, v0_25, v0_26, v0_27, v0_28, v0_29, v0_30, v0_31, v0_32, v0_33, v0_34, v0_35, v0_36, .ref a1, v0_38, v0_39, v0_40, v0_41, v0_42, v0_43, .ref a2, .int 0, v0_46, v0_47, v0_48, v0_49, v0_50, v0_51, v0_52, v0_53, v0_54, v0_55, v0_56, v0_57, v0_58, v0_59, v0_60, v0_61, v0_62, v0_63])), (a1, .inl (cy 0, 16, .inl zI)), (a2, .inl (cy 0, 656, .inl zI))] := hD
  refine lv_aload_n hx hb dX9_keepAct_0 rfl (lv_at hl 0 rfl) ?_
  refine va_get (D := D) (cl := vwCl) (ci := 9) (v := .int 0) (C := RX9) (T := TX9) (N := 64) hx hb hts in_X9_keepAct_X9 hown hK hP 0 rfl rfl 45 (by decide) (hts (.fieldLink RX9 368 "EightReasonsModel" "acts" "I") (List.mem_of_getElem? (i := 1) (by decide +kernel))) (fun _ h9 => h9) rfl dX9_keepAct_1 ?_
  refine lv_bipush (v := 40) hx hb dX9_keepAct_4 (by decide) ?_
  refine lv_icmp_ne (tgt := 49) hx hb dX9_keepAct_6 (by decide) (fun _ => ?_) (fun c => absurd c (by decide))
  refine lv_iconst (v := 0) hx hb dX9_keepAct_49 (by decide) ?_
  refine lv_istore_n (lv' := [(1, .int 0), (0, .ref a0)]) hx hb dX9_keepAct_50 rfl hl (by decide) rfl (fun ls hl => ?_)
  refine lv_iload_n hx hb dX9_keepAct_51 rfl (lv_at hl 0 rfl) ?_
  refine lv_bipush (v := 16) hx hb dX9_keepAct_52 (by decide) ?_
  refine lv_icmp_ge (tgt := 83) hx hb dX9_keepAct_54 (by decide) (fun c => absurd c (by decide)) (fun _ => ?_)
  refine lv_aload_n hx hb dX9_keepAct_57 rfl (lv_at hl 1 rfl) ?_
  refine va_get (D := D) (cl := vwCl) (ci := 9) (v := .ref a2) (C := RX9) (T := TX9) (N := 64) hx hb hts in_X9_keepAct_X9 hown hK hP 0 rfl rfl 44 (by decide) (hts (.fieldLink RX9 94 "EightReasonsModel" "was" "[I") (List.mem_of_getElem? (i := 2) (by decide +kernel))) (fun _ h9 => h9) rfl dX9_keepAct_58 ?_
  refine lv_bipush (v := 16) hx hb dX9_keepAct_61 (by decide) ?_
  refine lv_aload_n hx hb dX9_keepAct_63 rfl (lv_at hl 1 rfl) ?_
  refine va_get (D := D) (cl := vwCl) (ci := 9) (v := .int 0) (C := RX9) (T := TX9) (N := 64) hx hb hts in_X9_keepAct_X9 hown hK hP 0 rfl rfl 45 (by decide) (hts (.fieldLink RX9 368 "EightReasonsModel" "acts" "I") (List.mem_of_getElem? (i := 1) (by decide +kernel))) (fun _ h9 => h9) rfl dX9_keepAct_64 ?_
  refine lv_imul hx hb dX9_keepAct_67 (tpi (v := 0) (by decide) ?_)
  refine lv_iload_n hx hb dX9_keepAct_68 rfl (lv_at hl 0 rfl) ?_
  refine lv_iadd hx hb dX9_keepAct_69 (tpi (v := 0) (by decide) ?_)
  refine lv_aload_n hx hb dX9_keepAct_70 rfl (lv_at hl 1 rfl) ?_
  refine va_get (D := D) (cl := vwCl) (ci := 9) (v := .ref a1) (C := RX9) (T := TX9) (N := 64) hx hb hts in_X9_keepAct_X9 hown hK hP 0 rfl rfl 37 (by decide) (hts (.fieldLink RX9 76 "EightReasonsModel" "all" "[I") (List.mem_of_getElem? (i := 3) (by decide +kernel))) (fun _ h9 => h9) rfl dX9_keepAct_71 ?_
  refine lv_iload_n hx hb dX9_keepAct_74 rfl (lv_at hl 0 rfl) ?_
  refine va_iald hx hb hK hP 1 0 rfl rfl (vin (by decide)) dX9_keepAct_75 (tpi (v := 0) rfl ?_)
  refine va_iast hx hb hK hP hD hS 2 0 rfl rfl (vin (by decide)) dX9_keepAct_76 (fun H locs hP hD hS => ?_)
  rw [zI_upd] at hP hD
  have hP : va_P D vwCl [(a0, .inr (9, [v0_0, v0_1, v0_2, v0_3, v0_4, v0_5, v0_6, v0_7, v0_8, v0_9, v0_10, v0_11, v0_12, v0_13, v0_14, v0_15, v0_16, v0_17, v0_18, v0_19, v0_20, v0_21, v0_22, v0_23, v0_24, v0_25, v0_26, v0_27, v0_28, v0_29, v0_30, v0_31, v0_32, v0_33, v0_34, v0_35, v0_36, .ref a1, v0_38, v0_39, v0_40, v0_41, v0_42, v0_43, .ref a2, .int 0, v0_46, v0_47, v0_48, v0_49, v0_50, v0_51, v0_52, v0_53, v0_54, v0_55, v0_56, v0_57, v0_58, v0_59, v0_60, v0_61, v0_62, v0_63])), (a1, .inl (cy 0, 16, .inl zI)), (a2, .inl (cy 0, 656, .inl zI))] H := hP
  have hD : va_D A [(a0, .inr (9, [v0_0, v0_1, v0_2, v0_3, v0_4, v0_5, v0_6, v0_7, v0_8, v0_9, v0_10, v0_11, v0_12, v0_13, v0_14, v0_15, v0_16, v0_17, v0_18, v0_19, v0_20, v0_21, v0_22, v0_23, v0_24, v0_25, v0_26, v0_27, v0_28, v0_29, v0_30, v0_31, v0_32, v0_33, v0_34, v0_35, v0_36, .ref a1, v0_38, v0_39, v0_40, v0_41, v0_42, v0_43, .ref a2, .int 0, v0_46, v0_47, v0_48, v0_49, v0_50, v0_51, v0_52, v0_53, v0_54, v0_55, v0_56, v0_57, v0_58, v0_59, v0_60, v0_61, v0_62, v0_63])), (a1, .inl (cy 0, 16, .inl zI)), (a2, .inl (cy 0, 656, .inl zI))] := hD
  refine lv_iinc (v := 1) (lv' := [(1, .int 1), (0, .ref a0)]) hx hb dX9_keepAct_77 hl (k := 0) rfl (by decide) (by decide) rfl (fun ls hl => ?_)
  refine lv_goto (tgt := 51) hx hb dX9_keepAct_80 (by decide) ?_
  refine lv_iload_n hx hb dX9_keepAct_51 rfl (lv_at hl 0 rfl) ?_
  refine lv_bipush (v := 16) hx hb dX9_keepAct_52 (by decide) ?_
  refine lv_icmp_ge (tgt := 83) hx hb dX9_keepAct_54 (by decide) (fun c => absurd c (by decide)) (fun _ => ?_)
  refine lv_aload_n hx hb dX9_keepAct_57 rfl (lv_at hl 1 rfl) ?_
  refine va_get (D := D) (cl := vwCl) (ci := 9) (v := .ref a2) (C := RX9) (T := TX9) (N := 64) hx hb hts in_X9_keepAct_X9 hown hK hP 0 rfl rfl 44 (by decide) (hts (.fieldLink RX9 94 "EightReasonsModel" "was" "[I") (List.mem_of_getElem? (i := 2) (by decide +kernel))) (fun _ h9 => h9) rfl dX9_keepAct_58 ?_
  refine lv_bipush (v := 16) hx hb dX9_keepAct_61 (by decide) ?_
  refine lv_aload_n hx hb dX9_keepAct_63 rfl (lv_at hl 1 rfl) ?_
  refine va_get (D := D) (cl := vwCl) (ci := 9) (v := .int 0) (C := RX9) (T := TX9) (N := 64) hx hb hts in_X9_keepAct_X9 hown hK hP 0 rfl rfl 45 (by decide) (hts (.fieldLink RX9 368 "EightReasonsModel" "acts" "I") (List.mem_of_getElem? (i := 1) (by decide +kernel))) (fun _ h9 => h9) rfl dX9_keepAct_64 ?_
  refine lv_imul hx hb dX9_keepAct_67 (tpi (v := 0) (by decide) ?_)
  refine lv_iload_n hx hb dX9_keepAct_68 rfl (lv_at hl 0 rfl) ?_
  refine lv_iadd hx hb dX9_keepAct_69 (tpi (v := 1) (by decide) ?_)
  refine lv_aload_n hx hb dX9_keepAct_70 rfl (lv_at hl 1 rfl) ?_
  refine va_get (D := D) (cl := vwCl) (ci := 9) (v := .ref a1) (C := RX9) (T := TX9) (N := 64) hx hb hts in_X9_keepAct_X9 hown hK hP 0 rfl rfl 37 (by decide) (hts (.fieldLink RX9 76 "EightReasonsModel" "all" "[I") (List.mem_of_getElem? (i := 3) (by decide +kernel))) (fun _ h9 => h9) rfl dX9_keepAct_71 ?_
  refine lv_iload_n hx hb dX9_keepAct_74 rfl (lv_at hl 0 rfl) ?_
  refine va_iald hx hb hK hP 1 0 rfl rfl (vin (by decide)) dX9_keepAct_75 (tpi (v := 0) rfl ?_)
  refine va_iast hx hb hK hP hD hS 2 0 rfl rfl (vin (by decide)) dX9_keepAct_76 (fun H locs hP hD hS => ?_)
  rw [zI_upd] at hP hD
  have hP : va_P D vwCl [(a0, .inr (9, [v0_0, v0_1, v0_2, v0_3, v0_4, v0_5, v0_6, v0_7, v0_8, v0_9, v0_10, v0_11, v0_12, v0_13, v0_14, v0_15, v0_16, v0_17, v0_18, v0_19, v0_20, v0_21, v0_22, v0_23, v0_24, v0_25, v0_26, v0_27, v0_28, v0_29, v0_30, v0_31, v0_32, v0_33, v0_34, v0_35, v0_36, .ref a1, v0_38, v0_39, v0_40, v0_41, v0_42, v0_43, .ref a2, .int 0, v0_46, v0_47, v0_48, v0_49, v0_50, v0_51, v0_52, v0_53, v0_54, v0_55, v0_56, v0_57, v0_58, v0_59, v0_60, v0_61, v0_62, v0_63])), (a1, .inl (cy 0, 16, .inl zI)), (a2, .inl (cy 0, 656, .inl zI))] H := hP
  have hD : va_D A [(a0, .inr (9, [v0_0, v0_1, v0_2, v0_3, v0_4, v0_5, v0_6, v0_7, v0_8, v0_9, v0_10, v0_11, v0_12, v0_13, v0_14, v0_15, v0_16, v0_17, v0_18, v0_19, v0_20, v0_21, v0_22, v0_23, v0_24, v0_25, v0_26, v0_27, v0_28, v0_29, v0_30, v0_31, v0_32, v0_33, v0_34, v0_35, v0_36, .ref a1, v0_38, v0_39, v0_40, v0_41, v0_42, v0_43, .ref a2, .int 0, v0_46, v0_47, v0_48, v0_49, v0_50, v0_51, v0_52, v0_53, v0_54, v0_55, v0_56, v0_57, v0_58, v0_59, v0_60, v0_61, v0_62, v0_63])), (a1, .inl (cy 0, 16, .inl zI)), (a2, .inl (cy 0, 656, .inl zI))] := hD
  refine lv_iinc (v := 2) (lv' := [(1, .int 2), (0, .ref a0)]) hx hb dX9_keepAct_77 hl (k := 0) rfl (by decide) (by decide) rfl (fun ls hl => ?_)
  refine lv_goto (tgt := 51) hx hb dX9_keepAct_80 (by decide) ?_
  refine lv_iload_n hx hb dX9_keepAct_51 rfl (lv_at hl 0 rfl) ?_
  refine lv_bipush (v := 16) hx hb dX9_keepAct_52 (by decide) ?_
  refine lv_icmp_ge (tgt := 83) hx hb dX9_keepAct_54 (by decide) (fun c => absurd c (by decide)) (fun _ => ?_)
  refine lv_aload_n hx hb dX9_keepAct_57 rfl (lv_at hl 1 rfl) ?_
  refine va_get (D := D) (cl := vwCl) (ci := 9) (v := .ref a2) (C := RX9) (T := TX9) (N := 64) hx hb hts in_X9_keepAct_X9 hown hK hP 0 rfl rfl 44 (by decide) (hts (.fieldLink RX9 94 "EightReasonsModel" "was" "[I") (List.mem_of_getElem? (i := 2) (by decide +kernel))) (fun _ h9 => h9) rfl dX9_keepAct_58 ?_
  refine lv_bipush (v := 16) hx hb dX9_keepAct_61 (by decide) ?_
  refine lv_aload_n hx hb dX9_keepAct_63 rfl (lv_at hl 1 rfl) ?_
  refine va_get (D := D) (cl := vwCl) (ci := 9) (v := .int 0) (C := RX9) (T := TX9) (N := 64) hx hb hts in_X9_keepAct_X9 hown hK hP 0 rfl rfl 45 (by decide) (hts (.fieldLink RX9 368 "EightReasonsModel" "acts" "I") (List.mem_of_getElem? (i := 1) (by decide +kernel))) (fun _ h9 => h9) rfl dX9_keepAct_64 ?_
  refine lv_imul hx hb dX9_keepAct_67 (tpi (v := 0) (by decide) ?_)
  refine lv_iload_n hx hb dX9_keepAct_68 rfl (lv_at hl 0 rfl) ?_
  refine lv_iadd hx hb dX9_keepAct_69 (tpi (v := 2) (by decide) ?_)
  refine lv_aload_n hx hb dX9_keepAct_70 rfl (lv_at hl 1 rfl) ?_
  refine va_get (D := D) (cl := vwCl) (ci := 9) (v := .ref a1) (C := RX9) (T := TX9) (N := 64) hx hb hts in_X9_keepAct_X9 hown hK hP 0 rfl rfl 37 (by decide) (hts (.fieldLink RX9 76 "EightReasonsModel" "all" "[I") (List.mem_of_getElem? (i := 3) (by decide +kernel))) (fun _ h9 => h9) rfl dX9_keepAct_71 ?_
  refine lv_iload_n hx hb dX9_keepAct_74 rfl (lv_at hl 0 rfl) ?_
  refine va_iald hx hb hK hP 1 0 rfl rfl (vin (by decide)) dX9_keepAct_75 (tpi (v := 0) rfl ?_)
  refine va_iast hx hb hK hP hD hS 2 0 rfl rfl (vin (by decide)) dX9_keepAct_76 (fun H locs hP hD hS => ?_)
  rw [zI_upd] at hP hD
  have hP : va_P D vwCl [(a0, .inr (9, [v0_0, v0_1, v0_2, v0_3, v0_4, v0_5, v0_6, v0_7, v0_8, v0_9, v0_10, v0_11, v0_12, v0_13, v0_14, v0_15, v0_16, v0_17, v0_18, v0_19, v0_20, v0_21, v0_22, v0_23, v0_24, v0_25, v0_26, v0_27, v0_28, v0_29, v0_30, v0_31, v0_32, v0_33, v0_34, v0_35, v0_36, .ref a1, v0_38, v0_39, v0_40, v0_41, v0_42, v0_43, .ref a2, .int 0, v0_46, v0_47, v0_48, v0_49, v0_50, v0_51, v0_52, v0_53, v0_54, v0_55, v0_56, v0_57, v0_58, v0_59, v0_60, v0_61, v0_62, v0_63])), (a1, .inl (cy 0, 16, .inl zI)), (a2, .inl (cy 0, 656, .inl zI))] H := hP
  have hD : va_D A [(a0, .inr (9, [v0_0, v0_1, v0_2, v0_3, v0_4, v0_5, v0_6, v0_7, v0_8, v0_9, v0_10, v0_11, v0_12, v0_13, v0_14, v0_15, v0_16, v0_17, v0_18, v0_19, v0_20, v0_21, v0_22, v0_23, v0_24, v0_25, v0_26, v0_27, v0_28, v0_29, v0_30, v0_31, v0_32, v0_33, v0_34, v0_35, v0_36, .ref a1, v0_38, v0_39, v0_40, v0_41, v0_42, v0_43, .ref a2, .int 0, v0_46, v0_47, v0_48, v0_49, v0_50, v0_51, v0_52, v0_53, v0_54, v0_55, v0_56, v0_57, v0_58, v0_59, v0_60, v0_61, v0_62, v0_63])), (a1, .inl (cy 0, 16, .inl zI)), (a2, .inl (cy 0, 656, .inl zI))] := hD
  refine lv_iinc (v := 3) (lv' := [(1, .int 3), (0, .ref a0)]) hx hb dX9_keepAct_77 hl (k := 0) rfl (by decide) (by decide) rfl (fun ls hl => ?_)
  refine lv_goto (tgt := 51) hx hb dX9_keepAct_80 (by decide) ?_
  refine lv_iload_n hx hb dX9_keepAct_51 rfl (lv_at hl 0 rfl) ?_
  refine lv_bipush (v := 16) hx hb dX9_keepAct_52 (by decide) ?_
  refine lv_icmp_ge (tgt := 83) hx hb dX9_keepAct_54 (by decide) (fun c => absurd c (by decide)) (fun _ => ?_)
  refine lv_aload_n hx hb dX9_keepAct_57 rfl (lv_at hl 1 rfl) ?_
  refine va_get (D := D) (cl := vwCl) (ci := 9) (v := .ref a2) (C := RX9) (T := TX9) (N := 64) hx hb hts in_X9_keepAct_X9 hown hK hP 0 rfl rfl 44 (by decide) (hts (.fieldLink RX9 94 "EightReasonsModel" "was" "[I") (List.mem_of_getElem? (i := 2) (by decide +kernel))) (fun _ h9 => h9) rfl dX9_keepAct_58 ?_
  refine lv_bipush (v := 16) hx hb dX9_keepAct_61 (by decide) ?_
  refine lv_aload_n hx hb dX9_keepAct_63 rfl (lv_at hl 1 rfl) ?_
  refine va_get (D := D) (cl := vwCl) (ci := 9) (v := .int 0) (C := RX9) (T := TX9) (N := 64) hx hb hts in_X9_keepAct_X9 hown hK hP 0 rfl rfl 45 (by decide) (hts (.fieldLink RX9 368 "EightReasonsModel" "acts" "I") (List.mem_of_getElem? (i := 1) (by decide +kernel))) (fun _ h9 => h9) rfl dX9_keepAct_64 ?_
  refine lv_imul hx hb dX9_keepAct_67 (tpi (v := 0) (by decide) ?_)
  refine lv_iload_n hx hb dX9_keepAct_68 rfl (lv_at hl 0 rfl) ?_
  refine lv_iadd hx hb dX9_keepAct_69 (tpi (v := 3) (by decide) ?_)
  refine lv_aload_n hx hb dX9_keepAct_70 rfl (lv_at hl 1 rfl) ?_
  refine va_get (D := D) (cl := vwCl) (ci := 9) (v := .ref a1) (C := RX9) (T := TX9) (N := 64) hx hb hts in_X9_keepAct_X9 hown hK hP 0 rfl rfl 37 (by decide) (hts (.fieldLink RX9 76 "EightReasonsModel" "all" "[I") (List.mem_of_getElem? (i := 3) (by decide +kernel))) (fun _ h9 => h9) rfl dX9_keepAct_71 ?_
  refine lv_iload_n hx hb dX9_keepAct_74 rfl (lv_at hl 0 rfl) ?_
  refine va_iald hx hb hK hP 1 0 rfl rfl (vin (by decide)) dX9_keepAct_75 (tpi (v := 0) rfl ?_)
  refine va_iast hx hb hK hP hD hS 2 0 rfl rfl (vin (by decide)) dX9_keepAct_76 (fun H locs hP hD hS => ?_)
  rw [zI_upd] at hP hD
  have hP : va_P D vwCl [(a0, .inr (9, [v0_0, v0_1, v0_2, v0_3, v0_4, v0_5, v0_6, v0_7, v0_8, v0_9, v0_10, v0_11, v0_12, v0_13, v0_14, v0_15, v0_16, v0_17, v0_18, v0_19, v0_20, v0_21, v0_22, v0_23, v0_24, v0_25, v0_26, v0_27, v0_28, v0_29, v0_30, v0_31, v0_32, v0_33, v0_34, v0_35, v0_36, .ref a1, v0_38, v0_39, v0_40, v0_41, v0_42, v0_43, .ref a2, .int 0, v0_46, v0_47, v0_48, v0_49, v0_50, v0_51, v0_52, v0_53, v0_54, v0_55, v0_56, v0_57, v0_58, v0_59, v0_60, v0_61, v0_62, v0_63])), (a1, .inl (cy 0, 16, .inl zI)), (a2, .inl (cy 0, 656, .inl zI))] H := hP
  have hD : va_D A [(a0, .inr (9, [v0_0, v0_1, v0_2, v0_3, v0_4, v0_5, v0_6, v0_7, v0_8, v0_9, v0_10, v0_11, v0_12, v0_13, v0_14, v0_15, v0_16, v0_17, v0_18, v0_19, v0_20, v0_21, v0_22, v0_23, v0_24, v0_25, v0_26, v0_27, v0_28, v0_29, v0_30, v0_31, v0_32, v0_33, v0_34, v0_35, v0_36, .ref a1, v0_38, v0_39, v0_40, v0_41, v0_42, v0_43, .ref a2, .int 0, v0_46, v0_47, v0_48, v0_49, v0_50, v0_51, v0_52, v0_53, v0_54, v0_55, v0_56, v0_57, v0_58, v0_59, v0_60, v0_61, v0_62, v0_63])), (a1, .inl (cy 0, 16, .inl zI)), (a2, .inl (cy 0, 656, .inl zI))] := hD
  refine lv_iinc (v := 4) (lv' := [(1, .int 4), (0, .ref a0)]) hx hb dX9_keepAct_77 hl (k := 0) rfl (by decide) (by decide) rfl (fun ls hl => ?_)
  refine lv_goto (tgt := 51) hx hb dX9_keepAct_80 (by decide) ?_
  refine lv_iload_n hx hb dX9_keepAct_51 rfl (lv_at hl 0 rfl) ?_
  refine lv_bipush (v := 16) hx hb dX9_keepAct_52 (by decide) ?_
  refine lv_icmp_ge (tgt := 83) hx hb dX9_keepAct_54 (by decide) (fun c => absurd c (by decide)) (fun _ => ?_)
  refine lv_aload_n hx hb dX9_keepAct_57 rfl (lv_at hl 1 rfl) ?_
  refine va_get (D := D) (cl := vwCl) (ci := 9) (v := .ref a2) (C := RX9) (T := TX9) (N := 64) hx hb hts in_X9_keepAct_X9 hown hK hP 0 rfl rfl 44 (by decide) (hts (.fieldLink RX9 94 "EightReasonsModel" "was" "[I") (List.mem_of_getElem? (i := 2) (by decide +kernel))) (fun _ h9 => h9) rfl dX9_keepAct_58 ?_
  refine lv_bipush (v := 16) hx hb dX9_keepAct_61 (by decide) ?_
  refine lv_aload_n hx hb dX9_keepAct_63 rfl (lv_at hl 1 rfl) ?_
  refine va_get (D := D) (cl := vwCl) (ci := 9) (v := .int 0) (C := RX9) (T := TX9) (N := 64) hx hb hts in_X9_keepAct_X9 hown hK hP 0 rfl rfl 45 (by decide) (hts (.fieldLink RX9 368 "EightReasonsModel" "acts" "I") (List.mem_of_getElem? (i := 1) (by decide +kernel))) (fun _ h9 => h9) rfl dX9_keepAct_64 ?_
  refine lv_imul hx hb dX9_keepAct_67 (tpi (v := 0) (by decide) ?_)
  refine lv_iload_n hx hb dX9_keepAct_68 rfl (lv_at hl 0 rfl) ?_
  refine lv_iadd hx hb dX9_keepAct_69 (tpi (v := 4) (by decide) ?_)
  refine lv_aload_n hx hb dX9_keepAct_70 rfl (lv_at hl 1 rfl) ?_
  refine va_get (D := D) (cl := vwCl) (ci := 9) (v := .ref a1) (C := RX9) (T := TX9) (N := 64) hx hb hts in_X9_keepAct_X9 hown hK hP 0 rfl rfl 37 (by decide) (hts (.fieldLink RX9 76 "EightReasonsModel" "all" "[I") (List.mem_of_getElem? (i := 3) (by decide +kernel))) (fun _ h9 => h9) rfl dX9_keepAct_71 ?_
  refine lv_iload_n hx hb dX9_keepAct_74 rfl (lv_at hl 0 rfl) ?_
  refine va_iald hx hb hK hP 1 0 rfl rfl (vin (by decide)) dX9_keepAct_75 (tpi (v := 0) rfl ?_)
  refine va_iast hx hb hK hP hD hS 2 0 rfl rfl (vin (by decide)) dX9_keepAct_76 (fun H locs hP hD hS => ?_)
  rw [zI_upd] at hP hD
  have hP : va_P D vwCl [(a0, .inr (9, [v0_0, v0_1, v0_2, v0_3, v0_4, v0_5, v0_6, v0_7, v0_8, v0_9, v0_10, v0_11, v0_12, v0_13, v0_14, v0_15, v0_16, v0_17, v0_18, v0_19, v0_20, v0_21, v0_22, v0_23, v0_24, v0_25, v0_26, v0_27, v0_28, v0_29, v0_30, v0_31, v0_32, v0_33, v0_34, v0_35, v0_36, .ref a1, v0_38, v0_39, v0_40, v0_41, v0_42, v0_43, .ref a2, .int 0, v0_46, v0_47, v0_48, v0_49, v0_50, v0_51, v0_52, v0_53, v0_54, v0_55, v0_56, v0_57, v0_58, v0_59, v0_60, v0_61, v0_62, v0_63])), (a1, .inl (cy 0, 16, .inl zI)), (a2, .inl (cy 0, 656, .inl zI))] H := hP
  have hD : va_D A [(a0, .inr (9, [v0_0, v0_1, v0_2, v0_3, v0_4, v0_5, v0_6, v0_7, v0_8, v0_9, v0_10, v0_11, v0_12, v0_13, v0_14, v0_15, v0_16, v0_17, v0_18, v0_19, v0_20, v0_21, v0_22, v0_23, v0_24, v0_25, v0_26, v0_27, v0_28, v0_29, v0_30, v0_31, v0_32, v0_33, v0_34, v0_35, v0_36, .ref a1, v0_38, v0_39, v0_40, v0_41, v0_42, v0_43, .ref a2, .int 0, v0_46, v0_47, v0_48, v0_49, v0_50, v0_51, v0_52, v0_53, v0_54, v0_55, v0_56, v0_57, v0_58, v0_59, v0_60, v0_61, v0_62, v0_63])), (a1, .inl (cy 0, 16, .inl zI)), (a2, .inl (cy 0, 656, .inl zI))] := hD
  refine lv_iinc (v := 5) (lv' := [(1, .int 5), (0, .ref a0)]) hx hb dX9_keepAct_77 hl (k := 0) rfl (by decide) (by decide) rfl (fun ls hl => ?_)
  refine lv_goto (tgt := 51) hx hb dX9_keepAct_80 (by decide) ?_
  refine lv_iload_n hx hb dX9_keepAct_51 rfl (lv_at hl 0 rfl) ?_
  refine lv_bipush (v := 16) hx hb dX9_keepAct_52 (by decide) ?_
  refine lv_icmp_ge (tgt := 83) hx hb dX9_keepAct_54 (by decide) (fun c => absurd c (by decide)) (fun _ => ?_)
  refine lv_aload_n hx hb dX9_keepAct_57 rfl (lv_at hl 1 rfl) ?_
  refine va_get (D := D) (cl := vwCl) (ci := 9) (v := .ref a2) (C := RX9) (T := TX9) (N := 64) hx hb hts in_X9_keepAct_X9 hown hK hP 0 rfl rfl 44 (by decide) (hts (.fieldLink RX9 94 "EightReasonsModel" "was" "[I") (List.mem_of_getElem? (i := 2) (by decide +kernel))) (fun _ h9 => h9) rfl dX9_keepAct_58 ?_
  refine lv_bipush (v := 16) hx hb dX9_keepAct_61 (by decide) ?_
  refine lv_aload_n hx hb dX9_keepAct_63 rfl (lv_at hl 1 rfl) ?_
  refine va_get (D := D) (cl := vwCl) (ci := 9) (v := .int 0) (C := RX9) (T := TX9) (N := 64) hx hb hts in_X9_keepAct_X9 hown hK hP 0 rfl rfl 45 (by decide) (hts (.fieldLink RX9 368 "EightReasonsModel" "acts" "I") (List.mem_of_getElem? (i := 1) (by decide +kernel))) (fun _ h9 => h9) rfl dX9_keepAct_64 ?_
  refine lv_imul hx hb dX9_keepAct_67 (tpi (v := 0) (by decide) ?_)
  refine lv_iload_n hx hb dX9_keepAct_68 rfl (lv_at hl 0 rfl) ?_
  refine lv_iadd hx hb dX9_keepAct_69 (tpi (v := 5) (by decide) ?_)
  refine lv_aload_n hx hb dX9_keepAct_70 rfl (lv_at hl 1 rfl) ?_
  refine va_get (D := D) (cl := vwCl) (ci := 9) (v := .ref a1) (C := RX9) (T := TX9) (N := 64) hx hb hts in_X9_keepAct_X9 hown hK hP 0 rfl rfl 37 (by decide) (hts (.fieldLink RX9 76 "EightReasonsModel" "all" "[I") (List.mem_of_getElem? (i := 3) (by decide +kernel))) (fun _ h9 => h9) rfl dX9_keepAct_71 ?_
  refine lv_iload_n hx hb dX9_keepAct_74 rfl (lv_at hl 0 rfl) ?_
  refine va_iald hx hb hK hP 1 0 rfl rfl (vin (by decide)) dX9_keepAct_75 (tpi (v := 0) rfl ?_)
  refine va_iast hx hb hK hP hD hS 2 0 rfl rfl (vin (by decide)) dX9_keepAct_76 (fun H locs hP hD hS => ?_)
  rw [zI_upd] at hP hD
  have hP : va_P D vwCl [(a0, .inr (9, [v0_0, v0_1, v0_2, v0_3, v0_4, v0_5, v0_6, v0_7, v0_8, v0_9, v0_10, v0_11, v0_12, v0_13, v0_14, v0_15, v0_16, v0_17, v0_18, v0_19, v0_20, v0_21, v0_22, v0_23, v0_24, v0_25, v0_26, v0_27, v0_28, v0_29, v0_30, v0_31, v0_32, v0_33, v0_34, v0_35, v0_36, .ref a1, v0_38, v0_39, v0_40, v0_41, v0_42, v0_43, .ref a2, .int 0, v0_46, v0_47, v0_48, v0_49, v0_50, v0_51, v0_52, v0_53, v0_54, v0_55, v0_56, v0_57, v0_58, v0_59, v0_60, v0_61, v0_62, v0_63])), (a1, .inl (cy 0, 16, .inl zI)), (a2, .inl (cy 0, 656, .inl zI))] H := hP
  have hD : va_D A [(a0, .inr (9, [v0_0, v0_1, v0_2, v0_3, v0_4, v0_5, v0_6, v0_7, v0_8, v0_9, v0_10, v0_11, v0_12, v0_13, v0_14, v0_15, v0_16, v0_17, v0_18, v0_19, v0_20, v0_21, v0_22, v0_23, v0_24, v0_25, v0_26, v0_27, v0_28, v0_29, v0_30, v0_31, v0_32, v0_33, v0_34, v0_35, v0_36, .ref a1, v0_38, v0_39, v0_40, v0_41, v0_42, v0_43, .ref a2, .int 0, v0_46, v0_47, v0_48, v0_49, v0_50, v0_51, v0_52, v0_53, v0_54, v0_55, v0_56, v0_57, v0_58, v0_59, v0_60, v0_61, v0_62, v0_63])), (a1, .inl (cy 0, 16, .inl zI)), (a2, .inl (cy 0, 656, .inl zI))] := hD
  refine lv_iinc (v := 6) (lv' := [(1, .int 6), (0, .ref a0)]) hx hb dX9_keepAct_77 hl (k := 0) rfl (by decide) (by decide) rfl (fun ls hl => ?_)
  refine lv_goto (tgt := 51) hx hb dX9_keepAct_80 (by decide) ?_
  refine lv_iload_n hx hb dX9_keepAct_51 rfl (lv_at hl 0 rfl) ?_
  refine lv_bipush (v := 16) hx hb dX9_keepAct_52 (by decide) ?_
  refine lv_icmp_ge (tgt := 83) hx hb dX9_keepAct_54 (by decide) (fun c => absurd c (by decide)) (fun _ => ?_)
  refine lv_aload_n hx hb dX9_keepAct_57 rfl (lv_at hl 1 rfl) ?_
  refine va_get (D := D) (cl := vwCl) (ci := 9) (v := .ref a2) (C := RX9) (T := TX9) (N := 64) hx hb hts in_X9_keepAct_X9 hown hK hP 0 rfl rfl 44 (by decide) (hts (.fieldLink RX9 94 "EightReasonsModel" "was" "[I") (List.mem_of_getElem? (i := 2) (by decide +kernel))) (fun _ h9 => h9) rfl dX9_keepAct_58 ?_
  refine lv_bipush (v := 16) hx hb dX9_keepAct_61 (by decide) ?_
  refine lv_aload_n hx hb dX9_keepAct_63 rfl (lv_at hl 1 rfl) ?_
  refine va_get (D := D) (cl := vwCl) (ci := 9) (v := .int 0) (C := RX9) (T := TX9) (N := 64) hx hb hts in_X9_keepAct_X9 hown hK hP 0 rfl rfl 45 (by decide) (hts (.fieldLink RX9 368 "EightReasonsModel" "acts" "I") (List.mem_of_getElem? (i := 1) (by decide +kernel))) (fun _ h9 => h9) rfl dX9_keepAct_64 ?_
  refine lv_imul hx hb dX9_keepAct_67 (tpi (v := 0) (by decide) ?_)
  refine lv_iload_n hx hb dX9_keepAct_68 rfl (lv_at hl 0 rfl) ?_
  refine lv_iadd hx hb dX9_keepAct_69 (tpi (v := 6) (by decide) ?_)
  refine lv_aload_n hx hb dX9_keepAct_70 rfl (lv_at hl 1 rfl) ?_
  refine va_get (D := D) (cl := vwCl) (ci := 9) (v := .ref a1) (C := RX9) (T := TX9) (N := 64) hx hb hts in_X9_keepAct_X9 hown hK hP 0 rfl rfl 37 (by decide) (hts (.fieldLink RX9 76 "EightReasonsModel" "all" "[I") (List.mem_of_getElem? (i := 3) (by decide +kernel))) (fun _ h9 => h9) rfl dX9_keepAct_71 ?_
  refine lv_iload_n hx hb dX9_keepAct_74 rfl (lv_at hl 0 rfl) ?_
  refine va_iald hx hb hK hP 1 0 rfl rfl (vin (by decide)) dX9_keepAct_75 (tpi (v := 0) rfl ?_)
  refine va_iast hx hb hK hP hD hS 2 0 rfl rfl (vin (by decide)) dX9_keepAct_76 (fun H locs hP hD hS => ?_)
  rw [zI_upd] at hP hD
  have hP : va_P D vwCl [(a0, .inr (9, [v0_0, v0_1, v0_2, v0_3, v0_4, v0_5, v0_6, v0_7, v0_8, v0_9, v0_10, v0_11, v0_12, v0_13, v0_14, v0_15, v0_16, v0_17, v0_18, v0_19, v0_20, v0_21, v0_22, v0_23, v0_24, v0_25, v0_26, v0_27, v0_28, v0_29, v0_30, v0_31, v0_32, v0_33, v0_34, v0_35, v0_36, .ref a1, v0_38, v0_39, v0_40, v0_41, v0_42, v0_43, .ref a2, .int 0, v0_46, v0_47, v0_48, v0_49, v0_50, v0_51, v0_52, v0_53, v0_54, v0_55, v0_56, v0_57, v0_58, v0_59, v0_60, v0_61, v0_62, v0_63])), (a1, .inl (cy 0, 16, .inl zI)), (a2, .inl (cy 0, 656, .inl zI))] H := hP
  have hD : va_D A [(a0, .inr (9, [v0_0, v0_1, v0_2, v0_3, v0_4, v0_5, v0_6, v0_7, v0_8, v0_9, v0_10, v0_11, v0_12, v0_13, v0_14, v0_15, v0_16, v0_17, v0_18, v0_19, v0_20, v0_21, v0_22, v0_23, v0_24, v0_25, v0_26, v0_27, v0_28, v0_29, v0_30, v0_31, v0_32, v0_33, v0_34, v0_35, v0_36, .ref a1, v0_38, v0_39, v0_40, v0_41, v0_42, v0_43, .ref a2, .int 0, v0_46, v0_47, v0_48, v0_49, v0_50, v0_51, v0_52, v0_53, v0_54, v0_55, v0_56, v0_57, v0_58, v0_59, v0_60, v0_61, v0_62, v0_63])), (a1, .inl (cy 0, 16, .inl zI)), (a2, .inl (cy 0, 656, .inl zI))] := hD
  refine lv_iinc (v := 7) (lv' := [(1, .int 7), (0, .ref a0)]) hx hb dX9_keepAct_77 hl (k := 0) rfl (by decide) (by decide) rfl (fun ls hl => ?_)
  refine lv_goto (tgt := 51) hx hb dX9_keepAct_80 (by decide) ?_
  refine lv_iload_n hx hb dX9_keepAct_51 rfl (lv_at hl 0 rfl) ?_
  refine lv_bipush (v := 16) hx hb dX9_keepAct_52 (by decide) ?_
  refine lv_icmp_ge (tgt := 83) hx hb dX9_keepAct_54 (by decide) (fun c => absurd c (by decide)) (fun _ => ?_)
  refine lv_aload_n hx hb dX9_keepAct_57 rfl (lv_at hl 1 rfl) ?_
  refine va_get (D := D) (cl := vwCl) (ci := 9) (v := .ref a2) (C := RX9) (T := TX9) (N := 64) hx hb hts in_X9_keepAct_X9 hown hK hP 0 rfl rfl 44 (by decide) (hts (.fieldLink RX9 94 "EightReasonsModel" "was" "[I") (List.mem_of_getElem? (i := 2) (by decide +kernel))) (fun _ h9 => h9) rfl dX9_keepAct_58 ?_
  refine lv_bipush (v := 16) hx hb dX9_keepAct_61 (by decide) ?_
  refine lv_aload_n hx hb dX9_keepAct_63 rfl (lv_at hl 1 rfl) ?_
  refine va_get (D := D) (cl := vwCl) (ci := 9) (v := .int 0) (C := RX9) (T := TX9) (N := 64) hx hb hts in_X9_keepAct_X9 hown hK hP 0 rfl rfl 45 (by decide) (hts (.fieldLink RX9 368 "EightReasonsModel" "acts" "I") (List.mem_of_getElem? (i := 1) (by decide +kernel))) (fun _ h9 => h9) rfl dX9_keepAct_64 ?_
  refine lv_imul hx hb dX9_keepAct_67 (tpi (v := 0) (by decide) ?_)
  refine lv_iload_n hx hb dX9_keepAct_68 rfl (lv_at hl 0 rfl) ?_
  refine lv_iadd hx hb dX9_keepAct_69 (tpi (v := 7) (by decide) ?_)
  refine lv_aload_n hx hb dX9_keepAct_70 rfl (lv_at hl 1 rfl) ?_
  refine va_get (D := D) (cl := vwCl) (ci := 9) (v := .ref a1) (C := RX9) (T := TX9) (N := 64) hx hb hts in_X9_keepAct_X9 hown hK hP 0 rfl rfl 37 (by decide) (hts (.fieldLink RX9 76 "EightReasonsModel" "all" "[I") (List.mem_of_getElem? (i := 3) (by decide +kernel))) (fun _ h9 => h9) rfl dX9_keepAct_71 ?_
  refine lv_iload_n hx hb dX9_keepAct_74 rfl (lv_at hl 0 rfl) ?_
  refine va_iald hx hb hK hP 1 0 rfl rfl (vin (by decide)) dX9_keepAct_75 (tpi (v := 0) rfl ?_)
  refine va_iast hx hb hK hP hD hS 2 0 rfl rfl (vin (by decide)) dX9_keepAct_76 (fun H locs hP hD hS => ?_)
  rw [zI_upd] at hP hD
  have hP : va_P D vwCl [(a0, .inr (9, [v0_0, v0_1, v0_2, v0_3, v0_4, v0_5, v0_6, v0_7, v0_8, v0_9, v0_10, v0_11, v0_12, v0_13, v0_14, v0_15, v0_16, v0_17, v0_18, v0_19, v0_20, v0_21, v0_22, v0_23, v0_24, v0_25, v0_26, v0_27, v0_28, v0_29, v0_30, v0_31, v0_32, v0_33, v0_34, v0_35, v0_36, .ref a1, v0_38, v0_39, v0_40, v0_41, v0_42, v0_43, .ref a2, .int 0, v0_46, v0_47, v0_48, v0_49, v0_50, v0_51, v0_52, v0_53, v0_54, v0_55, v0_56, v0_57, v0_58, v0_59, v0_60, v0_61, v0_62, v0_63])), (a1, .inl (cy 0, 16, .inl zI)), (a2, .inl (cy 0, 656, .inl zI))] H := hP
  have hD : va_D A [(a0, .inr (9, [v0_0, v0_1, v0_2, v0_3, v0_4, v0_5, v0_6, v0_7, v0_8, v0_9, v0_10, v0_11, v0_12, v0_13, v0_14, v0_15, v0_16, v0_17, v0_18, v0_19, v0_20, v0_21, v0_22, v0_23, v0_24, v0_25, v0_26, v0_27, v0_28, v0_29, v0_30, v0_31, v0_32, v0_33, v0_34, v0_35, v0_36, .ref a1, v0_38, v0_39, v0_40, v0_41, v0_42, v0_43, .ref a2, .int 0, v0_46, v0_47, v0_48, v0_49, v0_50, v0_51, v0_52, v0_53, v0_54, v0_55, v0_56, v0_57, v0_58, v0_59, v0_60, v0_61, v0_62, v0_63])), (a1, .inl (cy 0, 16, .inl zI)), (a2, .inl (cy 0, 656, .inl zI))] := hD
  refine lv_iinc (v := 8) (lv' := [(1, .int 8), (0, .ref a0)]) hx hb dX9_keepAct_77 hl (k := 0) rfl (by decide) (by decide) rfl (fun ls hl => ?_)
  refine lv_goto (tgt := 51) hx hb dX9_keepAct_80 (by decide) ?_
  refine lv_iload_n hx hb dX9_keepAct_51 rfl (lv_at hl 0 rfl) ?_
  refine lv_bipush (v := 16) hx hb dX9_keepAct_52 (by decide) ?_
  refine lv_icmp_ge (tgt := 83) hx hb dX9_keepAct_54 (by decide) (fun c => absurd c (by decide)) (fun _ => ?_)
  refine lv_aload_n hx hb dX9_keepAct_57 rfl (lv_at hl 1 rfl) ?_
  refine va_get (D := D) (cl := vwCl) (ci := 9) (v := .ref a2) (C := RX9) (T := TX9) (N := 64) hx hb hts in_X9_keepAct_X9 hown hK hP 0 rfl rfl 44 (by decide) (hts (.fieldLink RX9 94 "EightReasonsModel" "was" "[I") (List.mem_of_getElem? (i := 2) (by decide +kernel))) (fun _ h9 => h9) rfl dX9_keepAct_58 ?_
  refine lv_bipush (v := 16) hx hb dX9_keepAct_61 (by decide) ?_
  refine lv_aload_n hx hb dX9_keepAct_63 rfl (lv_at hl 1 rfl) ?_
  refine va_get (D := D) (cl := vwCl) (ci := 9) (v := .int 0) (C := RX9) (T := TX9) (N := 64) hx hb hts in_X9_keepAct_X9 hown hK hP 0 rfl rfl 45 (by decide) (hts (.fieldLink RX9 368 "EightReasonsModel" "acts" "I") (List.mem_of_getElem? (i := 1) (by decide +kernel))) (fun _ h9 => h9) rfl dX9_keepAct_64 ?_
  refine lv_imul hx hb dX9_keepAct_67 (tpi (v := 0) (by decide) ?_)
  refine lv_iload_n hx hb dX9_keepAct_68 rfl (lv_at hl 0 rfl) ?_
  refine lv_iadd hx hb dX9_keepAct_69 (tpi (v := 8) (by decide) ?_)
  refine lv_aload_n hx hb dX9_keepAct_70 rfl (lv_at hl 1 rfl) ?_
  refine va_get (D := D) (cl := vwCl) (ci := 9) (v := .ref a1) (C := RX9) (T := TX9) (N := 64) hx hb hts in_X9_keepAct_X9 hown hK hP 0 rfl rfl 37 (by decide) (hts (.fieldLink RX9 76 "EightReasonsModel" "all" "[I") (List.mem_of_getElem? (i := 3) (by decide +kernel))) (fun _ h9 => h9) rfl dX9_keepAct_71 ?_
  refine lv_iload_n hx hb dX9_keepAct_74 rfl (lv_at hl 0 rfl) ?_
  refine va_iald hx hb hK hP 1 0 rfl rfl (vin (by decide)) dX9_keepAct_75 (tpi (v := 0) rfl ?_)
  refine va_iast hx hb hK hP hD hS 2 0 rfl rfl (vin (by decide)) dX9_keepAct_76 (fun H locs hP hD hS => ?_)
  rw [zI_upd] at hP hD
  have hP : va_P D vwCl [(a0, .inr (9, [v0_0, v0_1, v0_2, v0_3, v0_4, v0_5, v0_6, v0_7, v0_8, v0_9, v0_10, v0_11, v0_12, v0_13, v0_14, v0_15, v0_16, v0_17, v0_18, v0_19, v0_20, v0_21, v0_22, v0_23, v0_24, v0_25, v0_26, v0_27, v0_28, v0_29, v0_30, v0_31, v0_32, v0_33, v0_34, v0_35, v0_36, .ref a1, v0_38, v0_39, v0_40, v0_41, v0_42, v0_43, .ref a2, .int 0, v0_46, v0_47, v0_48, v0_49, v0_50, v0_51, v0_52, v0_53, v0_54, v0_55, v0_56, v0_57, v0_58, v0_59, v0_60, v0_61, v0_62, v0_63])), (a1, .inl (cy 0, 16, .inl zI)), (a2, .inl (cy 0, 656, .inl zI))] H := hP
  have hD : va_D A [(a0, .inr (9, [v0_0, v0_1, v0_2, v0_3, v0_4, v0_5, v0_6, v0_7, v0_8, v0_9, v0_10, v0_11, v0_12, v0_13, v0_14, v0_15, v0_16, v0_17, v0_18, v0_19, v0_20, v0_21, v0_22, v0_23, v0_24, v0_25, v0_26, v0_27, v0_28, v0_29, v0_30, v0_31, v0_32, v0_33, v0_34, v0_35, v0_36, .ref a1, v0_38, v0_39, v0_40, v0_41, v0_42, v0_43, .ref a2, .int 0, v0_46, v0_47, v0_48, v0_49, v0_50, v0_51, v0_52, v0_53, v0_54, v0_55, v0_56, v0_57, v0_58, v0_59, v0_60, v0_61, v0_62, v0_63])), (a1, .inl (cy 0, 16, .inl zI)), (a2, .inl (cy 0, 656, .inl zI))] := hD
  refine lv_iinc (v := 9) (lv' := [(1, .int 9), (0, .ref a0)]) hx hb dX9_keepAct_77 hl (k := 0) rfl (by decide) (by decide) rfl (fun ls hl => ?_)
  refine lv_goto (tgt := 51) hx hb dX9_keepAct_80 (by decide) ?_
  refine lv_iload_n hx hb dX9_keepAct_51 rfl (lv_at hl 0 rfl) ?_
  refine lv_bipush (v := 16) hx hb dX9_keepAct_52 (by decide) ?_
  refine lv_icmp_ge (tgt := 83) hx hb dX9_keepAct_54 (by decide) (fun c => absurd c (by decide)) (fun _ => ?_)
  refine lv_aload_n hx hb dX9_keepAct_57 rfl (lv_at hl 1 rfl) ?_
  refine va_get (D := D) (cl := vwCl) (ci := 9) (v := .ref a2) (C := RX9) (T := TX9) (N := 64) hx hb hts in_X9_keepAct_X9 hown hK hP 0 rfl rfl 44 (by decide) (hts (.fieldLink RX9 94 "EightReasonsModel" "was" "[I") (List.mem_of_getElem? (i := 2) (by decide +kernel))) (fun _ h9 => h9) rfl dX9_keepAct_58 ?_
  refine lv_bipush (v := 16) hx hb dX9_keepAct_61 (by decide) ?_
  refine lv_aload_n hx hb dX9_keepAct_63 rfl (lv_at hl 1 rfl) ?_
  refine va_get (D := D) (cl := vwCl) (ci := 9) (v := .int 0) (C := RX9) (T := TX9) (N := 64) hx hb hts in_X9_keepAct_X9 hown hK hP 0 rfl rfl 45 (by decide) (hts (.fieldLink RX9 368 "EightReasonsModel" "acts" "I") (List.mem_of_getElem? (i := 1) (by decide +kernel))) (fun _ h9 => h9) rfl dX9_keepAct_64 ?_
  refine lv_imul hx hb dX9_keepAct_67 (tpi (v := 0) (by decide) ?_)
  refine lv_iload_n hx hb dX9_keepAct_68 rfl (lv_at hl 0 rfl) ?_
  refine lv_iadd hx hb dX9_keepAct_69 (tpi (v := 9) (by decide) ?_)
  refine lv_aload_n hx hb dX9_keepAct_70 rfl (lv_at hl 1 rfl) ?_
  refine va_get (D := D) (cl := vwCl) (ci := 9) (v := .ref a1) (C := RX9) (T := TX9) (N := 64) hx hb hts in_X9_keepAct_X9 hown hK hP 0 rfl rfl 37 (by decide) (hts (.fieldLink RX9 76 "EightReasonsModel" "all" "[I") (List.mem_of_getElem? (i := 3) (by decide +kernel))) (fun _ h9 => h9) rfl dX9_keepAct_71 ?_
  refine lv_iload_n hx hb dX9_keepAct_74 rfl (lv_at hl 0 rfl) ?_
  refine va_iald hx hb hK hP 1 0 rfl rfl (vin (by decide)) dX9_keepAct_75 (tpi (v := 0) rfl ?_)
  refine va_iast hx hb hK hP hD hS 2 0 rfl rfl (vin (by decide)) dX9_keepAct_76 (fun H locs hP hD hS => ?_)
  rw [zI_upd] at hP hD
  have hP : va_P D vwCl [(a0, .inr (9, [v0_0, v0_1, v0_2, v0_3, v0_4, v0_5, v0_6, v0_7, v0_8, v0_9, v0_10, v0_11, v0_12, v0_13, v0_14, v0_15, v0_16, v0_17, v0_18, v0_19, v0_20, v0_21, v0_22, v0_23, v0_24, v0_25, v0_26, v0_27, v0_28, v0_29, v0_30, v0_31, v0_32, v0_33, v0_34, v0_35, v0_36, .ref a1, v0_38, v0_39, v0_40, v0_41, v0_42, v0_43, .ref a2, .int 0, v0_46, v0_47, v0_48, v0_49, v0_50, v0_51, v0_52, v0_53, v0_54, v0_55, v0_56, v0_57, v0_58, v0_59, v0_60, v0_61, v0_62, v0_63])), (a1, .inl (cy 0, 16, .inl zI)), (a2, .inl (cy 0, 656, .inl zI))] H := hP
  have hD : va_D A [(a0, .inr (9, [v0_0, v0_1, v0_2, v0_3, v0_4, v0_5, v0_6, v0_7, v0_8, v0_9, v0_10, v0_11, v0_12, v0_13, v0_14, v0_15, v0_16, v0_17, v0_18, v0_19, v0_20, v0_21, v0_22, v0_23, v0_24, v0_25, v0_26, v0_27, v0_28, v0_29, v0_30, v0_31, v0_32, v0_33, v0_34, v0_35, v0_36, .ref a1, v0_38, v0_39, v0_40, v0_41, v0_42, v0_43, .ref a2, .int 0, v0_46, v0_47, v0_48, v0_49, v0_50, v0_51, v0_52, v0_53, v0_54, v0_55, v0_56, v0_57, v0_58, v0_59, v0_60, v0_61, v0_62, v0_63])), (a1, .inl (cy 0, 16, .inl zI)), (a2, .inl (cy 0, 656, .inl zI))] := hD
  refine lv_iinc (v := 10) (lv' := [(1, .int 10), (0, .ref a0)]) hx hb dX9_keepAct_77 hl (k := 0) rfl (by decide) (by decide) rfl (fun ls hl => ?_)
  refine lv_goto (tgt := 51) hx hb dX9_keepAct_80 (by decide) ?_
  refine lv_iload_n hx hb dX9_keepAct_51 rfl (lv_at hl 0 rfl) ?_
  refine lv_bipush (v := 16) hx hb dX9_keepAct_52 (by decide) ?_
  refine lv_icmp_ge (tgt := 83) hx hb dX9_keepAct_54 (by decide) (fun c => absurd c (by decide)) (fun _ => ?_)
  refine lv_aload_n hx hb dX9_keepAct_57 rfl (lv_at hl 1 rfl) ?_
  refine va_get (D := D) (cl := vwCl) (ci := 9) (v := .ref a2) (C := RX9) (T := TX9) (N := 64) hx hb hts in_X9_keepAct_X9 hown hK hP 0 rfl rfl 44 (by decide) (hts (.fieldLink RX9 94 "EightReasonsModel" "was" "[I") (List.mem_of_getElem? (i := 2) (by decide +kernel))) (fun _ h9 => h9) rfl dX9_keepAct_58 ?_
  refine lv_bipush (v := 16) hx hb dX9_keepAct_61 (by decide) ?_
  refine lv_aload_n hx hb dX9_keepAct_63 rfl (lv_at hl 1 rfl) ?_
  refine va_get (D := D) (cl := vwCl) (ci := 9) (v := .int 0) (C := RX9) (T := TX9) (N := 64) hx hb hts in_X9_keepAct_X9 hown hK hP 0 rfl rfl 45 (by decide) (hts (.fieldLink RX9 368 "EightReasonsModel" "acts" "I") (List.mem_of_getElem? (i := 1) (by decide +kernel))) (fun _ h9 => h9) rfl dX9_keepAct_64 ?_
  refine lv_imul hx hb dX9_keepAct_67 (tpi (v := 0) (by decide) ?_)
  refine lv_iload_n hx hb dX9_keepAct_68 rfl (lv_at hl 0 rfl) ?_
  refine lv_iadd hx hb dX9_keepAct_69 (tpi (v := 10) (by decide) ?_)
  refine lv_aload_n hx hb dX9_keepAct_70 rfl (lv_at hl 1 rfl) ?_
  refine va_get (D := D) (cl := vwCl) (ci := 9) (v := .ref a1) (C := RX9) (T := TX9) (N := 64) hx hb hts in_X9_keepAct_X9 hown hK hP 0 rfl rfl 37 (by decide) (hts (.fieldLink RX9 76 "EightReasonsModel" "all" "[I") (List.mem_of_getElem? (i := 3) (by decide +kernel))) (fun _ h9 => h9) rfl dX9_keepAct_71 ?_
  refine lv_iload_n hx hb dX9_keepAct_74 rfl (lv_at hl 0 rfl) ?_
  refine va_iald hx hb hK hP 1 0 rfl rfl (vin (by decide)) dX9_keepAct_75 (tpi (v := 0) rfl ?_)
  refine va_iast hx hb hK hP hD hS 2 0 rfl rfl (vin (by decide)) dX9_keepAct_76 (fun H locs hP hD hS => ?_)
  rw [zI_upd] at hP hD
  have hP : va_P D vwCl [(a0, .inr (9, [v0_0, v0_1, v0_2, v0_3, v0_4, v0_5, v0_6, v0_7, v0_8, v0_9, v0_10, v0_11, v0_12, v0_13, v0_14, v0_15, v0_16, v0_17, v0_18, v0_19, v0_20, v0_21, v0_22, v0_23, v0_24, v0_25, v0_26, v0_27, v0_28, v0_29, v0_30, v0_31, v0_32, v0_33, v0_34, v0_35, v0_36, .ref a1, v0_38, v0_39, v0_40, v0_41, v0_42, v0_43, .ref a2, .int 0, v0_46, v0_47, v0_48, v0_49, v0_50, v0_51, v0_52, v0_53, v0_54, v0_55, v0_56, v0_57, v0_58, v0_59, v0_60, v0_61, v0_62, v0_63])), (a1, .inl (cy 0, 16, .inl zI)), (a2, .inl (cy 0, 656, .inl zI))] H := hP
  have hD : va_D A [(a0, .inr (9, [v0_0, v0_1, v0_2, v0_3, v0_4, v0_5, v0_6, v0_7, v0_8, v0_9, v0_10, v0_11, v0_12, v0_13, v0_14, v0_15, v0_16, v0_17, v0_18, v0_19, v0_20, v0_21, v0_22, v0_23, v0_24, v0_25, v0_26, v0_27, v0_28, v0_29, v0_30, v0_31, v0_32, v0_33, v0_34, v0_35, v0_36, .ref a1, v0_38, v0_39, v0_40, v0_41, v0_42, v0_43, .ref a2, .int 0, v0_46, v0_47, v0_48, v0_49, v0_50, v0_51, v0_52, v0_53, v0_54, v0_55, v0_56, v0_57, v0_58, v0_59, v0_60, v0_61, v0_62, v0_63])), (a1, .inl (cy 0, 16, .inl zI)), (a2, .inl (cy 0, 656, .inl zI))] := hD
  refine lv_iinc (v := 11) (lv' := [(1, .int 11), (0, .ref a0)]) hx hb dX9_keepAct_77 hl (k := 0) rfl (by decide) (by decide) rfl (fun ls hl => ?_)
  refine lv_goto (tgt := 51) hx hb dX9_keepAct_80 (by decide) ?_
  refine lv_iload_n hx hb dX9_keepAct_51 rfl (lv_at hl 0 rfl) ?_
  refine lv_bipush (v := 16) hx hb dX9_keepAct_52 (by decide) ?_
  refine lv_icmp_ge (tgt := 83) hx hb dX9_keepAct_54 (by decide) (fun c => absurd c (by decide)) (fun _ => ?_)
  refine lv_aload_n hx hb dX9_keepAct_57 rfl (lv_at hl 1 rfl) ?_
  refine va_get (D := D) (cl := vwCl) (ci := 9) (v := .ref a2) (C := RX9) (T := TX9) (N := 64) hx hb hts in_X9_keepAct_X9 hown hK hP 0 rfl rfl 44 (by decide) (hts (.fieldLink RX9 94 "EightReasonsModel" "was" "[I") (List.mem_of_getElem? (i := 2) (by decide +kernel))) (fun _ h9 => h9) rfl dX9_keepAct_58 ?_
  refine lv_bipush (v := 16) hx hb dX9_keepAct_61 (by decide) ?_
  refine lv_aload_n hx hb dX9_keepAct_63 rfl (lv_at hl 1 rfl) ?_
  refine va_get (D := D) (cl := vwCl) (ci := 9) (v := .int 0) (C := RX9) (T := TX9) (N := 64) hx hb hts in_X9_keepAct_X9 hown hK hP 0 rfl rfl 45 (by decide) (hts (.fieldLink RX9 368 "EightReasonsModel" "acts" "I") (List.mem_of_getElem? (i := 1) (by decide +kernel))) (fun _ h9 => h9) rfl dX9_keepAct_64 ?_
  refine lv_imul hx hb dX9_keepAct_67 (tpi (v := 0) (by decide) ?_)
  refine lv_iload_n hx hb dX9_keepAct_68 rfl (lv_at hl 0 rfl) ?_
  refine lv_iadd hx hb dX9_keepAct_69 (tpi (v := 11) (by decide) ?_)
  refine lv_aload_n hx hb dX9_keepAct_70 rfl (lv_at hl 1 rfl) ?_
  refine va_get (D := D) (cl := vwCl) (ci := 9) (v := .ref a1) (C := RX9) (T := TX9) (N := 64) hx hb hts in_X9_keepAct_X9 hown hK hP 0 rfl rfl 37 (by decide) (hts (.fieldLink RX9 76 "EightReasonsModel" "all" "[I") (List.mem_of_getElem? (i := 3) (by decide +kernel))) (fun _ h9 => h9) rfl dX9_keepAct_71 ?_
  refine lv_iload_n hx hb dX9_keepAct_74 rfl (lv_at hl 0 rfl) ?_
  refine va_iald hx hb hK hP 1 0 rfl rfl (vin (by decide)) dX9_keepAct_75 (tpi (v := 0) rfl ?_)
  refine va_iast hx hb hK hP hD hS 2 0 rfl rfl (vin (by decide)) dX9_keepAct_76 (fun H locs hP hD hS => ?_)
  rw [zI_upd] at hP hD
  have hP : va_P D vwCl [(a0, .inr (9, [v0_0, v0_1, v0_2, v0_3, v0_4, v0_5, v0_6, v0_7, v0_8, v0_9, v0_10, v0_11, v0_12, v0_13, v0_14, v0_15, v0_16, v0_17, v0_18, v0_19, v0_20, v0_21, v0_22, v0_23, v0_24, v0_25, v0_26, v0_27, v0_28, v0_29, v0_30, v0_31, v0_32, v0_33, v0_34, v0_35, v0_36, .ref a1, v0_38, v0_39, v0_40, v0_41, v0_42, v0_43, .ref a2, .int 0, v0_46, v0_47, v0_48, v0_49, v0_50, v0_51, v0_52, v0_53, v0_54, v0_55, v0_56, v0_57, v0_58, v0_59, v0_60, v0_61, v0_62, v0_63])), (a1, .inl (cy 0, 16, .inl zI)), (a2, .inl (cy 0, 656, .inl zI))] H := hP
  have hD : va_D A [(a0, .inr (9, [v0_0, v0_1, v0_2, v0_3, v0_4, v0_5, v0_6, v0_7, v0_8, v0_9, v0_10, v0_11, v0_12, v0_13, v0_14, v0_15, v0_16, v0_17, v0_18, v0_19, v0_20, v0_21, v0_22, v0_23, v0_24, v0_25, v0_26, v0_27, v0_28, v0_29, v0_30, v0_31, v0_32, v0_33, v0_34, v0_35, v0_36, .ref a1, v0_38, v0_39, v0_40, v0_41, v0_42, v0_43, .ref a2, .int 0, v0_46, v0_47, v0_48, v0_49, v0_50, v0_51, v0_52, v0_53, v0_54, v0_55, v0_56, v0_57, v0_58, v0_59, v0_60, v0_61, v0_62, v0_63])), (a1, .inl (cy 0, 16, .inl zI)), (a2, .inl (cy 0, 656, .inl zI))] := hD
  refine lv_iinc (v := 12) (lv' := [(1, .int 12), (0, .ref a0)]) hx hb dX9_keepAct_77 hl (k := 0) rfl (by decide) (by decide) rfl (fun ls hl => ?_)
  refine lv_goto (tgt := 51) hx hb dX9_keepAct_80 (by decide) ?_
  refine lv_iload_n hx hb dX9_keepAct_51 rfl (lv_at hl 0 rfl) ?_
  refine lv_bipush (v := 16) hx hb dX9_keepAct_52 (by decide) ?_
  refine lv_icmp_ge (tgt := 83) hx hb dX9_keepAct_54 (by decide) (fun c => absurd c (by decide)) (fun _ => ?_)
  refine lv_aload_n hx hb dX9_keepAct_57 rfl (lv_at hl 1 rfl) ?_
  refine va_get (D := D) (cl := vwCl) (ci := 9) (v := .ref a2) (C := RX9) (T := TX9) (N := 64) hx hb hts in_X9_keepAct_X9 hown hK hP 0 rfl rfl 44 (by decide) (hts (.fieldLink RX9 94 "EightReasonsModel" "was" "[I") (List.mem_of_getElem? (i := 2) (by decide +kernel))) (fun _ h9 => h9) rfl dX9_keepAct_58 ?_
  refine lv_bipush (v := 16) hx hb dX9_keepAct_61 (by decide) ?_
  refine lv_aload_n hx hb dX9_keepAct_63 rfl (lv_at hl 1 rfl) ?_
  refine va_get (D := D) (cl := vwCl) (ci := 9) (v := .int 0) (C := RX9) (T := TX9) (N := 64) hx hb hts in_X9_keepAct_X9 hown hK hP 0 rfl rfl 45 (by decide) (hts (.fieldLink RX9 368 "EightReasonsModel" "acts" "I") (List.mem_of_getElem? (i := 1) (by decide +kernel))) (fun _ h9 => h9) rfl dX9_keepAct_64 ?_
  refine lv_imul hx hb dX9_keepAct_67 (tpi (v := 0) (by decide) ?_)
  refine lv_iload_n hx hb dX9_keepAct_68 rfl (lv_at hl 0 rfl) ?_
  refine lv_iadd hx hb dX9_keepAct_69 (tpi (v := 12) (by decide) ?_)
  refine lv_aload_n hx hb dX9_keepAct_70 rfl (lv_at hl 1 rfl) ?_
  refine va_get (D := D) (cl := vwCl) (ci := 9) (v := .ref a1) (C := RX9) (T := TX9) (N := 64) hx hb hts in_X9_keepAct_X9 hown hK hP 0 rfl rfl 37 (by decide) (hts (.fieldLink RX9 76 "EightReasonsModel" "all" "[I") (List.mem_of_getElem? (i := 3) (by decide +kernel))) (fun _ h9 => h9) rfl dX9_keepAct_71 ?_
  refine lv_iload_n hx hb dX9_keepAct_74 rfl (lv_at hl 0 rfl) ?_
  refine va_iald hx hb hK hP 1 0 rfl rfl (vin (by decide)) dX9_keepAct_75 (tpi (v := 0) rfl ?_)
  refine va_iast hx hb hK hP hD hS 2 0 rfl rfl (vin (by decide)) dX9_keepAct_76 (fun H locs hP hD hS => ?_)
  rw [zI_upd] at hP hD
  have hP : va_P D vwCl [(a0, .inr (9, [v0_0, v0_1, v0_2, v0_3, v0_4, v0_5, v0_6, v0_7, v0_8, v0_9, v0_10, v0_11, v0_12, v0_13, v0_14, v0_15, v0_16, v0_17, v0_18, v0_19, v0_20, v0_21, v0_22, v0_23, v0_24, v0_25, v0_26, v0_27, v0_28, v0_29, v0_30, v0_31, v0_32, v0_33, v0_34, v0_35, v0_36, .ref a1, v0_38, v0_39, v0_40, v0_41, v0_42, v0_43, .ref a2, .int 0, v0_46, v0_47, v0_48, v0_49, v0_50, v0_51, v0_52, v0_53, v0_54, v0_55, v0_56, v0_57, v0_58, v0_59, v0_60, v0_61, v0_62, v0_63])), (a1, .inl (cy 0, 16, .inl zI)), (a2, .inl (cy 0, 656, .inl zI))] H := hP
  have hD : va_D A [(a0, .inr (9, [v0_0, v0_1, v0_2, v0_3, v0_4, v0_5, v0_6, v0_7, v0_8, v0_9, v0_10, v0_11, v0_12, v0_13, v0_14, v0_15, v0_16, v0_17, v0_18, v0_19, v0_20, v0_21, v0_22, v0_23, v0_24, v0_25, v0_26, v0_27, v0_28, v0_29, v0_30, v0_31, v0_32, v0_33, v0_34, v0_35, v0_36, .ref a1, v0_38, v0_39, v0_40, v0_41, v0_42, v0_43, .ref a2, .int 0, v0_46, v0_47, v0_48, v0_49, v0_50, v0_51, v0_52, v0_53, v0_54, v0_55, v0_56, v0_57, v0_58, v0_59, v0_60, v0_61, v0_62, v0_63])), (a1, .inl (cy 0, 16, .inl zI)), (a2, .inl (cy 0, 656, .inl zI))] := hD
  refine lv_iinc (v := 13) (lv' := [(1, .int 13), (0, .ref a0)]) hx hb dX9_keepAct_77 hl (k := 0) rfl (by decide) (by decide) rfl (fun ls hl => ?_)
  refine lv_goto (tgt := 51) hx hb dX9_keepAct_80 (by decide) ?_
  refine lv_iload_n hx hb dX9_keepAct_51 rfl (lv_at hl 0 rfl) ?_
  refine lv_bipush (v := 16) hx hb dX9_keepAct_52 (by decide) ?_
  refine lv_icmp_ge (tgt := 83) hx hb dX9_keepAct_54 (by decide) (fun c => absurd c (by decide)) (fun _ => ?_)
  refine lv_aload_n hx hb dX9_keepAct_57 rfl (lv_at hl 1 rfl) ?_
  refine va_get (D := D) (cl := vwCl) (ci := 9) (v := .ref a2) (C := RX9) (T := TX9) (N := 64) hx hb hts in_X9_keepAct_X9 hown hK hP 0 rfl rfl 44 (by decide) (hts (.fieldLink RX9 94 "EightReasonsModel" "was" "[I") (List.mem_of_getElem? (i := 2) (by decide +kernel))) (fun _ h9 => h9) rfl dX9_keepAct_58 ?_
  refine lv_bipush (v := 16) hx hb dX9_keepAct_61 (by decide) ?_
  refine lv_aload_n hx hb dX9_keepAct_63 rfl (lv_at hl 1 rfl) ?_
  refine va_get (D := D) (cl := vwCl) (ci := 9) (v := .int 0) (C := RX9) (T := TX9) (N := 64) hx hb hts in_X9_keepAct_X9 hown hK hP 0 rfl rfl 45 (by decide) (hts (.fieldLink RX9 368 "EightReasonsModel" "acts" "I") (List.mem_of_getElem? (i := 1) (by decide +kernel))) (fun _ h9 => h9) rfl dX9_keepAct_64 ?_
  refine lv_imul hx hb dX9_keepAct_67 (tpi (v := 0) (by decide) ?_)
  refine lv_iload_n hx hb dX9_keepAct_68 rfl (lv_at hl 0 rfl) ?_
  refine lv_iadd hx hb dX9_keepAct_69 (tpi (v := 13) (by decide) ?_)
  refine lv_aload_n hx hb dX9_keepAct_70 rfl (lv_at hl 1 rfl) ?_
  refine va_get (D := D) (cl := vwCl) (ci := 9) (v := .ref a1) (C := RX9) (T := TX9) (N := 64) hx hb hts in_X9_keepAct_X9 hown hK hP 0 rfl rfl 37 (by decide) (hts (.fieldLink RX9 76 "EightReasonsModel" "all" "[I") (List.mem_of_getElem? (i := 3) (by decide +kernel))) (fun _ h9 => h9) rfl dX9_keepAct_71 ?_
  refine lv_iload_n hx hb dX9_keepAct_74 rfl (lv_at hl 0 rfl) ?_
  refine va_iald hx hb hK hP 1 0 rfl rfl (vin (by decide)) dX9_keepAct_75 (tpi (v := 0) rfl ?_)
  refine va_iast hx hb hK hP hD hS 2 0 rfl rfl (vin (by decide)) dX9_keepAct_76 (fun H locs hP hD hS => ?_)
  rw [zI_upd] at hP hD
  have hP : va_P D vwCl [(a0, .inr (9, [v0_0, v0_1, v0_2, v0_3, v0_4, v0_5, v0_6, v0_7, v0_8, v0_9, v0_10, v0_11, v0_12, v0_13, v0_14, v0_15, v0_16, v0_17, v0_18, v0_19, v0_20, v0_21, v0_22, v0_23, v0_24, v0_25, v0_26, v0_27, v0_28, v0_29, v0_30, v0_31, v0_32, v0_33, v0_34, v0_35, v0_36, .ref a1, v0_38, v0_39, v0_40, v0_41, v0_42, v0_43, .ref a2, .int 0, v0_46, v0_47, v0_48, v0_49, v0_50, v0_51, v0_52, v0_53, v0_54, v0_55, v0_56, v0_57, v0_58, v0_59, v0_60, v0_61, v0_62, v0_63])), (a1, .inl (cy 0, 16, .inl zI)), (a2, .inl (cy 0, 656, .inl zI))] H := hP
  have hD : va_D A [(a0, .inr (9, [v0_0, v0_1, v0_2, v0_3, v0_4, v0_5, v0_6, v0_7, v0_8, v0_9, v0_10, v0_11, v0_12, v0_13, v0_14, v0_15, v0_16, v0_17, v0_18, v0_19, v0_20, v0_21, v0_22, v0_23, v0_24, v0_25, v0_26, v0_27, v0_28, v0_29, v0_30, v0_31, v0_32, v0_33, v0_34, v0_35, v0_36, .ref a1, v0_38, v0_39, v0_40, v0_41, v0_42, v0_43, .ref a2, .int 0, v0_46, v0_47, v0_48, v0_49, v0_50, v0_51, v0_52, v0_53, v0_54, v0_55, v0_56, v0_57, v0_58, v0_59, v0_60, v0_61, v0_62, v0_63])), (a1, .inl (cy 0, 16, .inl zI)), (a2, .inl (cy 0, 656, .inl zI))] := hD
  refine lv_iinc (v := 14) (lv' := [(1, .int 14), (0, .ref a0)]) hx hb dX9_keepAct_77 hl (k := 0) rfl (by decide) (by decide) rfl (fun ls hl => ?_)
  refine lv_goto (tgt := 51) hx hb dX9_keepAct_80 (by decide) ?_
  refine lv_iload_n hx hb dX9_keepAct_51 rfl (lv_at hl 0 rfl) ?_
  refine lv_bipush (v := 16) hx hb dX9_keepAct_52 (by decide) ?_
  refine lv_icmp_ge (tgt := 83) hx hb dX9_keepAct_54 (by decide) (fun c => absurd c (by decide)) (fun _ => ?_)
  refine lv_aload_n hx hb dX9_keepAct_57 rfl (lv_at hl 1 rfl) ?_
  refine va_get (D := D) (cl := vwCl) (ci := 9) (v := .ref a2) (C := RX9) (T := TX9) (N := 64) hx hb hts in_X9_keepAct_X9 hown hK hP 0 rfl rfl 44 (by decide) (hts (.fieldLink RX9 94 "EightReasonsModel" "was" "[I") (List.mem_of_getElem? (i := 2) (by decide +kernel))) (fun _ h9 => h9) rfl dX9_keepAct_58 ?_
  refine lv_bipush (v := 16) hx hb dX9_keepAct_61 (by decide) ?_
  refine lv_aload_n hx hb dX9_keepAct_63 rfl (lv_at hl 1 rfl) ?_
  refine va_get (D := D) (cl := vwCl) (ci := 9) (v := .int 0) (C := RX9) (T := TX9) (N := 64) hx hb hts in_X9_keepAct_X9 hown hK hP 0 rfl rfl 45 (by decide) (hts (.fieldLink RX9 368 "EightReasonsModel" "acts" "I") (List.mem_of_getElem? (i := 1) (by decide +kernel))) (fun _ h9 => h9) rfl dX9_keepAct_64 ?_
  refine lv_imul hx hb dX9_keepAct_67 (tpi (v := 0) (by decide) ?_)
  refine lv_iload_n hx hb dX9_keepAct_68 rfl (lv_at hl 0 rfl) ?_
  refine lv_iadd hx hb dX9_keepAct_69 (tpi (v := 14) (by decide) ?_)
  refine lv_aload_n hx hb dX9_keepAct_70 rfl (lv_at hl 1 rfl) ?_
  refine va_get (D := D) (cl := vwCl) (ci := 9) (v := .ref a1) (C := RX9) (T := TX9) (N := 64) hx hb hts in_X9_keepAct_X9 hown hK hP 0 rfl rfl 37 (by decide) (hts (.fieldLink RX9 76 "EightReasonsModel" "all" "[I") (List.mem_of_getElem? (i := 3) (by decide +kernel))) (fun _ h9 => h9) rfl dX9_keepAct_71 ?_
  refine lv_iload_n hx hb dX9_keepAct_74 rfl (lv_at hl 0 rfl) ?_
  refine va_iald hx hb hK hP 1 0 rfl rfl (vin (by decide)) dX9_keepAct_75 (tpi (v := 0) rfl ?_)
  refine va_iast hx hb hK hP hD hS 2 0 rfl rfl (vin (by decide)) dX9_keepAct_76 (fun H locs hP hD hS => ?_)
  rw [zI_upd] at hP hD
  have hP : va_P D vwCl [(a0, .inr (9, [v0_0, v0_1, v0_2, v0_3, v0_4, v0_5, v0_6, v0_7, v0_8, v0_9, v0_10, v0_11, v0_12, v0_13, v0_14, v0_15, v0_16, v0_17, v0_18, v0_19, v0_20, v0_21, v0_22, v0_23, v0_24, v0_25, v0_26, v0_27, v0_28, v0_29, v0_30, v0_31, v0_32, v0_33, v0_34, v0_35, v0_36, .ref a1, v0_38, v0_39, v0_40, v0_41, v0_42, v0_43, .ref a2, .int 0, v0_46, v0_47, v0_48, v0_49, v0_50, v0_51, v0_52, v0_53, v0_54, v0_55, v0_56, v0_57, v0_58, v0_59, v0_60, v0_61, v0_62, v0_63])), (a1, .inl (cy 0, 16, .inl zI)), (a2, .inl (cy 0, 656, .inl zI))] H := hP
  have hD : va_D A [(a0, .inr (9, [v0_0, v0_1, v0_2, v0_3, v0_4, v0_5, v0_6, v0_7, v0_8, v0_9, v0_10, v0_11, v0_12, v0_13, v0_14, v0_15, v0_16, v0_17, v0_18, v0_19, v0_20, v0_21, v0_22, v0_23, v0_24, v0_25, v0_26, v0_27, v0_28, v0_29, v0_30, v0_31, v0_32, v0_33, v0_34, v0_35, v0_36, .ref a1, v0_38, v0_39, v0_40, v0_41, v0_42, v0_43, .ref a2, .int 0, v0_46, v0_47, v0_48, v0_49, v0_50, v0_51, v0_52, v0_53, v0_54, v0_55, v0_56, v0_57, v0_58, v0_59, v0_60, v0_61, v0_62, v0_63])), (a1, .inl (cy 0, 16, .inl zI)), (a2, .inl (cy 0, 656, .inl zI))] := hD
  refine lv_iinc (v := 15) (lv' := [(1, .int 15), (0, .ref a0)]) hx hb dX9_keepAct_77 hl (k := 0) rfl (by decide) (by decide) rfl (fun ls hl => ?_)
  refine lv_goto (tgt := 51) hx hb dX9_keepAct_80 (by decide) ?_
  refine lv_iload_n hx hb dX9_keepAct_51 rfl (lv_at hl 0 rfl) ?_
  refine lv_bipush (v := 16) hx hb dX9_keepAct_52 (by decide) ?_
  refine lv_icmp_ge (tgt := 83) hx hb dX9_keepAct_54 (by decide) (fun c => absurd c (by decide)) (fun _ => ?_)
  refine lv_aload_n hx hb dX9_keepAct_57 rfl (lv_at hl 1 rfl) ?_
  refine va_get (D := D) (cl := vwCl) (ci := 9) (v := .ref a2) (C := RX9) (T := TX9) (N := 64) hx hb hts in_X9_keepAct_X9 hown hK hP 0 rfl rfl 44 (by decide) (hts (.fieldLink RX9 94 "EightReasonsModel" "was" "[I") (List.mem_of_getElem? (i := 2) (by decide +kernel))) (fun _ h9 => h9) rfl dX9_keepAct_58 ?_
  refine lv_bipush (v := 16) hx hb dX9_keepAct_61 (by decide) ?_
  refine lv_aload_n hx hb dX9_keepAct_63 rfl (lv_at hl 1 rfl) ?_
  refine va_get (D := D) (cl := vwCl) (ci := 9) (v := .int 0) (C := RX9) (T := TX9) (N := 64) hx hb hts in_X9_keepAct_X9 hown hK hP 0 rfl rfl 45 (by decide) (hts (.fieldLink RX9 368 "EightReasonsModel" "acts" "I") (List.mem_of_getElem? (i := 1) (by decide +kernel))) (fun _ h9 => h9) rfl dX9_keepAct_64 ?_
  refine lv_imul hx hb dX9_keepAct_67 (tpi (v := 0) (by decide) ?_)
  refine lv_iload_n hx hb dX9_keepAct_68 rfl (lv_at hl 0 rfl) ?_
  refine lv_iadd hx hb dX9_keepAct_69 (tpi (v := 15) (by decide) ?_)
  refine lv_aload_n hx hb dX9_keepAct_70 rfl (lv_at hl 1 rfl) ?_
  refine va_get (D := D) (cl := vwCl) (ci := 9) (v := .ref a1) (C := RX9) (T := TX9) (N := 64) hx hb hts in_X9_keepAct_X9 hown hK hP 0 rfl rfl 37 (by decide) (hts (.fieldLink RX9 76 "EightReasonsModel" "all" "[I") (List.mem_of_getElem? (i := 3) (by decide +kernel))) (fun _ h9 => h9) rfl dX9_keepAct_71 ?_
  refine lv_iload_n hx hb dX9_keepAct_74 rfl (lv_at hl 0 rfl) ?_
  refine va_iald hx hb hK hP 1 0 rfl rfl (vin (by decide)) dX9_keepAct_75 (tpi (v := 0) rfl ?_)
  refine va_iast hx hb hK hP hD hS 2 0 rfl rfl (vin (by decide)) dX9_keepAct_76 (fun H locs hP hD hS => ?_)
  rw [zI_upd] at hP hD
  have hP : va_P D vwCl [(a0, .inr (9, [v0_0, v0_1, v0_2, v0_3, v0_4, v0_5, v0_6, v0_7, v0_8, v0_9, v0_10, v0_11, v0_12, v0_13, v0_14, v0_15, v0_16, v0_17, v0_18, v0_19, v0_20, v0_21, v0_22, v0_23, v0_24, v0_25, v0_26, v0_27, v0_28, v0_29, v0_30, v0_31, v0_32, v0_33, v0_34, v0_35, v0_36, .ref a1, v0_38, v0_39, v0_40, v0_41, v0_42, v0_43, .ref a2, .int 0, v0_46, v0_47, v0_48, v0_49, v0_50, v0_51, v0_52, v0_53, v0_54, v0_55, v0_56, v0_57, v0_58, v0_59, v0_60, v0_61, v0_62, v0_63])), (a1, .inl (cy 0, 16, .inl zI)), (a2, .inl (cy 0, 656, .inl zI))] H := hP
  have hD : va_D A [(a0, .inr (9, [v0_0, v0_1, v0_2, v0_3, v0_4, v0_5, v0_6, v0_7, v0_8, v0_9, v0_10, v0_11, v0_12, v0_13, v0_14, v0_15, v0_16, v0_17, v0_18, v0_19, v0_20, v0_21, v0_22, v0_23, v0_24, v0_25, v0_26, v0_27, v0_28, v0_29, v0_30, v0_31, v0_32, v0_33, v0_34, v0_35, v0_36, .ref a1, v0_38, v0_39, v0_40, v0_41, v0_42, v0_43, .ref a2, .int 0, v0_46, v0_47, v0_48, v0_49, v0_50, v0_51, v0_52, v0_53, v0_54, v0_55, v0_56, v0_57, v0_58, v0_59, v0_60, v0_61, v0_62, v0_63])), (a1, .inl (cy 0, 16, .inl zI)), (a2, .inl (cy 0, 656, .inl zI))] := hD
  refine lv_iinc (v := 16) (lv' := [(1, .int 16), (0, .ref a0)]) hx hb dX9_keepAct_77 hl (k := 0) rfl (by decide) (by decide) rfl (fun ls hl => ?_)
  refine lv_goto (tgt := 51) hx hb dX9_keepAct_80 (by decide) ?_
  refine lv_iload_n hx hb dX9_keepAct_51 rfl (lv_at hl 0 rfl) ?_
  refine lv_bipush (v := 16) hx hb dX9_keepAct_52 (by decide) ?_
  refine lv_icmp_ge (tgt := 83) hx hb dX9_keepAct_54 (by decide) (fun _ => ?_) (fun c => absurd (by decide) c)
  refine lv_aload_n hx hb dX9_keepAct_83 rfl (lv_at hl 1 rfl) ?_
  refine lv_dup hx hb dX9_keepAct_84 rfl ?_
  refine va_get (D := D) (cl := vwCl) (ci := 9) (v := .int 0) (C := RX9) (T := TX9) (N := 64) hx hb hts in_X9_keepAct_X9 hown hK hP 0 rfl rfl 45 (by decide) (hts (.fieldLink RX9 368 "EightReasonsModel" "acts" "I") (List.mem_of_getElem? (i := 1) (by decide +kernel))) (fun _ h9 => h9) rfl dX9_keepAct_85 ?_
  refine lv_iconst (v := 1) hx hb dX9_keepAct_88 (by decide) ?_
  refine lv_iadd hx hb dX9_keepAct_89 (tpi (v := 1) (by decide) ?_)
  refine va_put (D := D) (cl := vwCl) (ci := 9) (v := .int 1) (ty := tyX9 45) (C := RX9) (T := TX9) (N := 64) hx hb hts in_X9_keepAct_X9 tyX9 tyX9_ok nmX9 hown hK hP hD hS 0 rfl rfl 45 (by decide) (hts (.fieldLink RX9 368 "EightReasonsModel" "acts" "I") (List.mem_of_getElem? (i := 1) (by decide +kernel))) (fun _ h9 => h9) rfl (tyX9_ok 45 (by decide)) rfl rfl (Nat.le_of_ble_eq_true rfl) dX9_keepAct_90 (fun H locs hP hD hS => ?_)
  have hP : va_P D vwCl [(a0, .inr (9, [v0_0, v0_1, v0_2, v0_3, v0_4, v0_5, v0_6, v0_7, v0_8, v0_9, v0_10, v0_11, v0_12, v0_13, v0_14, v0_15, v0_16, v0_17, v0_18, v0_19, v0_20, v0_21, v0_22, v0_23, v0_24, v0_25, v0_26, v0_27, v0_28, v0_29, v0_30, v0_31, v0_32, v0_33, v0_34, v0_35, v0_36, .ref a1, v0_38, v0_39, v0_40, v0_41, v0_42, v0_43, .ref a2, .int 1, v0_46, v0_47, v0_48, v0_49, v0_50, v0_51, v0_52, v0_53, v0_54, v0_55, v0_56, v0_57, v0_58, v0_59, v0_60, v0_61, v0_62, v0_63])), (a1, .inl (cy 0, 16, .inl zI)), (a2, .inl (cy 0, 656, .inl zI))] H := hP
  have hD : va_D A [(a0, .inr (9, [v0_0, v0_1, v0_2, v0_3, v0_4, v0_5, v0_6, v0_7, v0_8, v0_9, v0_10, v0_11, v0_12, v0_13, v0_14, v0_15, v0_16, v0_17, v0_18, v0_19, v0_20, v0_21, v0_22, v0_23, v0_24, v0_25, v0_26, v0_27, v0_28, v0_29, v0_30, v0_31, v0_32, v0_33, v0_34, v0_35, v0_36, .ref a1, v0_38, v0_39, v0_40, v0_41, v0_42, v0_43, .ref a2, .int 1, v0_46, v0_47, v0_48, v0_49, v0_50, v0_51, v0_52, v0_53, v0_54, v0_55, v0_56, v0_57, v0_58, v0_59, v0_60, v0_61, v0_62, v0_63])), (a1, .inl (cy 0, 16, .inl zI)), (a2, .inl (cy 0, 656, .inl zI))] := hD
  refine lv_aload_n hx hb dX9_keepAct_93 rfl (lv_at hl 1 rfl) ?_
  refine lv_iconst (v := 0) hx hb dX9_keepAct_94 (by decide) ?_
  refine va_put (D := D) (cl := vwCl) (ci := 9) (v := .int 0) (ty := tyX9 46) (C := RX9) (T := TX9) (N := 64) hx hb hts in_X9_keepAct_X9 tyX9 tyX9_ok nmX9 hown hK hP hD hS 0 rfl rfl 46 (by decide) (hts (.fieldLink RX9 371 "EightReasonsModel" "undone" "I") (List.mem_of_getElem? (i := 4) (by decide +kernel))) (fun _ h9 => h9) rfl (tyX9_ok 46 (by decide)) rfl rfl (Nat.le_of_ble_eq_true rfl) dX9_keepAct_95 (fun H locs hP hD hS => ?_)
  have hP : va_P D vwCl [(a0, .inr (9, [v0_0, v0_1, v0_2, v0_3, v0_4, v0_5, v0_6, v0_7, v0_8, v0_9, v0_10, v0_11, v0_12, v0_13, v0_14, v0_15, v0_16, v0_17, v0_18, v0_19, v0_20, v0_21, v0_22, v0_23, v0_24, v0_25, v0_26, v0_27, v0_28, v0_29, v0_30, v0_31, v0_32, v0_33, v0_34, v0_35, v0_36, .ref a1, v0_38, v0_39, v0_40, v0_41, v0_42, v0_43, .ref a2, .int 1, .int 0, v0_47, v0_48, v0_49, v0_50, v0_51, v0_52, v0_53, v0_54, v0_55, v0_56, v0_57, v0_58, v0_59, v0_60, v0_61, v0_62, v0_63])), (a1, .inl (cy 0, 16, .inl zI)), (a2, .inl (cy 0, 656, .inl zI))] H := hP
  have hD : va_D A [(a0, .inr (9, [v0_0, v0_1, v0_2, v0_3, v0_4, v0_5, v0_6, v0_7, v0_8, v0_9, v0_10, v0_11, v0_12, v0_13, v0_14, v0_15, v0_16, v0_17, v0_18, v0_19, v0_20, v0_21, v0_22, v0_23, v0_24, v0_25, v0_26, v0_27, v0_28, v0_29, v0_30, v0_31, v0_32, v0_33, v0_34, v0_35, v0_36, .ref a1, v0_38, v0_39, v0_40, v0_41, v0_42, v0_43, .ref a2, .int 1, .int 0, v0_47, v0_48, v0_49, v0_50, v0_51, v0_52, v0_53, v0_54, v0_55, v0_56, v0_57, v0_58, v0_59, v0_60, v0_61, v0_62, v0_63])), (a1, .inl (cy 0, 16, .inl zI)), (a2, .inl (cy 0, 656, .inl zI))] := hD
  exact rtV hx hb hr hlk hP hD hS () [0, 1, 2] rfl rfl trivial dX9_keepAct_98
set_option maxHeartbeats 4000000 in
set_option maxRecDepth 100000 in
theorem k_X9_goDay_0 (l : Launch) (D : va_G) (cy : Nat → ClassId) (a0 a1 : Nat) (v0_0 : Value) (v0_1 : Value) (v0_2 : Value) (v0_3 : Value) (v0_4 : Value) (v0_5 : Value) (v0_6 : Value) (v0_7 : Value) (v0_8 : Value) (v0_9 : Value) (v0_10 : Value) (v0_11 : Value) (v0_13 : Value) (v0_14 : Value) (v0_15 : Value) (v0_16 : Value) (v0_17 : Value) (v0_18 : Value) (v0_19 : Value) (v0_20 : Value) (v0_21 : Value) (v0_22 : Value) (v0_23 : Value) (v0_24 : Value) (v0_25 : Value) (v0_26 : Value) (v0_27 : Value) (v0_28 : Value) (v0_30 : Value) (v0_31 : Value) (v0_32 : Value) (v0_33 : Value) (v0_34 : Value) (v0_35 : Value) (v0_36 : Value) (v0_37 : Value) (v0_38 : Value) (v0_39 : Value) (v0_40 : Value) (v0_41 : Value) (v0_42 : Value) (v0_43 : Value) (v0_44 : Value) (v0_45 : Value) (v0_46 : Value) (v0_47 : Value) (v0_48 : Value) (v0_49 : Value) (v0_50 : Value) (v0_51 : Value) (v0_52 : Value) (v0_53 : Value) (v0_54 : Value) (v0_55 : Value) (v0_56 : Value) (v0_57 : Value) (v0_58 : Value) (v0_59 : Value) (v0_60 : Value) (v0_61 : Value) (v0_62 : Value) (v0_63 : Value) (sz : Nat) : CtI l yX9_goDay wsX9_goDay 1 20 [.ref a0] D cy [(a0, .inr (9, [v0_0, v0_1, v0_2, v0_3, v0_4, v0_5, v0_6, v0_7, v0_8, v0_9, v0_10, v0_11, .ref a1, v0_13, v0_14, v0_15, v0_16, v0_17, v0_18, v0_19, v0_20, v0_21, v0_22, v0_23, v0_24, v0_25, v0_26, v0_27, v0_28, .int 0, v0_30, v0_31, v0_32, v0_33, v0_34, v0_35, v0_36, v0_37, v0_38, v0_39, v0_40, v0_41, v0_42, v0_43, v0_44, v0_45, v0_46, v0_47, v0_48, v0_49, v0_50, v0_51, v0_52, v0_53, v0_54, v0_55, v0_56, v0_57, v0_58, v0_59, v0_60, v0_61, v0_62, v0_63])), (a1, .inl (cy 0, 2, .inl zI))] sz 0 0 (fun (r : Int32) (_ : Unit) => r = 0) (fun _ => [(a0, .inr (9, [v0_0, v0_1, v0_2, v0_3, v0_4, v0_5, v0_6, v0_7, v0_8, v0_9, v0_10, v0_11, .ref a1, v0_13, v0_14, v0_15, v0_16, v0_17, v0_18, v0_19, v0_20, v0_21, v0_22, v0_23, v0_24, v0_25, v0_26, v0_27, v0_28, .int 0, v0_30, v0_31, v0_32, v0_33, v0_34, v0_35, v0_36, v0_37, v0_38, v0_39, v0_40, v0_41, v0_42, v0_43, v0_44, v0_45, v0_46, v0_47, v0_48, v0_49, v0_50, v0_51, v0_52, v0_53, v0_54, v0_55, v0_56, v0_57, v0_58, v0_59, v0_60, v0_61, v0_62, v0_63])), (a1, .inl (cy 0, 2, .inl zI))]) := by
  refine CtI.of (cc := cX9_goDay) (maxL := 3) (ty := .int) (own := RX9) (by decide) rfl (Nat.le_of_ble_eq_true rfl) rfl ?_
  intro p e s m below meth c A ls hx hb hr hml hts hown hlk hK hP hD hS hA hl
  have hl : lv_has ls 3 [(0, .ref a0)] := hl
  refine st0 (fun H locs hP hS => ?_) hP hS
  have hP : va_P D vwCl [(a0, .inr (9, [v0_0, v0_1, v0_2, v0_3, v0_4, v0_5, v0_6, v0_7, v0_8, v0_9, v0_10, v0_11, .ref a1, v0_13, v0_14, v0_15, v0_16, v0_17, v0_18, v0_19, v0_20, v0_21, v0_22, v0_23, v0_24, v0_25, v0_26, v0_27, v0_28, .int 0, v0_30, v0_31, v0_32, v0_33, v0_34, v0_35, v0_36, v0_37, v0_38, v0_39, v0_40, v0_41, v0_42, v0_43, v0_44, v0_45, v0_46, v0_47, v0_48, v0_49, v0_50, v0_51, v0_52, v0_53, v0_54, v0_55, v0_56, v0_57, v0_58, v0_59, v0_60, v0_61, v0_62, v0_63])), (a1, .inl (cy 0, 2, .inl zI))] H := hP
  have hD : va_D A [(a0, .inr (9, [v0_0, v0_1, v0_2, v0_3, v0_4, v0_5, v0_6, v0_7, v0_8, v0_9, v0_10, v0_11, .ref a1, v0_13, v0_14, v0_15, v0_16, v0_17, v0_18, v0_19, v0_20, v0_21, v0_22, v0_23, v0_24, v0_25, v0_26, v0_27, v0_28, .int 0, v0_30, v0_31, v0_32, v0_33, v0_34, v0_35, v0_36, v0_37, v0_38, v0_39, v0_40, v0_41, v0_42, v0_43, v0_44, v0_45, v0_46, v0_47, v0_48, v0_49, v0_50, v0_51, v0_52, v0_53, v0_54, v0_55, v0_56, v0_57, v0_58, v0_59, v0_60, v0_61, v0_62, v0_63])), (a1, .inl (cy 0, 2, .inl zI))] := hD
  refine lv_iconst (v := 0) hx hb dX9_goDay_0 (by decide) ?_
  refine lv_istore_n (lv' := [(1, .int 0), (0, .ref a0)]) hx hb dX9_goDay_1 rfl hl (by decide) rfl (fun ls hl => ?_)
  refine lv_iconst (v := 0) hx hb dX9_goDay_2 (by decide) ?_
  refine lv_istore_n (lv' := [(2, .int 0), (1, .int 0), (0, .ref a0)]) hx hb dX9_goDay_3 rfl hl (by decide) rfl (fun ls hl => ?_)
  refine lv_iload_n hx hb dX9_goDay_4 rfl (lv_at hl 0 rfl) ?_
  refine lv_aload_n hx hb dX9_goDay_5 rfl (lv_at hl 2 rfl) ?_
  refine clVI (As := []) (rest := [.int 0]) (wr := []) ⟨hx, hb, hml, hown, hts⟩ hK hP hD hS hA (k_X9_threads_1 l D cy a0 a1 (v0_0) (v0_1) (v0_2) (v0_3) (v0_4) (v0_5) (v0_6) (v0_7) (v0_8) (v0_9) (v0_10) (v0_11) (v0_13) (v0_14) (v0_15) (v0_16) (v0_17) (v0_18) (v0_19) (v0_20) (v0_21) (v0_22) (v0_23) (v0_24) (v0_25) (v0_26) (v0_27) (v0_28) (v0_30) (v0_31) (v0_32) (v0_33) (v0_34) (v0_35) (v0_36) (v0_37) (v0_38) (v0_39) (v0_40) (v0_41) (v0_42) (v0_43) (v0_44) (v0_45) (v0_46) (v0_47) (v0_48) (v0_49) (v0_50) (v0_51) (v0_52) (v0_53) (v0_54) (v0_55) (v0_56) (v0_57) (v0_58) (v0_59) (v0_60) (v0_61) (v0_62) (v0_63) _) (cwV 0 hts gX9_goDay_X9_threads rfl rfl rfl (by decide +kernel) ⟨Nat.le_of_ble_eq_true rfl, Nat.le_of_ble_eq_true rfl⟩) 0 9 rfl rfl [0, 1] [] rfl rfl rfl rfl (by decide) rfl hl.1 rfl (Nat.le_of_ble_eq_true rfl) dX9_goDay_6 ⟨Nat.le_of_ble_eq_true rfl, Nat.le_of_ble_eq_true rfl⟩ rfl rfl (fun r _ H locs hw hP hD hS => ?_)
  have hP : va_P D vwCl [(a0, .inr (9, [v0_0, v0_1, v0_2, v0_3, v0_4, v0_5, v0_6, v0_7, v0_8, v0_9, v0_10, v0_11, .ref a1, v0_13, v0_14, v0_15, v0_16, v0_17, v0_18, v0_19, v0_20, v0_21, v0_22, v0_23, v0_24, v0_25, v0_26, v0_27, v0_28, .int 0, v0_30, v0_31, v0_32, v0_33, v0_34, v0_35, v0_36, v0_37, v0_38, v0_39, v0_40, v0_41, v0_42, v0_43, v0_44, v0_45, v0_46, v0_47, v0_48, v0_49, v0_50, v0_51, v0_52, v0_53, v0_54, v0_55, v0_56, v0_57, v0_58, v0_59, v0_60, v0_61, v0_62, v0_63])), (a1, .inl (cy 0, 2, .inl zI))] H := hP
  have hD : va_D A [(a0, .inr (9, [v0_0, v0_1, v0_2, v0_3, v0_4, v0_5, v0_6, v0_7, v0_8, v0_9, v0_10, v0_11, .ref a1, v0_13, v0_14, v0_15, v0_16, v0_17, v0_18, v0_19, v0_20, v0_21, v0_22, v0_23, v0_24, v0_25, v0_26, v0_27, v0_28, .int 0, v0_30, v0_31, v0_32, v0_33, v0_34, v0_35, v0_36, v0_37, v0_38, v0_39, v0_40, v0_41, v0_42, v0_43, v0_44, v0_45, v0_46, v0_47, v0_48, v0_49, v0_50, v0_51, v0_52, v0_53, v0_54, v0_55, v0_56, v0_57, v0_58, v0_59, v0_60, v0_61, v0_62, v0_63])), (a1, .inl (cy 0, 2, .inl zI))] := hD
  obtain rfl : r = 0 := hw
  refine lv_icmp_ge (tgt := 113) hx hb dX9_goDay_9 (by decide) (fun _ => ?_) (fun c => absurd (by decide) c)
  refine lv_iload_n hx hb dX9_goDay_113 rfl (lv_at hl 1 rfl) ?_
  exact rtI hx hb hr hlk rfl hP hD hS () [0, 1] rfl rfl rfl dX9_goDay_114
set_option maxHeartbeats 4000000 in
set_option maxRecDepth 100000 in
theorem k_X9_day_0 (l : Launch) (D : va_G) (cy : Nat → ClassId) (a0 a1 a2 a3 : Nat) (v0_0 : Value) (v0_1 : Value) (v0_2 : Value) (v0_3 : Value) (v0_4 : Value) (v0_5 : Value) (v0_6 : Value) (v0_7 : Value) (v0_8 : Value) (v0_9 : Value) (v0_10 : Value) (v0_11 : Value) (v0_13 : Value) (v0_14 : Value) (v0_15 : Value) (v0_16 : Value) (v0_17 : Value) (v0_18 : Value) (v0_19 : Value) (v0_20 : Value) (v0_21 : Value) (v0_22 : Value) (v0_23 : Value) (v0_24 : Value) (v0_25 : Value) (v0_26 : Value) (v0_27 : Value) (v0_28 : Value) (v0_30 : Value) (v0_31 : Value) (v0_32 : Value) (v0_33 : Value) (v0_34 : Value) (v0_35 : Value) (v0_36 : Value) (v0_38 : Value) (v0_39 : Value) (v0_40 : Value) (v0_41 : Value) (v0_42 : Value) (v0_43 : Value) (v0_46 : Value) (v0_47 : Value) (v0_48 : Value) (v0_49 : Value) (v0_50 : Value) (v0_51 : Value) (v0_52 : Value) (v0_53 : Value) (v0_54 : Value) (v0_55 : Value) (v0_56 : Value) (v0_57 : Value) (v0_58 : Value) (v0_59 : Value) (v0_60 : Value) (v0_61 : Value) (v0_62 : Value) (v0_63 : Value) (sz : Nat) : CtI l yX9_day wsX9_day 2 42 [.ref a0] D cy [(a0, .inr (9, [v0_0, v0_1, v0_2, v0_3, v0_4, v0_5, v0_6, v0_7, v0_8, v0_9, v0_10, v0_11, .ref a3, v0_13, v0_14, v0_15, v0_16, v0_17, v0_18, v0_19, v0_20, v0_21, v0_22, v0_23, v0_24, v0_25, v0_26, v0_27, v0_28, .int 0, v0_30, v0_31, v0_32, v0_33, v0_34, v0_35, v0_36, .ref a1, v0_38, v0_39, v0_40, v0_41, v0_42, v0_43, .ref a2, .int 0, v0_46, v0_47, v0_48, v0_49, v0_50, v0_51, v0_52, v0_53, v0_54, v0_55, v0_56, v0_57, v0_58, v0_59, v0_60, v0_61, v0_62, v0_63])), (a1, .inl (cy 0, 16, .inl zI)), (a2, .inl (cy 0, 656, .inl zI)), (a3, .inl (cy 0, 2, .inl zI))] sz 0 0 (fun (r : Int32) (_ : Unit) => r = 0) (fun _ => []) := by
  refine CtI.of (cc := cX9_day) (maxL := 1) (ty := .int) (own := RX9) (by decide) rfl (Nat.le_of_ble_eq_true rfl) rfl ?_
  intro p e s m below meth c A ls hx hb hr hml hts hown hlk hK hP hD hS hA hl
  have hl : lv_has ls 1 [(0, .ref a0)] := hl
  refine st0 (fun H locs hP hS => ?_) hP hS
  have hP : va_P D vwCl [(a0, .inr (9, [v0_0, v0_1, v0_2, v0_3, v0_4, v0_5, v0_6, v0_7, v0_8, v0_9, v0_10, v0_11, .ref a3, v0_13, v0_14, v0_15, v0_16, v0_17, v0_18, v0_19, v0_20, v0_21, v0_22, v0_23, v0_24, v0_25, v0_26, v0_27, v0_28, .int 0, v0_30, v0_31, v0_32, v0_33, v0_34, v0_35, v0_36, .ref a1, v0_38, v0_39, v0_40, v0_41, v0_42, v0_43, .ref a2, .int 0, v0_46, v0_47, v0_48, v0_49, v0_50, v0_51, v0_52, v0_53, v0_54, v0_55, v0_56, v0_57, v0_58, v0_59, v0_60, v0_61, v0_62, v0_63])), (a1, .inl (cy 0, 16, .inl zI)), (a2, .inl (cy 0, 656, .inl zI)), (a3, .inl (cy 0, 2, .inl zI))] H := hP
  have hD : va_D A [(a0, .inr (9, [v0_0, v0_1, v0_2, v0_3, v0_4, v0_5, v0_6, v0_7, v0_8, v0_9, v0_10, v0_11, .ref a3, v0_13, v0_14, v0_15, v0_16, v0_17, v0_18, v0_19, v0_20, v0_21, v0_22, v0_23, v0_24, v0_25, v0_26, v0_27, v0_28, .int 0, v0_30, v0_31, v0_32, v0_33, v0_34, v0_35, v0_36, .ref a1, v0_38, v0_39, v0_40, v0_41, v0_42, v0_43, .ref a2, .int 0, v0_46, v0_47, v0_48, v0_49, v0_50, v0_51, v0_52, v0_53, v0_54, v0_55, v0_56, v0_57, v0_58, v0_59, v0_60, v0_61, v0_62, v0_63])), (a1, .inl (cy 0, 16, .inl zI)), (a2, .inl (cy 0, 656, .inl zI)), (a3, .inl (cy 0, 2, .inl zI))] := hD
  refine lv_aload_n hx hb dX9_day_0 rfl (lv_at hl 0 rfl) ?_
  refine va_get (D := D) (cl := vwCl) (ci := 9) (v := .ref a1) (C := RX9) (T := TX9) (N := 64) hx hb hts in_X9_day_X9 hown hK hP 0 rfl rfl 37 (by decide) (hts (.fieldLink RX9 76 "EightReasonsModel" "all" "[I") (List.mem_of_getElem? (i := 1) (by decide +kernel))) (fun _ h9 => h9) rfl dX9_day_1 ?_
  refine lv_bipush (v := 14) hx hb dX9_day_4 (by decide) ?_
  refine va_iald hx hb hK hP 1 0 rfl rfl (vin (by decide)) dX9_day_6 (tpi (v := 0) rfl ?_)
  refine lv_sipush (v := 999) hx hb dX9_day_7 (by decide) ?_
  refine lv_icmp_ne (tgt := 15) hx hb dX9_day_10 (by decide) (fun _ => ?_) (fun c => absurd c (by decide))
  refine lv_aload_n hx hb dX9_day_15 rfl (lv_at hl 0 rfl) ?_
  refine clVV (As := []) (rest := []) (wr := [(a3, .inl (cy 0, 2, .inl zI))]) ⟨hx, hb, hml, hown, hts⟩ hK hP hD hS hA (k_X9_keepAct_0 l D cy a0 a1 a2 (v0_0) (v0_1) (v0_2) (v0_3) (v0_4) (v0_5) (v0_6) (v0_7) (v0_8) (v0_9) (v0_10) (v0_11) (.ref a3) (v0_13) (v0_14) (v0_15) (v0_16) (v0_17) (v0_18) (v0_19) (v0_20) (v0_21) (v0_22) (v0_23) (v0_24) (v0_25) (v0_26) (v0_27) (v0_28) (.int 0) (v0_30) (v0_31) (v0_32) (v0_33) (v0_34) (v0_35) (v0_36) (v0_38) (v0_39) (v0_40) (v0_41) (v0_42) (v0_43) (v0_46) (v0_47) (v0_48) (v0_49) (v0_50) (v0_51) (v0_52) (v0_53) (v0_54) (v0_55) (v0_56) (v0_57) (v0_58) (v0_59) (v0_60) (v0_61) (v0_62) (v0_63) _) (cwV 0 hts gX9_day_X9_keepAct rfl rfl rfl (by decide +kernel) ⟨Nat.le_of_ble_eq_true rfl, Nat.le_of_ble_eq_true rfl⟩) 0 9 rfl rfl [0, 1, 2] [3] rfl rfl rfl rfl (by decide) rfl hl.1 rfl (Nat.le_of_ble_eq_true rfl) dX9_day_16 ⟨Nat.le_of_ble_eq_true rfl, Nat.le_of_ble_eq_true rfl⟩ rfl rfl (fun _ H locs _ hP hD hS => ?_)
  have hP : va_P D vwCl [(a3, .inl (cy 0, 2, .inl zI)), (a0, .inr (9, [v0_0, v0_1, v0_2, v0_3, v0_4, v0_5, v0_6, v0_7, v0_8, v0_9, v0_10, v0_11, .ref a3, v0_13, v0_14, v0_15, v0_16, v0_17, v0_18, v0_19, v0_20, v0_21, v0_22, v0_23, v0_24, v0_25, v0_26, v0_27, v0_28, .int 0, v0_30, v0_31, v0_32, v0_33, v0_34, v0_35, v0_36, .ref a1, v0_38, v0_39, v0_40, v0_41, v0_42, v0_43, .ref a2, .int 1, .int 0, v0_47, v0_48, v0_49, v0_50, v0_51, v0_52, v0_53, v0_54, v0_55, v0_56, v0_57, v0_58, v0_59, v0_60, v0_61, v0_62, v0_63])), (a1, .inl (cy 0, 16, .inl zI)), (a2, .inl (cy 0, 656, .inl zI))] H := hP
  have hD : va_D A [(a3, .inl (cy 0, 2, .inl zI)), (a0, .inr (9, [v0_0, v0_1, v0_2, v0_3, v0_4, v0_5, v0_6, v0_7, v0_8, v0_9, v0_10, v0_11, .ref a3, v0_13, v0_14, v0_15, v0_16, v0_17, v0_18, v0_19, v0_20, v0_21, v0_22, v0_23, v0_24, v0_25, v0_26, v0_27, v0_28, .int 0, v0_30, v0_31, v0_32, v0_33, v0_34, v0_35, v0_36, .ref a1, v0_38, v0_39, v0_40, v0_41, v0_42, v0_43, .ref a2, .int 1, .int 0, v0_47, v0_48, v0_49, v0_50, v0_51, v0_52, v0_53, v0_54, v0_55, v0_56, v0_57, v0_58, v0_59, v0_60, v0_61, v0_62, v0_63])), (a1, .inl (cy 0, 16, .inl zI)), (a2, .inl (cy 0, 656, .inl zI))] := hD
  refine lv_aload_n hx hb dX9_day_19 rfl (lv_at hl 0 rfl) ?_
  refine va_get (D := D) (cl := vwCl) (ci := 9) (v := .ref a1) (C := RX9) (T := TX9) (N := 64) hx hb hts in_X9_day_X9 hown hK hP 1 rfl rfl 37 (by decide) (hts (.fieldLink RX9 76 "EightReasonsModel" "all" "[I") (List.mem_of_getElem? (i := 1) (by decide +kernel))) (fun _ h9 => h9) rfl dX9_day_20 ?_
  refine lv_bipush (v := 14) hx hb dX9_day_23 (by decide) ?_
  refine lv_dup2_11 hx hb dX9_day_25 rfl rfl ?_
  refine va_iald hx hb hK hP 2 0 rfl rfl (vin (by decide)) dX9_day_26 (tpi (v := 0) rfl ?_)
  refine lv_iconst (v := 1) hx hb dX9_day_27 (by decide) ?_
  refine lv_iadd hx hb dX9_day_28 (tpi (v := 1) (by decide) ?_)
  refine va_iast hx hb hK hP hD hS 2 0 rfl rfl (vin (by decide)) dX9_day_29 (fun H locs hP hD hS => ?_)
  generalize hhg2 : upd zI (Int32.toNatClampNeg 14) 1 = g2 at hP hD
  have fg2_0 : g2 0 = 0 := by rw [← hhg2]; exact (pk_un (by decide)).trans (rfl : zI 0 = 0)
  have fg2_1 : g2 1 = 0 := by rw [← hhg2]; exact (pk_un (by decide)).trans (rfl : zI 1 = 0)
  have fg2_2 : g2 2 = 0 := by rw [← hhg2]; exact (pk_un (by decide)).trans (rfl : zI 2 = 0)
  have fg2_3 : g2 3 = 0 := by rw [← hhg2]; exact (pk_un (by decide)).trans (rfl : zI 3 = 0)
  have fg2_4 : g2 4 = 0 := by rw [← hhg2]; exact (pk_un (by decide)).trans (rfl : zI 4 = 0)
  have fg2_5 : g2 5 = 0 := by rw [← hhg2]; exact (pk_un (by decide)).trans (rfl : zI 5 = 0)
  have fg2_6 : g2 6 = 0 := by rw [← hhg2]; exact (pk_un (by decide)).trans (rfl : zI 6 = 0)
  have fg2_7 : g2 7 = 0 := by rw [← hhg2]; exact (pk_un (by decide)).trans (rfl : zI 7 = 0)
  have fg2_8 : g2 8 = 0 := by rw [← hhg2]; exact (pk_un (by decide)).trans (rfl : zI 8 = 0)
  have fg2_9 : g2 9 = 0 := by rw [← hhg2]; exact (pk_un (by decide)).trans (rfl : zI 9 = 0)
  have fg2_10 : g2 10 = 0 := by rw [← hhg2]; exact (pk_un (by decide)).trans (rfl : zI 10 = 0)
  have fg2_11 : g2 11 = 0 := by rw [← hhg2]; exact (pk_un (by decide)).trans (rfl : zI 11 = 0)
  have fg2_12 : g2 12 = 0 := by rw [← hhg2]; exact (pk_un (by decide)).trans (rfl : zI 12 = 0)
  have fg2_13 : g2 13 = 0 := by rw [← hhg2]; exact (pk_un (by decide)).trans (rfl : zI 13 = 0)
  have fg2_15 : g2 15 = 0 := by rw [← hhg2]; exact (pk_un (by decide)).trans (rfl : zI 15 = 0)
  have fg2_14 : g2 14 = 1 := by rw [← hhg2]; exact pk_us
  have hP : va_P D vwCl [(a3, .inl (cy 0, 2, .inl zI)), (a0, .inr (9, [v0_0, v0_1, v0_2, v0_3, v0_4, v0_5, v0_6, v0_7, v0_8, v0_9, v0_10, v0_11, .ref a3, v0_13, v0_14, v0_15, v0_16, v0_17, v0_18, v0_19, v0_20, v0_21, v0_22, v0_23, v0_24, v0_25, v0_26, v0_27, v0_28, .int 0, v0_30, v0_31, v0_32, v0_33, v0_34, v0_35, v0_36, .ref a1, v0_38, v0_39, v0_40, v0_41, v0_42, v0_43, .ref a2, .int 1, .int 0, v0_47, v0_48, v0_49, v0_50, v0_51, v0_52, v0_53, v0_54, v0_55, v0_56, v0_57, v0_58, v0_59, v0_60, v0_61, v0_62, v0_63])), (a1, .inl (cy 0, 16, .inl g2)), (a2, .inl (cy 0, 656, .inl zI))] H := hP
  have hD : va_D A [(a3, .inl (cy 0, 2, .inl zI)), (a0, .inr (9, [v0_0, v0_1, v0_2, v0_3, v0_4, v0_5, v0_6, v0_7, v0_8, v0_9, v0_10, v0_11, .ref a3, v0_13, v0_14, v0_15, v0_16, v0_17, v0_18, v0_19, v0_20, v0_21, v0_22, v0_23, v0_24, v0_25, v0_26, v0_27, v0_28, .int 0, v0_30, v0_31, v0_32, v0_33, v0_34, v0_35, v0_36, .ref a1, v0_38, v0_39, v0_40, v0_41, v0_42, v0_43, .ref a2, .int 1, .int 0, v0_47, v0_48, v0_49, v0_50, v0_51, v0_52, v0_53, v0_54, v0_55, v0_56, v0_57, v0_58, v0_59, v0_60, v0_61, v0_62, v0_63])), (a1, .inl (cy 0, 16, .inl g2)), (a2, .inl (cy 0, 656, .inl zI))] := hD
  refine lv_aload_n hx hb dX9_day_30 rfl (lv_at hl 0 rfl) ?_
  refine clVI (As := []) (rest := []) (wr := [(a1, .inl (cy 0, 16, .inl g2)), (a2, .inl (cy 0, 656, .inl zI))]) ⟨hx, hb, hml, hown, hts⟩ hK hP hD hS hA (k_X9_goDay_0 l D cy a0 a3 (v0_0) (v0_1) (v0_2) (v0_3) (v0_4) (v0_5) (v0_6) (v0_7) (v0_8) (v0_9) (v0_10) (v0_11) (v0_13) (v0_14) (v0_15) (v0_16) (v0_17) (v0_18) (v0_19) (v0_20) (v0_21) (v0_22) (v0_23) (v0_24) (v0_25) (v0_26) (v0_27) (v0_28) (v0_30) (v0_31) (v0_32) (v0_33) (v0_34) (v0_35) (v0_36) (.ref a1) (v0_38) (v0_39) (v0_40) (v0_41) (v0_42) (v0_43) (.ref a2) (.int 1) (.int 0) (v0_47) (v0_48) (v0_49) (v0_50) (v0_51) (v0_52) (v0_53) (v0_54) (v0_55) (v0_56) (v0_57) (v0_58) (v0_59) (v0_60) (v0_61) (v0_62) (v0_63) _) (cwV 0 hts gX9_day_X9_goDay rfl rfl rfl (by decide +kernel) ⟨Nat.le_of_ble_eq_true rfl, Nat.le_of_ble_eq_true rfl⟩) 1 9 rfl rfl [1, 0] [2, 3] rfl rfl rfl rfl (by decide) rfl hl.1 rfl (Nat.le_of_ble_eq_true rfl) dX9_day_31 ⟨Nat.le_of_ble_eq_true rfl, Nat.le_of_ble_eq_true rfl⟩ rfl rfl (fun r _ H locs hw hP hD hS => ?_)
  have hP : va_P D vwCl [(a1, .inl (cy 0, 16, .inl g2)), (a2, .inl (cy 0, 656, .inl zI)), (a0, .inr (9, [v0_0, v0_1, v0_2, v0_3, v0_4, v0_5, v0_6, v0_7, v0_8, v0_9, v0_10, v0_11, .ref a3, v0_13, v0_14, v0_15, v0_16, v0_17, v0_18, v0_19, v0_20, v0_21, v0_22, v0_23, v0_24, v0_25, v0_26, v0_27, v0_28, .int 0, v0_30, v0_31, v0_32, v0_33, v0_34, v0_35, v0_36, .ref a1, v0_38, v0_39, v0_40, v0_41, v0_42, v0_43, .ref a2, .int 1, .int 0, v0_47, v0_48, v0_49, v0_50, v0_51, v0_52, v0_53, v0_54, v0_55, v0_56, v0_57, v0_58, v0_59, v0_60, v0_61, v0_62, v0_63])), (a3, .inl (cy 0, 2, .inl zI))] H := hP
  have hD : va_D A [(a1, .inl (cy 0, 16, .inl g2)), (a2, .inl (cy 0, 656, .inl zI)), (a0, .inr (9, [v0_0, v0_1, v0_2, v0_3, v0_4, v0_5, v0_6, v0_7, v0_8, v0_9, v0_10, v0_11, .ref a3, v0_13, v0_14, v0_15, v0_16, v0_17, v0_18, v0_19, v0_20, v0_21, v0_22, v0_23, v0_24, v0_25, v0_26, v0_27, v0_28, .int 0, v0_30, v0_31, v0_32, v0_33, v0_34, v0_35, v0_36, .ref a1, v0_38, v0_39, v0_40, v0_41, v0_42, v0_43, .ref a2, .int 1, .int 0, v0_47, v0_48, v0_49, v0_50, v0_51, v0_52, v0_53, v0_54, v0_55, v0_56, v0_57, v0_58, v0_59, v0_60, v0_61, v0_62, v0_63])), (a3, .inl (cy 0, 2, .inl zI))] := hD
  obtain rfl : r = 0 := hw
  exact rtI hx hb hr hlk rfl hP hD hS () [] rfl rfl rfl dX9_day_34
set_option maxHeartbeats 4000000 in
set_option maxRecDepth 100000 in
theorem k_X0_goBack_0 (l : Launch) (D : va_G) (cy : Nat → ClassId) (a0 : Nat) (v0_0 : Value) (v0_1 : Value) (v0_3 : Value) (sz : Nat) : CtI l yX0_goBack wsX0_goBack 0 0 [.ref a0] D cy [(a0, .inr (0, [v0_0, v0_1, .int 0, v0_3]))] sz 0 0 (fun (r : Int32) (_ : Unit) => r = 0) (fun _ => [(a0, .inr (0, [v0_0, v0_1, .int 0, v0_3]))]) := by
  refine CtI.of (cc := cX0_goBack) (maxL := 1) (ty := .boolean) (own := RX0) (by decide) rfl (Nat.le_of_ble_eq_true rfl) rfl ?_
  intro p e s m below meth c A ls hx hb hr hml hts hown hlk hK hP hD hS hA hl
  have hl : lv_has ls 1 [(0, .ref a0)] := hl
  refine st0 (fun H locs hP hS => ?_) hP hS
  have hP : va_P D vwCl [(a0, .inr (0, [v0_0, v0_1, .int 0, v0_3]))] H := hP
  have hD : va_D A [(a0, .inr (0, [v0_0, v0_1, .int 0, v0_3]))] := hD
  refine lv_aload_n hx hb dX0_goBack_0 rfl (lv_at hl 0 rfl) ?_
  refine va_get (D := D) (cl := vwCl) (ci := 0) (v := .int 0) (C := RX0) (T := TX0) (N := 4) hx hb hts in_X0_goBack_X0 hown hK hP 0 rfl rfl 2 (by decide) (hts (.fieldLink RX0 26 "EightReasons$Acts" "undoable" "I") (List.mem_of_getElem? (i := 1) (by decide +kernel))) (fun _ h9 => h9) rfl dX0_goBack_1 ?_
  refine lv_if_ne (tgt := 9) hx hb dX0_goBack_4 (by decide) (fun c => absurd (by decide) c) (fun _ => ?_)
  refine lv_iconst (v := 0) hx hb dX0_goBack_7 (by decide) ?_
  exact rtI hx hb hr hlk rfl hP hD hS () [0] rfl rfl rfl dX0_goBack_8
set_option maxHeartbeats 4000000 in
set_option maxRecDepth 100000 in
theorem k_X8_undo_0 (l : Launch) (D : va_G) (cy : Nat → ClassId) (a0 a1 : Nat) (v0_0 : Value) (v0_1 : Value) (v0_3 : Value) (v0_4 : Value) (v0_5 : Value) (v0_6 : Value) (v0_7 : Value) (v0_8 : Value) (v0_9 : Value) (v0_10 : Value) (v0_11 : Value) (v0_12 : Value) (v1_0 : Value) (v1_1 : Value) (v1_3 : Value) (sz : Nat) : CtI l yX8_undo wsX8_undo 1 20 [.ref a0] D cy [(a0, .inr (8, [v0_0, v0_1, .ref a1, v0_3, v0_4, v0_5, v0_6, v0_7, v0_8, v0_9, v0_10, v0_11, v0_12])), (a1, .inr (0, [v1_0, v1_1, .int 0, v1_3]))] sz 0 0 (fun (r : Int32) (_ : Unit) => r = 0) (fun _ => []) := by
  refine CtI.of (cc := cX8_undo) (maxL := 1) (ty := .boolean) (own := RX8) (by decide) rfl (Nat.le_of_ble_eq_true rfl) rfl ?_
  intro p e s m below meth c A ls hx hb hr hml hts hown hlk hK hP hD hS hA hl
  have hl : lv_has ls 1 [(0, .ref a0)] := hl
  refine st0 (fun H locs hP hS => ?_) hP hS
  have hP : va_P D vwCl [(a0, .inr (8, [v0_0, v0_1, .ref a1, v0_3, v0_4, v0_5, v0_6, v0_7, v0_8, v0_9, v0_10, v0_11, v0_12])), (a1, .inr (0, [v1_0, v1_1, .int 0, v1_3]))] H := hP
  have hD : va_D A [(a0, .inr (8, [v0_0, v0_1, .ref a1, v0_3, v0_4, v0_5, v0_6, v0_7, v0_8, v0_9, v0_10, v0_11, v0_12])), (a1, .inr (0, [v1_0, v1_1, .int 0, v1_3]))] := hD
  refine lv_aload_n hx hb dX8_undo_0 rfl (lv_at hl 0 rfl) ?_
  refine va_get (D := D) (cl := vwCl) (ci := 8) (v := .ref a1) (C := RX8) (T := TX8) (N := 13) hx hb hts in_X8_undo_X8 hown hK hP 0 rfl rfl 2 (by decide) (hts (.fieldLink RX8 26 "EightReasons" "acts" "LEightReasons$Acts;") (List.mem_of_getElem? (i := 1) (by decide +kernel))) (fun _ h9 => h9) rfl dX8_undo_1 ?_
  refine clVI (As := []) (rest := []) (wr := [(a0, .inr (8, [v0_0, v0_1, .ref a1, v0_3, v0_4, v0_5, v0_6, v0_7, v0_8, v0_9, v0_10, v0_11, v0_12]))]) ⟨hx, hb, hml, hown, hts⟩ hK hP hD hS hA (k_X0_goBack_0 l D cy a1 (v1_0) (v1_1) (v1_3) _) (cwV 0 hts gX8_undo_X0_goBack rfl rfl rfl (by decide +kernel) ⟨Nat.le_of_ble_eq_true rfl, Nat.le_of_ble_eq_true rfl⟩) 1 0 rfl rfl [1] [0] rfl rfl rfl rfl (by decide) rfl hl.1 rfl (Nat.le_of_ble_eq_true rfl) dX8_undo_4 ⟨Nat.le_of_ble_eq_true rfl, Nat.le_of_ble_eq_true rfl⟩ rfl rfl (fun r _ H locs hw hP hD hS => ?_)
  have hP : va_P D vwCl [(a0, .inr (8, [v0_0, v0_1, .ref a1, v0_3, v0_4, v0_5, v0_6, v0_7, v0_8, v0_9, v0_10, v0_11, v0_12])), (a1, .inr (0, [v1_0, v1_1, .int 0, v1_3]))] H := hP
  have hD : va_D A [(a0, .inr (8, [v0_0, v0_1, .ref a1, v0_3, v0_4, v0_5, v0_6, v0_7, v0_8, v0_9, v0_10, v0_11, v0_12])), (a1, .inr (0, [v1_0, v1_1, .int 0, v1_3]))] := hD
  obtain rfl : r = 0 := hw
  exact rtI hx hb hr hlk rfl hP hD hS () [] rfl rfl rfl dX8_undo_7
set_option maxHeartbeats 4000000 in
set_option maxRecDepth 100000 in
theorem k_X9_undo_0 (l : Launch) (D : va_G) (cy : Nat → ClassId) (a0 : Nat) (v0_0 : Value) (v0_1 : Value) (v0_2 : Value) (v0_3 : Value) (v0_4 : Value) (v0_5 : Value) (v0_6 : Value) (v0_7 : Value) (v0_8 : Value) (v0_9 : Value) (v0_10 : Value) (v0_11 : Value) (v0_12 : Value) (v0_13 : Value) (v0_14 : Value) (v0_15 : Value) (v0_16 : Value) (v0_17 : Value) (v0_18 : Value) (v0_19 : Value) (v0_20 : Value) (v0_21 : Value) (v0_22 : Value) (v0_23 : Value) (v0_24 : Value) (v0_25 : Value) (v0_26 : Value) (v0_27 : Value) (v0_28 : Value) (v0_29 : Value) (v0_30 : Value) (v0_31 : Value) (v0_32 : Value) (v0_33 : Value) (v0_34 : Value) (v0_35 : Value) (v0_36 : Value) (v0_37 : Value) (v0_38 : Value) (v0_39 : Value) (v0_40 : Value) (v0_41 : Value) (v0_42 : Value) (v0_43 : Value) (v0_44 : Value) (v0_46 : Value) (v0_47 : Value) (v0_48 : Value) (v0_49 : Value) (v0_50 : Value) (v0_51 : Value) (v0_52 : Value) (v0_53 : Value) (v0_54 : Value) (v0_55 : Value) (v0_56 : Value) (v0_57 : Value) (v0_58 : Value) (v0_59 : Value) (v0_60 : Value) (v0_61 : Value) (v0_62 : Value) (v0_63 : Value) (sz : Nat) : CtI l yX9_undo wsX9_undo 0 0 [.ref a0] D cy [(a0, .inr (9, [v0_0, v0_1, v0_2, v0_3, v0_4, v0_5, v0_6, v0_7, v0_8, v0_9, v0_10, v0_11, v0_12, v0_13, v0_14, v0_15, v0_16, v0_17, v0_18, v0_19, v0_20, v0_21, v0_22, v0_23, v0_24, v0_25, v0_26, v0_27, v0_28, v0_29, v0_30, v0_31, v0_32, v0_33, v0_34, v0_35, v0_36, v0_37, v0_38, v0_39, v0_40, v0_41, v0_42, v0_43, v0_44, .int 0, v0_46, v0_47, v0_48, v0_49, v0_50, v0_51, v0_52, v0_53, v0_54, v0_55, v0_56, v0_57, v0_58, v0_59, v0_60, v0_61, v0_62, v0_63]))] sz 0 0 (fun (r : Int32) (_ : Unit) => r = 0) (fun _ => []) := by
  refine CtI.of (cc := cX9_undo) (maxL := 1) (ty := .boolean) (own := RX9) (by decide) rfl (Nat.le_of_ble_eq_true rfl) rfl ?_
  intro p e s m below meth c A ls hx hb hr hml hts hown hlk hK hP hD hS hA hl
  have hl : lv_has ls 1 [(0, .ref a0)] := hl
  refine st0 (fun H locs hP hS => ?_) hP hS
  have hP : va_P D vwCl [(a0, .inr (9, [v0_0, v0_1, v0_2, v0_3, v0_4, v0_5, v0_6, v0_7, v0_8, v0_9, v0_10, v0_11, v0_12, v0_13, v0_14, v0_15, v0_16, v0_17, v0_18, v0_19, v0_20, v0_21, v0_22, v0_23, v0_24, v0_25, v0_26, v0_27, v0_28, v0_29, v0_30, v0_31, v0_32, v0_33, v0_34, v0_35, v0_36, v0_37, v0_38, v0_39, v0_40, v0_41, v0_42, v0_43, v0_44, .int 0, v0_46, v0_47, v0_48, v0_49, v0_50, v0_51, v0_52, v0_53, v0_54, v0_55, v0_56, v0_57, v0_58, v0_59, v0_60, v0_61, v0_62, v0_63]))] H := hP
  have hD : va_D A [(a0, .inr (9, [v0_0, v0_1, v0_2, v0_3, v0_4, v0_5, v0_6, v0_7, v0_8, v0_9, v0_10, v0_11, v0_12, v0_13, v0_14, v0_15, v0_16, v0_17, v0_18, v0_19, v0_20, v0_21, v0_22, v0_23, v0_24, v0_25, v0_26, v0_27, v0_28, v0_29, v0_30, v0_31, v0_32, v0_33, v0_34, v0_35, v0_36, v0_37, v0_38, v0_39, v0_40, v0_41, v0_42, v0_43, v0_44, .int 0, v0_46, v0_47, v0_48, v0_49, v0_50, v0_51, v0_52, v0_53, v0_54, v0_55, v0_56, v0_57, v0_58, v0_59, v0_60, v0_61, v0_62, v0_63]))] := hD
  refine lv_aload_n hx hb dX9_undo_0 rfl (lv_at hl 0 rfl) ?_
  refine va_get (D := D) (cl := vwCl) (ci := 9) (v := .int 0) (C := RX9) (T := TX9) (N := 64) hx hb hts in_X9_undo_X9 hown hK hP 0 rfl rfl 45 (by decide) (hts (.fieldLink RX9 368 "EightReasonsModel" "acts" "I") (List.mem_of_getElem? (i := 1) (by decide +kernel))) (fun _ h9 => h9) rfl dX9_undo_1 ?_
  refine lv_if_ne (tgt := 9) hx hb dX9_undo_4 (by decide) (fun c => absurd (by decide) c) (fun _ => ?_)
  refine lv_iconst (v := 0) hx hb dX9_undo_7 (by decide) ?_
  exact rtI hx hb hr hlk rfl hP hD hS () [] rfl rfl rfl dX9_undo_8
