set_option maxHeartbeats 4000000 in
set_option maxRecDepth 100000 in
theorem k_X9_hollow_0 (l : Launch) (D : va_G) (cy : Nat → ClassId) (a0 a1 a2 a3 : Nat) (v0_0 : Value) (v0_1 : Value) (v0_2 : Value) (v0_3 : Value) (v0_4 : Value) (v0_5 : Value) (v0_6 : Value) (v0_7 : Value) (v0_8 : Value) (v0_9 : Value) (v0_10 : Value) (v0_13 : Value) (v0_14 : Value) (v0_15 : Value) (v0_16 : Value) (v0_17 : Value) (v0_18 : Value) (v0_19 : Value) (v0_20 : Value) (v0_21 : Value) (v0_22 : Value) (v0_23 : Value) (v0_24 : Value) (v0_25 : Value) (v0_26 : Value) (v0_27 : Value) (v0_28 : Value) (v0_30 : Value) (v0_31 : Value) (v0_32 : Value) (v0_33 : Value) (v0_34 : Value) (v0_35 : Value) (v0_36 : Value) (v0_38 : Value) (v0_39 : Value) (v0_40 : Value) (v0_41 : Value) (v0_42 : Value) (v0_43 : Value) (v0_44 : Value) (v0_45 : Value) (v0_46 : Value) (v0_47 : Value) (v0_48 : Value) (v0_49 : Value) (v0_50 : Value) (v0_51 : Value) (v0_52 : Value) (v0_53 : Value) (v0_54 : Value) (v0_55 : Value) (v0_56 : Value) (v0_57 : Value) (v0_58 : Value) (v0_59 : Value) (v0_60 : Value) (v0_61 : Value) (v0_62 : Value) (v0_63 : Value) (sz : Nat) : CtI l yX9_hollow wsX9_hollow 4 89 [.ref a0] D cy [(a0, .inr (9, [v0_0, v0_1, v0_2, v0_3, v0_4, v0_5, v0_6, v0_7, v0_8, v0_9, v0_10, .ref a3, .ref a2, v0_13, v0_14, v0_15, v0_16, v0_17, v0_18, v0_19, v0_20, v0_21, v0_22, v0_23, v0_24, v0_25, v0_26, v0_27, v0_28, .int 0, v0_30, v0_31, v0_32, v0_33, v0_34, v0_35, v0_36, .ref a1, v0_38, v0_39, v0_40, v0_41, v0_42, v0_43, v0_44, v0_45, v0_46, v0_47, v0_48, v0_49, v0_50, v0_51, v0_52, v0_53, v0_54, v0_55, v0_56, v0_57, v0_58, v0_59, v0_60, v0_61, v0_62, v0_63])), (a1, .inl (cy 0, 16, .inl zI)), (a2, .inl (cy 0, 2, .inl zI)), (a3, .inl (cy 0, 2, .inl zI))] sz 0 0 (fun (r : Int32) (_ : Unit) => r = 0) (fun _ => []) := by
  refine CtI.of (cc := cX9_hollow) (maxL := 2) (ty := .int) (own := RX9) (by decide) rfl (Nat.le_of_ble_eq_true rfl) rfl ?_
  intro p e s m below meth c A ls hx hb hr hml hts hown hlk hK hP hD hS hA hl
  have hl : lv_has ls 2 [(0, .ref a0)] := hl
  refine st0 (fun H locs hP hS => ?_) hP hS
  have hP : va_P D vwCl [(a0, .inr (9, [v0_0, v0_1, v0_2, v0_3, v0_4, v0_5, v0_6, v0_7, v0_8, v0_9, v0_10, .ref a3, .ref a2, v0_13, v0_14, v0_15, v0_16, v0_17, v0_18, v0_19, v0_20, v0_21, v0_22, v0_23, v0_24, v0_25, v0_26, v0_27, v0_28, .int 0, v0_30, v0_31, v0_32, v0_33, v0_34, v0_35, v0_36, .ref a1, v0_38, v0_39, v0_40, v0_41, v0_42, v0_43, v0_44, v0_45, v0_46, v0_47, v0_48, v0_49, v0_50, v0_51, v0_52, v0_53, v0_54, v0_55, v0_56, v0_57, v0_58, v0_59, v0_60, v0_61, v0_62, v0_63])), (a1, .inl (cy 0, 16, .inl zI)), (a2, .inl (cy 0, 2, .inl zI)), (a3, .inl (cy 0, 2, .inl zI))] H := hP
  have hD : va_D A [(a0, .inr (9, [v0_0, v0_1, v0_2, v0_3, v0_4, v0_5, v0_6, v0_7, v0_8, v0_9, v0_10, .ref a3, .ref a2, v0_13, v0_14, v0_15, v0_16, v0_17, v0_18, v0_19, v0_20, v0_21, v0_22, v0_23, v0_24, v0_25, v0_26, v0_27, v0_28, .int 0, v0_30, v0_31, v0_32, v0_33, v0_34, v0_35, v0_36, .ref a1, v0_38, v0_39, v0_40, v0_41, v0_42, v0_43, v0_44, v0_45, v0_46, v0_47, v0_48, v0_49, v0_50, v0_51, v0_52, v0_53, v0_54, v0_55, v0_56, v0_57, v0_58, v0_59, v0_60, v0_61, v0_62, v0_63])), (a1, .inl (cy 0, 16, .inl zI)), (a2, .inl (cy 0, 2, .inl zI)), (a3, .inl (cy 0, 2, .inl zI))] := hD
  refine lv_aload_n hx hb dX9_hollow_0 rfl (lv_at hl 0 rfl) ?_
  refine clVI (As := []) (rest := []) (wr := []) ⟨hx, hb, hml, hown, hts⟩ hK hP hD hS hA (k_X9_tight_1 l D cy a0 a1 a2 a3 (v0_0) (v0_1) (v0_2) (v0_3) (v0_4) (v0_5) (v0_6) (v0_7) (v0_8) (v0_9) (v0_10) (v0_13) (v0_14) (v0_15) (v0_16) (v0_17) (v0_18) (v0_19) (v0_20) (v0_21) (v0_22) (v0_23) (v0_24) (v0_25) (v0_26) (v0_27) (v0_28) (v0_30) (v0_31) (v0_32) (v0_33) (v0_34) (v0_35) (v0_36) (v0_38) (v0_39) (v0_40) (v0_41) (v0_42) (v0_43) (v0_44) (v0_45) (v0_46) (v0_47) (v0_48) (v0_49) (v0_50) (v0_51) (v0_52) (v0_53) (v0_54) (v0_55) (v0_56) (v0_57) (v0_58) (v0_59) (v0_60) (v0_61) (v0_62) (v0_63) _) (cwV 0 hts gX9_hollow_X9_tight rfl rfl rfl (by decide +kernel) ⟨Nat.le_of_ble_eq_true rfl, Nat.le_of_ble_eq_true rfl⟩) 0 9 rfl rfl [0, 1, 2, 3] [] rfl rfl rfl rfl (by decide) rfl hl.1 rfl (Nat.le_of_ble_eq_true rfl) dX9_hollow_1 ⟨Nat.le_of_ble_eq_true rfl, Nat.le_of_ble_eq_true rfl⟩ rfl rfl (fun r _ H locs hw hP hD hS => ?_)
  have hP : va_P D vwCl [(a0, .inr (9, [v0_0, v0_1, v0_2, v0_3, v0_4, v0_5, v0_6, v0_7, v0_8, v0_9, v0_10, .ref a3, .ref a2, v0_13, v0_14, v0_15, v0_16, v0_17, v0_18, v0_19, v0_20, v0_21, v0_22, v0_23, v0_24, v0_25, v0_26, v0_27, v0_28, .int 0, v0_30, v0_31, v0_32, v0_33, v0_34, v0_35, .int 0, .ref a1, v0_38, v0_39, v0_40, v0_41, v0_42, v0_43, v0_44, v0_45, v0_46, v0_47, v0_48, v0_49, v0_50, v0_51, v0_52, v0_53, v0_54, v0_55, v0_56, v0_57, v0_58, v0_59, v0_60, v0_61, v0_62, v0_63])), (a1, .inl (cy 0, 16, .inl zI)), (a2, .inl (cy 0, 2, .inl zI)), (a3, .inl (cy 0, 2, .inl zI))] H := hP
  have hD : va_D A [(a0, .inr (9, [v0_0, v0_1, v0_2, v0_3, v0_4, v0_5, v0_6, v0_7, v0_8, v0_9, v0_10, .ref a3, .ref a2, v0_13, v0_14, v0_15, v0_16, v0_17, v0_18, v0_19, v0_20, v0_21, v0_22, v0_23, v0_24, v0_25, v0_26, v0_27, v0_28, .int 0, v0_30, v0_31, v0_32, v0_33, v0_34, v0_35, .int 0, .ref a1, v0_38, v0_39, v0_40, v0_41, v0_42, v0_43, v0_44, v0_45, v0_46, v0_47, v0_48, v0_49, v0_50, v0_51, v0_52, v0_53, v0_54, v0_55, v0_56, v0_57, v0_58, v0_59, v0_60, v0_61, v0_62, v0_63])), (a1, .inl (cy 0, 16, .inl zI)), (a2, .inl (cy 0, 2, .inl zI)), (a3, .inl (cy 0, 2, .inl zI))] := hD
  obtain rfl : r = 0 := hw
  refine lv_istore_n (lv' := [(1, .int 0), (0, .ref a0)]) hx hb dX9_hollow_4 rfl hl (by decide) rfl (fun ls hl => ?_)
  refine lv_iload_n hx hb dX9_hollow_5 rfl (lv_at hl 0 rfl) ?_
  refine lv_aload_n hx hb dX9_hollow_6 rfl (lv_at hl 1 rfl) ?_
  refine clVI (As := []) (rest := [.int 0]) (wr := []) ⟨hx, hb, hml, hown, hts⟩ hK hP hD hS hA (k_X9_standNow_0 l D cy a0 a1 a2 a3 (v0_0) (v0_1) (v0_2) (v0_3) (v0_4) (v0_5) (v0_6) (v0_7) (v0_8) (v0_9) (v0_10) (v0_13) (v0_14) (v0_15) (v0_16) (v0_17) (v0_18) (v0_19) (v0_20) (v0_21) (v0_22) (v0_23) (v0_24) (v0_25) (v0_26) (v0_27) (v0_28) (v0_30) (v0_31) (v0_32) (v0_33) (v0_34) (v0_35) (.int 0) (v0_38) (v0_39) (v0_40) (v0_41) (v0_42) (v0_43) (v0_44) (v0_45) (v0_46) (v0_47) (v0_48) (v0_49) (v0_50) (v0_51) (v0_52) (v0_53) (v0_54) (v0_55) (v0_56) (v0_57) (v0_58) (v0_59) (v0_60) (v0_61) (v0_62) (v0_63) _) (cwV 0 hts gX9_hollow_X9_standNow rfl rfl rfl (by decide +kernel) ⟨Nat.le_of_ble_eq_true rfl, Nat.le_of_ble_eq_true rfl⟩) 0 9 rfl rfl [0, 1, 2, 3] [] rfl rfl rfl rfl (by decide) rfl hl.1 rfl (Nat.le_of_ble_eq_true rfl) dX9_hollow_7 ⟨Nat.le_of_ble_eq_true rfl, Nat.le_of_ble_eq_true rfl⟩ rfl rfl (fun r _ H locs hw hP hD hS => ?_)
  have hP : va_P D vwCl [(a0, .inr (9, [v0_0, v0_1, v0_2, v0_3, v0_4, v0_5, v0_6, v0_7, v0_8, v0_9, v0_10, .ref a3, .ref a2, v0_13, v0_14, v0_15, v0_16, v0_17, v0_18, v0_19, v0_20, v0_21, v0_22, v0_23, v0_24, v0_25, v0_26, v0_27, v0_28, .int 0, v0_30, v0_31, v0_32, v0_33, v0_34, v0_35, .int 0, .ref a1, v0_38, v0_39, v0_40, v0_41, v0_42, v0_43, v0_44, v0_45, v0_46, v0_47, v0_48, v0_49, v0_50, v0_51, v0_52, v0_53, v0_54, v0_55, v0_56, v0_57, v0_58, v0_59, v0_60, v0_61, v0_62, v0_63])), (a1, .inl (cy 0, 16, .inl zI)), (a2, .inl (cy 0, 2, .inl zI)), (a3, .inl (cy 0, 2, .inl zI))] H := hP
  have hD : va_D A [(a0, .inr (9, [v0_0, v0_1, v0_2, v0_3, v0_4, v0_5, v0_6, v0_7, v0_8, v0_9, v0_10, .ref a3, .ref a2, v0_13, v0_14, v0_15, v0_16, v0_17, v0_18, v0_19, v0_20, v0_21, v0_22, v0_23, v0_24, v0_25, v0_26, v0_27, v0_28, .int 0, v0_30, v0_31, v0_32, v0_33, v0_34, v0_35, .int 0, .ref a1, v0_38, v0_39, v0_40, v0_41, v0_42, v0_43, v0_44, v0_45, v0_46, v0_47, v0_48, v0_49, v0_50, v0_51, v0_52, v0_53, v0_54, v0_55, v0_56, v0_57, v0_58, v0_59, v0_60, v0_61, v0_62, v0_63])), (a1, .inl (cy 0, 16, .inl zI)), (a2, .inl (cy 0, 2, .inl zI)), (a3, .inl (cy 0, 2, .inl zI))] := hD
  obtain rfl : r = 0 := hw
  refine lv_iconst (v := (-1)) hx hb dX9_hollow_10 (by decide) ?_
  refine lv_ixor hx hb dX9_hollow_11 (tpi (v := (-1)) (by decide) ?_)
  refine lv_iand hx hb dX9_hollow_12 (tpi (v := 0) (by decide) ?_)
  exact rtI hx hb hr hlk rfl hP hD hS () [] rfl rfl rfl dX9_hollow_13
set_option maxHeartbeats 4000000 in
set_option maxRecDepth 100000 in
theorem k_X8_isZeroOrOne_0 (l : Launch) (D : va_G) (cy : Nat → ClassId)  (p0 : Int32) (sz : Nat) : CtI l yX8_isZeroOrOne wsX8_isZeroOrOne 0 0 [.int p0] D cy [] sz 0 0 (fun (r : Int32) (_ : Unit) => (r = 1 ∧ (((p0 = 0)) ∨ ((¬ p0 = 0) ∧ (p0 = 1)))) ∨ (r = 0 ∧ (((¬ p0 = 0) ∧ (¬ p0 = 1))))) (fun _ => []) := by
  refine CtI.of (cc := cX8_isZeroOrOne) (maxL := 1) (ty := .boolean) (own := RX8) (by decide) rfl (Nat.le_of_ble_eq_true rfl) rfl ?_
  intro p e s m below meth c A ls hx hb hr hml hts hown hlk hK hP hD hS hA hl
  have hl : lv_has ls 1 [(0, .int p0)] := hl
  refine st0 (fun H locs hP hS => ?_) hP hS
  have hP : va_P D vwCl [] H := hP
  have hD : va_D A [] := hD
  refine lv_iload_n hx hb dX8_isZeroOrOne_0 rfl (lv_at hl 0 rfl) ?_
  refine lv_if_eq (tgt := 9) hx hb dX8_isZeroOrOne_1 (by decide) (fun c1 => ?_) (fun c1 => ?_)
  · refine lv_iconst (v := 1) hx hb dX8_isZeroOrOne_9 (by decide) ?_
    refine lv_goto (tgt := 14) hx hb dX8_isZeroOrOne_10 (by decide) ?_
    exact rtI hx hb hr hlk rfl hP hD hS () [] rfl rfl (Or.inl ⟨rfl, (Or.inl c1)⟩) dX8_isZeroOrOne_14
  · refine lv_iload_n hx hb dX8_isZeroOrOne_4 rfl (lv_at hl 0 rfl) ?_
    refine lv_iconst (v := 1) hx hb dX8_isZeroOrOne_5 (by decide) ?_
    refine lv_icmp_ne (tgt := 13) hx hb dX8_isZeroOrOne_6 (by decide) (fun c2 => ?_) (fun c2 => ?_)
    · refine lv_iconst (v := 0) hx hb dX8_isZeroOrOne_13 (by decide) ?_
      exact rtI hx hb hr hlk rfl hP hD hS () [] rfl rfl (Or.inr ⟨rfl, ⟨c1, c2⟩⟩) dX8_isZeroOrOne_14
    · refine lv_iconst (v := 1) hx hb dX8_isZeroOrOne_9 (by decide) ?_
      refine lv_goto (tgt := 14) hx hb dX8_isZeroOrOne_10 (by decide) ?_
      exact rtI hx hb hr hlk rfl hP hD hS () [] rfl rfl (Or.inl ⟨rfl, (Or.inr ⟨c1, c2⟩)⟩) dX8_isZeroOrOne_14
set_option maxHeartbeats 4000000 in
set_option maxRecDepth 100000 in
theorem k_X4_pass_1 (l : Launch) (D : va_G) (cy : Nat → ClassId) (a0 a1 : Nat) (v0_0 : Value) (v0_1 : Value) (v0_2 : Value) (x0_3 : Int32) (v0_4 : Value) (v1_0 : Value) (v1_1 : Value) (v1_3 : Value) (v1_4 : Value) (v1_5 : Value) (v1_6 : Value) (v1_7 : Value) (v1_8 : Value) (v1_9 : Value) (v1_10 : Value) (v1_11 : Value) (sz : Nat) : CtI l yX4_pass wsX4_pass 0 0 [.ref a0, .ref a1] D cy [(a0, .inr (4, [v0_0, v0_1, v0_2, .int x0_3, v0_4])), (a1, .inr (5, [v1_0, v1_1, .int 0, v1_3, v1_4, v1_5, v1_6, v1_7, v1_8, v1_9, v1_10, v1_11]))] sz 0 0 (fun (r : Int32) (_ : Unit) => r = 0) (fun _ => [(a0, .inr (4, [v0_0, v0_1, v0_2, .int (x0_3 + 1), v0_4])), (a1, .inr (5, [v1_0, v1_1, .int 0, v1_3, v1_4, v1_5, v1_6, v1_7, v1_8, v1_9, v1_10, v1_11]))]) := by
  refine CtI.of (cc := cX4_pass) (maxL := 4) (ty := .int) (own := RX4) (by decide) rfl (Nat.le_of_ble_eq_true rfl) rfl ?_
  intro p e s m below meth c A ls hx hb hr hml hts hown hlk hK hP hD hS hA hl
  have hl : lv_has ls 4 [(0, .ref a0), (1, .ref a1)] := hl
  refine st0 (fun H locs hP hS => ?_) hP hS
  have hP : va_P D vwCl [(a0, .inr (4, [v0_0, v0_1, v0_2, .int x0_3, v0_4])), (a1, .inr (5, [v1_0, v1_1, .int 0, v1_3, v1_4, v1_5, v1_6, v1_7, v1_8, v1_9, v1_10, v1_11]))] H := hP
  have hD : va_D A [(a0, .inr (4, [v0_0, v0_1, v0_2, .int x0_3, v0_4])), (a1, .inr (5, [v1_0, v1_1, .int 0, v1_3, v1_4, v1_5, v1_6, v1_7, v1_8, v1_9, v1_10, v1_11]))] := hD
  refine lv_iconst (v := 0) hx hb dX4_pass_0 (by decide) ?_
  refine lv_istore_n (lv' := [(2, .int 0), (0, .ref a0), (1, .ref a1)]) hx hb dX4_pass_1 rfl hl (by decide) rfl (fun ls hl => ?_)
  refine lv_aload_n hx hb dX4_pass_2 rfl (lv_at hl 1 rfl) ?_
  refine lv_dup hx hb dX4_pass_3 rfl ?_
  refine va_get (D := D) (cl := vwCl) (ci := 4) (v := .int x0_3) (C := RX4) (T := TX4) (N := 5) hx hb hts in_X4_pass_X4 hown hK hP 0 rfl rfl 3 (by decide) (hts (.fieldLink RX4 35 "EightReasons$State" "day" "I") (List.mem_of_getElem? (i := 1) (by decide +kernel))) (fun _ h9 => h9) rfl dX4_pass_4 ?_
  refine lv_iconst (v := 1) hx hb dX4_pass_7 (by decide) ?_
  refine lv_iadd hx hb dX4_pass_8 ?_
  refine va_put (D := D) (cl := vwCl) (ci := 4) (v := .int (x0_3 + 1)) (ty := tyX4 3) (C := RX4) (T := TX4) (N := 5) hx hb hts in_X4_pass_X4 tyX4 tyX4_ok nmX4 hown hK hP hD hS 0 rfl rfl 3 (by decide) (hts (.fieldLink RX4 35 "EightReasons$State" "day" "I") (List.mem_of_getElem? (i := 1) (by decide +kernel))) (fun _ h9 => h9) rfl (tyX4_ok 3 (by decide)) rfl rfl (Nat.le_of_ble_eq_true rfl) dX4_pass_9 (fun H locs hP hD hS => ?_)
  have hP : va_P D vwCl [(a0, .inr (4, [v0_0, v0_1, v0_2, .int (x0_3 + 1), v0_4])), (a1, .inr (5, [v1_0, v1_1, .int 0, v1_3, v1_4, v1_5, v1_6, v1_7, v1_8, v1_9, v1_10, v1_11]))] H := hP
  have hD : va_D A [(a0, .inr (4, [v0_0, v0_1, v0_2, .int (x0_3 + 1), v0_4])), (a1, .inr (5, [v1_0, v1_1, .int 0, v1_3, v1_4, v1_5, v1_6, v1_7, v1_8, v1_9, v1_10, v1_11]))] := hD
  refine lv_iconst (v := 0) hx hb dX4_pass_12 (by decide) ?_
  refine lv_istore_n (lv' := [(3, .int 0), (2, .int 0), (0, .ref a0), (1, .ref a1)]) hx hb dX4_pass_13 rfl hl (by decide) rfl (fun ls hl => ?_)
  refine lv_iload_n hx hb dX4_pass_14 rfl (lv_at hl 0 rfl) ?_
  refine lv_aload_n hx hb dX4_pass_15 rfl (lv_at hl 3 rfl) ?_
  refine va_get (D := D) (cl := vwCl) (ci := 5) (v := .int 0) (C := RX5) (T := TX5) (N := 12) hx hb hts in_X4_pass_X5 hown hK hP 1 rfl rfl 2 (by decide) (hts (.fieldLink RX4 44 "EightReasons$Suit" "strands" "I") (List.mem_of_getElem? (i := 2) (by decide +kernel))) (fun _ h9 => h9) rfl dX4_pass_16 ?_
  refine lv_icmp_ge (tgt := 97) hx hb dX4_pass_19 (by decide) (fun _ => ?_) (fun c => absurd (by decide) c)
  refine lv_iload_n hx hb dX4_pass_97 rfl (lv_at hl 1 rfl) ?_
  exact rtI hx hb hr hlk rfl hP hD hS () [0, 1] rfl rfl rfl dX4_pass_98
set_option maxHeartbeats 4000000 in
set_option maxRecDepth 100000 in
theorem k_X8_will_0 (l : Launch) (D : va_G) (cy : Nat → ClassId) (a0 a1 a2 a3 a4 a5 a6 a7 a8 a9 a10 a11 a12 r0 : Nat) (v0_0 : Value) (v0_4 : Value) (v0_5 : Value) (v0_7 : Value) (v0_8 : Value) (v0_9 : Value) (v0_10 : Value) (v0_11 : Value) (v0_12 : Value) (v1_2 : Value) (v1_3 : Value) (g2_ : Nat → Option Nat) (x3_1 : Int32) (x3_2 : Int32) (x3_3 : Int32) (v3_4 : Value) (x4_1 : Int32) (x4_3 : Int32) (x4_4 : Int32) (x7_0 : Int32) (v7_1 : Value) (v7_3 : Value) (v7_5 : Value) (v7_8 : Value) (v8_3 : Value) (v8_4 : Value) (v8_6 : Value) (v8_7 : Value) (v8_8 : Value) (v8_9 : Value) (v8_10 : Value) (v8_11 : Value) (p1 : Int32) (p2 : Int32) (sz : Nat) (hf2_0 : g2_ 0 = some a4) : CtI l yX8_will wsX8_will 2 82 [.ref a0, .int p1, .int p2] D cy [(a0, .inr (8, [v0_0, .ref a8, .ref a1, .ref a3, v0_4, v0_5, .ref a7, v0_7, v0_8, v0_9, v0_10, v0_11, v0_12])), (a1, .inr (0, [.ref a2, .int 0, v1_2, v1_3])), (a2, .inl (cy 4, 41, .inr (.inr (.inr (.inr g2_))))), (a3, .inr (4, [.ref a6, .int x3_1, .int x3_2, .int x3_3, v3_4])), (a4, .inr (4, [.ref a5, .int x4_1, .int 0, .int x4_3, .int x4_4])), (a5, .inl (cy 0, 12, .inl zI)), (a6, .inl (cy 0, 12, .inl zI)), (a7, .inr (2, [.int x7_0, v7_1, .ref a12, v7_3, .ref r0, v7_5, .ref a9, .ref a11, v7_8, .int 0])), (a8, .inr (5, [.int 0, .int 0, .int 0, v8_3, v8_4, .ref a10, v8_6, v8_7, v8_8, v8_9, v8_10, v8_11])), (a9, .inl (cy 0, 12, .inl zI)), (a10, .inl (cy 0, 10, .inl zI)), (a11, .inl (cy 0, 10, .inl zI)), (a12, .inl (cy 0, 10, .inl zI))] sz 0 0 (fun (r : Int32) (_ : Unit) => (r = (-1) ∧ (((p1 < 0)) ∨ ((¬ p1 < 0) ∧ (60 < p1)) ∨ ((¬ p1 < 0) ∧ (¬ 60 < p1) ∧ ((((¬ p2 = 0) ∧ (¬ p2 = 1))))))) ∨ (r = 0 ∧ (((¬ p1 < 0) ∧ (¬ 60 < p1) ∧ ((((p2 = 0)) ∨ ((¬ p2 = 0) ∧ (p2 = 1)))))))) (fun _ => []) := by
  refine CtI.of (cc := cX8_will) (maxL := 4) (ty := .int) (own := RX8) (by decide) rfl (Nat.le_of_ble_eq_true rfl) rfl ?_
  intro p e s m below meth c A ls hx hb hr hml hts hown hlk hK hP hD hS hA hl
  have hl : lv_has ls 4 [(0, .ref a0), (1, .int p1), (2, .int p2)] := hl
  refine st0 (fun H locs hP hS => ?_) hP hS
  have hP : va_P D vwCl [(a0, .inr (8, [v0_0, .ref a8, .ref a1, .ref a3, v0_4, v0_5, .ref a7, v0_7, v0_8, v0_9, v0_10, v0_11, v0_12])), (a1, .inr (0, [.ref a2, .int 0, v1_2, v1_3])), (a2, .inl (cy 4, 41, .inr (.inr (.inr (.inr g2_))))), (a3, .inr (4, [.ref a6, .int x3_1, .int x3_2, .int x3_3, v3_4])), (a4, .inr (4, [.ref a5, .int x4_1, .int 0, .int x4_3, .int x4_4])), (a5, .inl (cy 0, 12, .inl zI)), (a6, .inl (cy 0, 12, .inl zI)), (a7, .inr (2, [.int x7_0, v7_1, .ref a12, v7_3, .ref r0, v7_5, .ref a9, .ref a11, v7_8, .int 0])), (a8, .inr (5, [.int 0, .int 0, .int 0, v8_3, v8_4, .ref a10, v8_6, v8_7, v8_8, v8_9, v8_10, v8_11])), (a9, .inl (cy 0, 12, .inl zI)), (a10, .inl (cy 0, 10, .inl zI)), (a11, .inl (cy 0, 10, .inl zI)), (a12, .inl (cy 0, 10, .inl zI))] H := hP
  have hD : va_D A [(a0, .inr (8, [v0_0, .ref a8, .ref a1, .ref a3, v0_4, v0_5, .ref a7, v0_7, v0_8, v0_9, v0_10, v0_11, v0_12])), (a1, .inr (0, [.ref a2, .int 0, v1_2, v1_3])), (a2, .inl (cy 4, 41, .inr (.inr (.inr (.inr g2_))))), (a3, .inr (4, [.ref a6, .int x3_1, .int x3_2, .int x3_3, v3_4])), (a4, .inr (4, [.ref a5, .int x4_1, .int 0, .int x4_3, .int x4_4])), (a5, .inl (cy 0, 12, .inl zI)), (a6, .inl (cy 0, 12, .inl zI)), (a7, .inr (2, [.int x7_0, v7_1, .ref a12, v7_3, .ref r0, v7_5, .ref a9, .ref a11, v7_8, .int 0])), (a8, .inr (5, [.int 0, .int 0, .int 0, v8_3, v8_4, .ref a10, v8_6, v8_7, v8_8, v8_9, v8_10, v8_11])), (a9, .inl (cy 0, 12, .inl zI)), (a10, .inl (cy 0, 10, .inl zI)), (a11, .inl (cy 0, 10, .inl zI)), (a12, .inl (cy 0, 10, .inl zI))] := hD
  refine lv_iload_n hx hb dX8_will_0 rfl (lv_at hl 1 rfl) ?_
  refine lv_if_lt (tgt := 17) hx hb dX8_will_1 (by decide) (fun c1 => ?_) (fun c1 => ?_)
  · refine lv_iconst (v := (-1)) hx hb dX8_will_17 (by decide) ?_
    exact rtI hx hb hr hlk rfl hP hD hS () [] rfl rfl (Or.inl ⟨rfl, (Or.inl c1)⟩) dX8_will_18
  · refine lv_iload_n hx hb dX8_will_4 rfl (lv_at hl 1 rfl) ?_
    refine lv_bipush (v := 60) hx hb dX8_will_5 (by decide) ?_
    refine lv_icmp_gt (tgt := 17) hx hb dX8_will_7 (by decide) (fun c2 => ?_) (fun c2 => ?_)
    · refine lv_iconst (v := (-1)) hx hb dX8_will_17 (by decide) ?_
      exact rtI hx hb hr hlk rfl hP hD hS () [] rfl rfl (Or.inl ⟨rfl, (Or.inr (Or.inl ⟨c1, c2⟩))⟩) dX8_will_18
    · refine lv_iload_n hx hb dX8_will_10 rfl (lv_at hl 2 rfl) ?_
      refine clSI (As := [.int p2]) (rest := []) (wr := [(a0, .inr (8, [v0_0, .ref a8, .ref a1, .ref a3, v0_4, v0_5, .ref a7, v0_7, v0_8, v0_9, v0_10, v0_11, v0_12])), (a1, .inr (0, [.ref a2, .int 0, v1_2, v1_3])), (a2, .inl (cy 4, 41, .inr (.inr (.inr (.inr g2_))))), (a3, .inr (4, [.ref a6, .int x3_1, .int x3_2, .int x3_3, v3_4])), (a4, .inr (4, [.ref a5, .int x4_1, .int 0, .int x4_3, .int x4_4])), (a5, .inl (cy 0, 12, .inl zI)), (a6, .inl (cy 0, 12, .inl zI)), (a7, .inr (2, [.int x7_0, v7_1, .ref a12, v7_3, .ref r0, v7_5, .ref a9, .ref a11, v7_8, .int 0])), (a8, .inr (5, [.int 0, .int 0, .int 0, v8_3, v8_4, .ref a10, v8_6, v8_7, v8_8, v8_9, v8_10, v8_11])), (a9, .inl (cy 0, 12, .inl zI)), (a10, .inl (cy 0, 10, .inl zI)), (a11, .inl (cy 0, 10, .inl zI)), (a12, .inl (cy 0, 10, .inl zI))]) ⟨hx, hb, hml, hown, hts⟩ hK hP hD hS hA (k_X8_isZeroOrOne_0 l D cy p2 _) (va_cwS 1 hts gX8_will_X8_isZeroOrOne rfl rfl rfl (by decide +kernel) ⟨Nat.le_of_ble_eq_true rfl, Nat.le_of_ble_eq_true rfl⟩) [] [0, 1, 2, 3, 4, 5, 6, 7, 8, 9, 10, 11, 12] rfl rfl rfl rfl (by decide) rfl hl.1 rfl (Nat.le_of_ble_eq_true rfl) dX8_will_11 ⟨Nat.le_of_ble_eq_true rfl, Nat.le_of_ble_eq_true rfl⟩ rfl rfl (fun r _ H locs hw hP hD hS => ?_)
      have hP : va_P D vwCl [(a0, .inr (8, [v0_0, .ref a8, .ref a1, .ref a3, v0_4, v0_5, .ref a7, v0_7, v0_8, v0_9, v0_10, v0_11, v0_12])), (a1, .inr (0, [.ref a2, .int 0, v1_2, v1_3])), (a2, .inl (cy 4, 41, .inr (.inr (.inr (.inr g2_))))), (a3, .inr (4, [.ref a6, .int x3_1, .int x3_2, .int x3_3, v3_4])), (a4, .inr (4, [.ref a5, .int x4_1, .int 0, .int x4_3, .int x4_4])), (a5, .inl (cy 0, 12, .inl zI)), (a6, .inl (cy 0, 12, .inl zI)), (a7, .inr (2, [.int x7_0, v7_1, .ref a12, v7_3, .ref r0, v7_5, .ref a9, .ref a11, v7_8, .int 0])), (a8, .inr (5, [.int 0, .int 0, .int 0, v8_3, v8_4, .ref a10, v8_6, v8_7, v8_8, v8_9, v8_10, v8_11])), (a9, .inl (cy 0, 12, .inl zI)), (a10, .inl (cy 0, 10, .inl zI)), (a11, .inl (cy 0, 10, .inl zI)), (a12, .inl (cy 0, 10, .inl zI))] H := hP
      have hD : va_D A [(a0, .inr (8, [v0_0, .ref a8, .ref a1, .ref a3, v0_4, v0_5, .ref a7, v0_7, v0_8, v0_9, v0_10, v0_11, v0_12])), (a1, .inr (0, [.ref a2, .int 0, v1_2, v1_3])), (a2, .inl (cy 4, 41, .inr (.inr (.inr (.inr g2_))))), (a3, .inr (4, [.ref a6, .int x3_1, .int x3_2, .int x3_3, v3_4])), (a4, .inr (4, [.ref a5, .int x4_1, .int 0, .int x4_3, .int x4_4])), (a5, .inl (cy 0, 12, .inl zI)), (a6, .inl (cy 0, 12, .inl zI)), (a7, .inr (2, [.int x7_0, v7_1, .ref a12, v7_3, .ref r0, v7_5, .ref a9, .ref a11, v7_8, .int 0])), (a8, .inr (5, [.int 0, .int 0, .int 0, v8_3, v8_4, .ref a10, v8_6, v8_7, v8_8, v8_9, v8_10, v8_11])), (a9, .inl (cy 0, 12, .inl zI)), (a10, .inl (cy 0, 10, .inl zI)), (a11, .inl (cy 0, 10, .inl zI)), (a12, .inl (cy 0, 10, .inl zI))] := hD
      rcases (show (r = 1 ∧ (((p2 = 0)) ∨ ((¬ p2 = 0) ∧ (p2 = 1)))) ∨ (r = 0 ∧ (((¬ p2 = 0) ∧ (¬ p2 = 1)))) from hw) with ⟨rfl, c4⟩ | ⟨rfl, c4⟩
      · refine lv_if_ne (tgt := 19) hx hb dX8_will_14 (by decide) (fun _ => ?_) (fun c => absurd c (by decide))
        refine lv_aload_n hx hb dX8_will_19 rfl (lv_at hl 0 rfl) ?_
        refine va_get (D := D) (cl := vwCl) (ci := 8) (v := .ref a3) (C := RX8) (T := TX8) (N := 13) hx hb hts in_X8_will_X8 hown hK hP 0 rfl rfl 3 (by decide) (hts (.fieldLink RX8 33 "EightReasons" "trial" "LEightReasons$State;") (List.mem_of_getElem? (i := 1) (by decide +kernel))) (fun _ h9 => h9) rfl dX8_will_20 ?_
        refine lv_aload_n hx hb dX8_will_23 rfl (lv_at hl 0 rfl) ?_
        refine clVR (As := []) (rest := [.ref a3]) (wr := [(a3, .inr (4, [.ref a6, .int x3_1, .int x3_2, .int x3_3, v3_4])), (a4, .inr (4, [.ref a5, .int x4_1, .int 0, .int x4_3, .int x4_4])), (a5, .inl (cy 0, 12, .inl zI)), (a6, .inl (cy 0, 12, .inl zI)), (a7, .inr (2, [.int x7_0, v7_1, .ref a12, v7_3, .ref r0, v7_5, .ref a9, .ref a11, v7_8, .int 0])), (a8, .inr (5, [.int 0, .int 0, .int 0, v8_3, v8_4, .ref a10, v8_6, v8_7, v8_8, v8_9, v8_10, v8_11])), (a9, .inl (cy 0, 12, .inl zI)), (a10, .inl (cy 0, 10, .inl zI)), (a11, .inl (cy 0, 10, .inl zI)), (a12, .inl (cy 0, 10, .inl zI))]) ⟨hx, hb, hml, hown, hts⟩ hK hP hD hS hA (k_X8_now_0 l D cy a0 a1 a2 a4 (v0_0) (.ref a8) (.ref a3) (v0_4) (v0_5) (.ref a7) (v0_7) (v0_8) (v0_9) (v0_10) (v0_11) (v0_12) (v1_2) (v1_3) g2_ _ hf2_0) (cwV 0 hts gX8_will_X8_now rfl rfl rfl (by decide +kernel) ⟨Nat.le_of_ble_eq_true rfl, Nat.le_of_ble_eq_true rfl⟩) 0 8 rfl rfl [0, 1, 2] [3, 4, 5, 6, 7, 8, 9, 10, 11, 12] rfl rfl rfl rfl (by decide) rfl hl.1 rfl (Nat.le_of_ble_eq_true rfl) dX8_will_24 ⟨Nat.le_of_ble_eq_true rfl, Nat.le_of_ble_eq_true rfl⟩ rfl rfl (fun _ H locs _ hP hD hS => ?_)
        have hP : va_P D vwCl [(a3, .inr (4, [.ref a6, .int x3_1, .int x3_2, .int x3_3, v3_4])), (a4, .inr (4, [.ref a5, .int x4_1, .int 0, .int x4_3, .int x4_4])), (a5, .inl (cy 0, 12, .inl zI)), (a6, .inl (cy 0, 12, .inl zI)), (a7, .inr (2, [.int x7_0, v7_1, .ref a12, v7_3, .ref r0, v7_5, .ref a9, .ref a11, v7_8, .int 0])), (a8, .inr (5, [.int 0, .int 0, .int 0, v8_3, v8_4, .ref a10, v8_6, v8_7, v8_8, v8_9, v8_10, v8_11])), (a9, .inl (cy 0, 12, .inl zI)), (a10, .inl (cy 0, 10, .inl zI)), (a11, .inl (cy 0, 10, .inl zI)), (a12, .inl (cy 0, 10, .inl zI)), (a0, .inr (8, [v0_0, .ref a8, .ref a1, .ref a3, v0_4, v0_5, .ref a7, v0_7, v0_8, v0_9, v0_10, v0_11, v0_12])), (a1, .inr (0, [.ref a2, .int 0, v1_2, v1_3])), (a2, .inl (cy 4, 41, .inr (.inr (.inr (.inr g2_)))))] H := hP
        have hD : va_D A [(a3, .inr (4, [.ref a6, .int x3_1, .int x3_2, .int x3_3, v3_4])), (a4, .inr (4, [.ref a5, .int x4_1, .int 0, .int x4_3, .int x4_4])), (a5, .inl (cy 0, 12, .inl zI)), (a6, .inl (cy 0, 12, .inl zI)), (a7, .inr (2, [.int x7_0, v7_1, .ref a12, v7_3, .ref r0, v7_5, .ref a9, .ref a11, v7_8, .int 0])), (a8, .inr (5, [.int 0, .int 0, .int 0, v8_3, v8_4, .ref a10, v8_6, v8_7, v8_8, v8_9, v8_10, v8_11])), (a9, .inl (cy 0, 12, .inl zI)), (a10, .inl (cy 0, 10, .inl zI)), (a11, .inl (cy 0, 10, .inl zI)), (a12, .inl (cy 0, 10, .inl zI)), (a0, .inr (8, [v0_0, .ref a8, .ref a1, .ref a3, v0_4, v0_5, .ref a7, v0_7, v0_8, v0_9, v0_10, v0_11, v0_12])), (a1, .inr (0, [.ref a2, .int 0, v1_2, v1_3])), (a2, .inl (cy 4, 41, .inr (.inr (.inr (.inr g2_)))))] := hD
        refine W.eq (g2 := F0 m 27 ls (.ref a4 :: [.ref a3])) rfl ?_
        refine clVV (As := [.ref a4]) (rest := []) (wr := [(a7, .inr (2, [.int x7_0, v7_1, .ref a12, v7_3, .ref r0, v7_5, .ref a9, .ref a11, v7_8, .int 0])), (a8, .inr (5, [.int 0, .int 0, .int 0, v8_3, v8_4, .ref a10, v8_6, v8_7, v8_8, v8_9, v8_10, v8_11])), (a9, .inl (cy 0, 12, .inl zI)), (a10, .inl (cy 0, 10, .inl zI)), (a11, .inl (cy 0, 10, .inl zI)), (a12, .inl (cy 0, 10, .inl zI)), (a0, .inr (8, [v0_0, .ref a8, .ref a1, .ref a3, v0_4, v0_5, .ref a7, v0_7, v0_8, v0_9, v0_10, v0_11, v0_12])), (a1, .inr (0, [.ref a2, .int 0, v1_2, v1_3])), (a2, .inl (cy 4, 41, .inr (.inr (.inr (.inr g2_)))))]) ⟨hx, hb, hml, hown, hts⟩ hK hP hD hS hA (k_X4_copy_0 l D cy a3 a4 a5 a6 (.int x3_1) (.int x3_2) (.int x3_3) (v3_4) x4_1 0 x4_3 x4_4 _) (cwV 1 hts gX8_will_X4_copy rfl rfl rfl (by decide +kernel) ⟨Nat.le_of_ble_eq_true rfl, Nat.le_of_ble_eq_true rfl⟩) 0 4 rfl rfl [0, 1, 2, 3] [4, 5, 6, 7, 8, 9, 10, 11, 12] rfl rfl rfl rfl (by decide) rfl hl.1 rfl (Nat.le_of_ble_eq_true rfl) dX8_will_27 ⟨Nat.le_of_ble_eq_true rfl, Nat.le_of_ble_eq_true rfl⟩ rfl rfl (fun _ H locs _ hP hD hS => ?_)
        have hP : va_P D vwCl [(a7, .inr (2, [.int x7_0, v7_1, .ref a12, v7_3, .ref r0, v7_5, .ref a9, .ref a11, v7_8, .int 0])), (a8, .inr (5, [.int 0, .int 0, .int 0, v8_3, v8_4, .ref a10, v8_6, v8_7, v8_8, v8_9, v8_10, v8_11])), (a9, .inl (cy 0, 12, .inl zI)), (a10, .inl (cy 0, 10, .inl zI)), (a11, .inl (cy 0, 10, .inl zI)), (a12, .inl (cy 0, 10, .inl zI)), (a0, .inr (8, [v0_0, .ref a8, .ref a1, .ref a3, v0_4, v0_5, .ref a7, v0_7, v0_8, v0_9, v0_10, v0_11, v0_12])), (a1, .inr (0, [.ref a2, .int 0, v1_2, v1_3])), (a2, .inl (cy 4, 41, .inr (.inr (.inr (.inr g2_))))), (a3, .inr (4, [.ref a6, .int x4_1, .int 0, .int x4_3, .int x4_4])), (a4, .inr (4, [.ref a5, .int x4_1, .int 0, .int x4_3, .int x4_4])), (a5, .inl (cy 0, 12, .inl zI)), (a6, .inl (cy 0, 12, .inl zI))] H := hP
        have hD : va_D A [(a7, .inr (2, [.int x7_0, v7_1, .ref a12, v7_3, .ref r0, v7_5, .ref a9, .ref a11, v7_8, .int 0])), (a8, .inr (5, [.int 0, .int 0, .int 0, v8_3, v8_4, .ref a10, v8_6, v8_7, v8_8, v8_9, v8_10, v8_11])), (a9, .inl (cy 0, 12, .inl zI)), (a10, .inl (cy 0, 10, .inl zI)), (a11, .inl (cy 0, 10, .inl zI)), (a12, .inl (cy 0, 10, .inl zI)), (a0, .inr (8, [v0_0, .ref a8, .ref a1, .ref a3, v0_4, v0_5, .ref a7, v0_7, v0_8, v0_9, v0_10, v0_11, v0_12])), (a1, .inr (0, [.ref a2, .int 0, v1_2, v1_3])), (a2, .inl (cy 4, 41, .inr (.inr (.inr (.inr g2_))))), (a3, .inr (4, [.ref a6, .int x4_1, .int 0, .int x4_3, .int x4_4])), (a4, .inr (4, [.ref a5, .int x4_1, .int 0, .int x4_3, .int x4_4])), (a5, .inl (cy 0, 12, .inl zI)), (a6, .inl (cy 0, 12, .inl zI))] := hD
        refine lv_iconst (v := 0) hx hb dX8_will_30 (by decide) ?_
        refine lv_istore_n (lv' := [(3, .int 0), (0, .ref a0), (1, .int p1), (2, .int p2)]) hx hb dX8_will_31 rfl hl (by decide) rfl (fun ls hl => ?_)
        obtain ⟨N, hN, hpN⟩ : ∃ N : Nat, N ≤ 60 ∧ p1 = nI N := nI_of2 (M := 60) (by decide) (by simp only [i_lt, i_le, i_eq, tl_m1, tl_0, tl_1, tl_2, tl_3, tl_4, tl_20, tl_60, tl_99, tl_1000, tl_100000] at c1 c2 ⊢ <;> omega) (by simp only [i_lt, i_le, i_eq, tl_m1, tl_0, tl_1, tl_2, tl_3, tl_4, tl_20, tl_60, tl_99, tl_1000, tl_100000] at c1 c2 ⊢ <;> omega)
        have loop : ∀ (k j : Nat) (dd : Int32) (H : Heap) (locs : List Loc) (ls : Array Slot), j + k = N → va_P D vwCl [(a7, .inr (2, [.int x7_0, v7_1, .ref a12, v7_3, .ref r0, v7_5, .ref a9, .ref a11, v7_8, .int 0])), (a8, .inr (5, [.int 0, .int 0, .int 0, v8_3, v8_4, .ref a10, v8_6, v8_7, v8_8, v8_9, v8_10, v8_11])), (a9, .inl (cy 0, 12, .inl zI)), (a10, .inl (cy 0, 10, .inl zI)), (a11, .inl (cy 0, 10, .inl zI)), (a12, .inl (cy 0, 10, .inl zI)), (a0, .inr (8, [v0_0, .ref a8, .ref a1, .ref a3, v0_4, v0_5, .ref a7, v0_7, v0_8, v0_9, v0_10, v0_11, v0_12])), (a1, .inr (0, [.ref a2, .int 0, v1_2, v1_3])), (a2, .inl (cy 4, 41, .inr (.inr (.inr (.inr g2_))))), (a3, .inr (4, [.ref a6, .int x4_1, .int 0, .int dd, .int x4_4])), (a4, .inr (4, [.ref a5, .int x4_1, .int 0, .int x4_3, .int x4_4])), (a5, .inl (cy 0, 12, .inl zI)), (a6, .inl (cy 0, 12, .inl zI))] H → va_D A [(a7, .inr (2, [.int x7_0, v7_1, .ref a12, v7_3, .ref r0, v7_5, .ref a9, .ref a11, v7_8, .int 0])), (a8, .inr (5, [.int 0, .int 0, .int 0, v8_3, v8_4, .ref a10, v8_6, v8_7, v8_8, v8_9, v8_10, v8_11])), (a9, .inl (cy 0, 12, .inl zI)), (a10, .inl (cy 0, 10, .inl zI)), (a11, .inl (cy 0, 10, .inl zI)), (a12, .inl (cy 0, 10, .inl zI)), (a0, .inr (8, [v0_0, .ref a8, .ref a1, .ref a3, v0_4, v0_5, .ref a7, v0_7, v0_8, v0_9, v0_10, v0_11, v0_12])), (a1, .inr (0, [.ref a2, .int 0, v1_2, v1_3])), (a2, .inl (cy 4, 41, .inr (.inr (.inr (.inr g2_))))), (a3, .inr (4, [.ref a6, .int x4_1, .int 0, .int dd, .int x4_4])), (a4, .inr (4, [.ref a5, .int x4_1, .int 0, .int x4_3, .int x4_4])), (a5, .inl (cy 0, 12, .inl zI)), (a6, .inl (cy 0, 12, .inl zI))] → va_S A s.heap H locs → lv_has ls 4 [(3, .int (nI j)), (0, .ref a0), (1, .int p1), (2, .int p2)] → W p l e (rmO 2 82 0 0) s m ([.ref a0, .int p1, .int p2] : List Value).toArray below meth c H locs 0 0 (MQ below (va_Qi (fun (r : Int32) (_ : Unit) => (r = (-1) ∧ (((p1 < 0)) ∨ ((¬ p1 < 0) ∧ (60 < p1)) ∨ ((¬ p1 < 0) ∧ (¬ 60 < p1) ∧ ((((¬ p2 = 0) ∧ (¬ p2 = 1))))))) ∨ (r = 0 ∧ (((¬ p1 < 0) ∧ (¬ 60 < p1) ∧ ((((p2 = 0)) ∨ ((¬ p2 = 0) ∧ (p2 = 1)))))))) (fun u t => PstW D A ((fun _ => []) u) t) A) ([.ref a0, .int p1, .int p2] : List Value).toArray s 0 0 A) (F0 m 32 ls []) := by
          intro k
          induction k with
          | zero =>
            intro j dd H locs ls hj hP hD hS hl
            refine lv_iload_n hx hb dX8_will_32 rfl (lv_at hl 0 rfl) ?_
            refine lv_iload_n hx hb dX8_will_33 rfl (lv_at hl 2 rfl) ?_
            refine lv_icmp_ge (tgt := 76) hx hb dX8_will_34 (by decide) (fun _ => ?_) (fun c => absurd (by rw [hpN, show j = N by omega]; exact Int32.le_refl _) c)
            refine lv_aload_n hx hb dX8_will_76 rfl (lv_at hl 1 rfl) ?_
            refine va_get (D := D) (cl := vwCl) (ci := 8) (v := .ref a7) (C := RX8) (T := TX8) (N := 13) hx hb hts in_X8_will_X8 hown hK hP 6 rfl rfl 6 (by decide) (hts (.fieldLink RX8 44 "EightReasons" "loom" "LEightReasons$Loom;") (List.mem_of_getElem? (i := 4) (by decide +kernel))) (fun _ h9 => h9) rfl dX8_will_77 ?_
            refine lv_aload_n hx hb dX8_will_80 rfl (lv_at hl 1 rfl) ?_
            refine va_get (D := D) (cl := vwCl) (ci := 8) (v := .ref a8) (C := RX8) (T := TX8) (N := 13) hx hb hts in_X8_will_X8 hown hK hP 6 rfl rfl 1 (by decide) (hts (.fieldLink RX8 19 "EightReasons" "told" "LEightReasons$Suit;") (List.mem_of_getElem? (i := 2) (by decide +kernel))) (fun _ h9 => h9) rfl dX8_will_81 ?_
            refine lv_aload_n hx hb dX8_will_84 rfl (lv_at hl 1 rfl) ?_
            refine va_get (D := D) (cl := vwCl) (ci := 8) (v := .ref a3) (C := RX8) (T := TX8) (N := 13) hx hb hts in_X8_will_X8 hown hK hP 6 rfl rfl 3 (by decide) (hts (.fieldLink RX8 33 "EightReasons" "trial" "LEightReasons$State;") (List.mem_of_getElem? (i := 1) (by decide +kernel))) (fun _ h9 => h9) rfl dX8_will_85 ?_
            refine clVV (As := [.ref a8, .ref a3]) (rest := []) (wr := [(a12, .inl (cy 0, 10, .inl zI)), (a0, .inr (8, [v0_0, .ref a8, .ref a1, .ref a3, v0_4, v0_5, .ref a7, v0_7, v0_8, v0_9, v0_10, v0_11, v0_12])), (a1, .inr (0, [.ref a2, .int 0, v1_2, v1_3])), (a2, .inl (cy 4, 41, .inr (.inr (.inr (.inr g2_))))), (a4, .inr (4, [.ref a5, .int x4_1, .int 0, .int x4_3, .int x4_4])), (a5, .inl (cy 0, 12, .inl zI))]) ⟨hx, hb, hml, hown, hts⟩ hK hP hD hS hA (k_X2_take_0 l D cy a7 a8 a3 a6 a9 a10 a11 (.int x7_0) (v7_1) (.ref a12) (v7_3) (.ref r0) (v7_5) (v7_8) (.int 0) (.int 0) (v8_3) (v8_4) (v8_6) (v8_7) (v8_8) (v8_9) (v8_10) (v8_11) (.int x4_1) dd (.int x4_4) _) (cwV 2 hts gX8_will_X2_take rfl rfl rfl (by decide +kernel) ⟨Nat.le_of_ble_eq_true rfl, Nat.le_of_ble_eq_true rfl⟩) 0 2 rfl rfl [0, 1, 9, 12, 2, 3, 4] [5, 6, 7, 8, 10, 11] rfl rfl rfl rfl (by decide) rfl hl.1 rfl (Nat.le_of_ble_eq_true rfl) dX8_will_88 ⟨Nat.le_of_ble_eq_true rfl, Nat.le_of_ble_eq_true rfl⟩ rfl rfl (fun _ H locs _ hP hD hS => ?_)
            have hP : va_P D vwCl [(a12, .inl (cy 0, 10, .inl zI)), (a0, .inr (8, [v0_0, .ref a8, .ref a1, .ref a3, v0_4, v0_5, .ref a7, v0_7, v0_8, v0_9, v0_10, v0_11, v0_12])), (a1, .inr (0, [.ref a2, .int 0, v1_2, v1_3])), (a2, .inl (cy 4, 41, .inr (.inr (.inr (.inr g2_))))), (a4, .inr (4, [.ref a5, .int x4_1, .int 0, .int x4_3, .int x4_4])), (a5, .inl (cy 0, 12, .inl zI)), (a7, .inr (2, [.int 0, v7_1, .ref a12, v7_3, .ref a8, .int dd, .ref a9, .ref a11, v7_8, .int 1])), (a8, .inr (5, [.int 0, .int 0, .int 0, v8_3, v8_4, .ref a10, v8_6, v8_7, v8_8, v8_9, v8_10, v8_11])), (a3, .inr (4, [.ref a6, .int x4_1, .int 0, .int dd, .int x4_4])), (a6, .inl (cy 0, 12, .inl zI)), (a9, .inl (cy 0, 12, .inl zI)), (a10, .inl (cy 0, 10, .inl zI)), (a11, .inl (cy 0, 10, .inl zI))] H := hP
            have hD : va_D A [(a12, .inl (cy 0, 10, .inl zI)), (a0, .inr (8, [v0_0, .ref a8, .ref a1, .ref a3, v0_4, v0_5, .ref a7, v0_7, v0_8, v0_9, v0_10, v0_11, v0_12])), (a1, .inr (0, [.ref a2, .int 0, v1_2, v1_3])), (a2, .inl (cy 4, 41, .inr (.inr (.inr (.inr g2_))))), (a4, .inr (4, [.ref a5, .int x4_1, .int 0, .int x4_3, .int x4_4])), (a5, .inl (cy 0, 12, .inl zI)), (a7, .inr (2, [.int 0, v7_1, .ref a12, v7_3, .ref a8, .int dd, .ref a9, .ref a11, v7_8, .int 1])), (a8, .inr (5, [.int 0, .int 0, .int 0, v8_3, v8_4, .ref a10, v8_6, v8_7, v8_8, v8_9, v8_10, v8_11])), (a3, .inr (4, [.ref a6, .int x4_1, .int 0, .int dd, .int x4_4])), (a6, .inl (cy 0, 12, .inl zI)), (a9, .inl (cy 0, 12, .inl zI)), (a10, .inl (cy 0, 10, .inl zI)), (a11, .inl (cy 0, 10, .inl zI))] := hD
            refine lv_aload_n hx hb dX8_will_91 rfl (lv_at hl 1 rfl) ?_
            refine va_get (D := D) (cl := vwCl) (ci := 8) (v := .ref a7) (C := RX8) (T := TX8) (N := 13) hx hb hts in_X8_will_X8 hown hK hP 1 rfl rfl 6 (by decide) (hts (.fieldLink RX8 44 "EightReasons" "loom" "LEightReasons$Loom;") (List.mem_of_getElem? (i := 4) (by decide +kernel))) (fun _ h9 => h9) rfl dX8_will_92 ?_
            refine lv_aload_n hx hb dX8_will_95 rfl (lv_at hl 1 rfl) ?_
            refine va_get (D := D) (cl := vwCl) (ci := 8) (v := .ref a3) (C := RX8) (T := TX8) (N := 13) hx hb hts in_X8_will_X8 hown hK hP 1 rfl rfl 3 (by decide) (hts (.fieldLink RX8 33 "EightReasons" "trial" "LEightReasons$State;") (List.mem_of_getElem? (i := 1) (by decide +kernel))) (fun _ h9 => h9) rfl dX8_will_96 ?_
            refine va_get (D := D) (cl := vwCl) (ci := 4) (v := .int x4_1) (C := RX4) (T := TX4) (N := 5) hx hb hts in_X8_will_X4 hown hK hP 8 rfl rfl 1 (by decide) (hts (.fieldLink RX8 145 "EightReasons$State" "tied" "I") (List.mem_of_getElem? (i := 5) (by decide +kernel))) (fun _ h9 => h9) rfl dX8_will_99 ?_
            refine clVI (As := [.int x4_1]) (rest := []) (wr := [(a0, .inr (8, [v0_0, .ref a8, .ref a1, .ref a3, v0_4, v0_5, .ref a7, v0_7, v0_8, v0_9, v0_10, v0_11, v0_12])), (a1, .inr (0, [.ref a2, .int 0, v1_2, v1_3])), (a2, .inl (cy 4, 41, .inr (.inr (.inr (.inr g2_))))), (a4, .inr (4, [.ref a5, .int x4_1, .int 0, .int x4_3, .int x4_4])), (a5, .inl (cy 0, 12, .inl zI)), (a3, .inr (4, [.ref a6, .int x4_1, .int 0, .int dd, .int x4_4])), (a6, .inl (cy 0, 12, .inl zI)), (a9, .inl (cy 0, 12, .inl zI)), (a10, .inl (cy 0, 10, .inl zI)), (a11, .inl (cy 0, 10, .inl zI))]) ⟨hx, hb, hml, hown, hts⟩ hK hP hD hS hA (k_X2_standing_0 l D cy a7 a8 a12 (v7_1) (v7_3) (.int dd) (.ref a9) (.ref a11) (v7_8) (.int 1) (v8_3) (v8_4) (.ref a10) (v8_6) (v8_7) (v8_8) (v8_9) (v8_10) (v8_11) x4_1 _) (cwV 1 hts gX8_will_X2_standing rfl rfl rfl (by decide +kernel) ⟨Nat.le_of_ble_eq_true rfl, Nat.le_of_ble_eq_true rfl⟩) 6 2 rfl rfl [6, 7, 0] [1, 2, 3, 4, 5, 8, 9, 10, 11, 12] rfl rfl rfl rfl (by decide) rfl hl.1 rfl (Nat.le_of_ble_eq_true rfl) dX8_will_102 ⟨Nat.le_of_ble_eq_true rfl, Nat.le_of_ble_eq_true rfl⟩ rfl rfl (fun r _ H locs hw hP hD hS => ?_)
            have hP : va_P D vwCl [(a0, .inr (8, [v0_0, .ref a8, .ref a1, .ref a3, v0_4, v0_5, .ref a7, v0_7, v0_8, v0_9, v0_10, v0_11, v0_12])), (a1, .inr (0, [.ref a2, .int 0, v1_2, v1_3])), (a2, .inl (cy 4, 41, .inr (.inr (.inr (.inr g2_))))), (a4, .inr (4, [.ref a5, .int x4_1, .int 0, .int x4_3, .int x4_4])), (a5, .inl (cy 0, 12, .inl zI)), (a3, .inr (4, [.ref a6, .int x4_1, .int 0, .int dd, .int x4_4])), (a6, .inl (cy 0, 12, .inl zI)), (a9, .inl (cy 0, 12, .inl zI)), (a10, .inl (cy 0, 10, .inl zI)), (a11, .inl (cy 0, 10, .inl zI)), (a7, .inr (2, [.int 0, v7_1, .ref a12, v7_3, .ref a8, .int dd, .ref a9, .ref a11, v7_8, .int 1])), (a8, .inr (5, [.int 0, .int 0, .int 0, v8_3, v8_4, .ref a10, v8_6, v8_7, v8_8, v8_9, v8_10, v8_11])), (a12, .inl (cy 0, 10, .inl zI))] H := hP
            have hD : va_D A [(a0, .inr (8, [v0_0, .ref a8, .ref a1, .ref a3, v0_4, v0_5, .ref a7, v0_7, v0_8, v0_9, v0_10, v0_11, v0_12])), (a1, .inr (0, [.ref a2, .int 0, v1_2, v1_3])), (a2, .inl (cy 4, 41, .inr (.inr (.inr (.inr g2_))))), (a4, .inr (4, [.ref a5, .int x4_1, .int 0, .int x4_3, .int x4_4])), (a5, .inl (cy 0, 12, .inl zI)), (a3, .inr (4, [.ref a6, .int x4_1, .int 0, .int dd, .int x4_4])), (a6, .inl (cy 0, 12, .inl zI)), (a9, .inl (cy 0, 12, .inl zI)), (a10, .inl (cy 0, 10, .inl zI)), (a11, .inl (cy 0, 10, .inl zI)), (a7, .inr (2, [.int 0, v7_1, .ref a12, v7_3, .ref a8, .int dd, .ref a9, .ref a11, v7_8, .int 1])), (a8, .inr (5, [.int 0, .int 0, .int 0, v8_3, v8_4, .ref a10, v8_6, v8_7, v8_8, v8_9, v8_10, v8_11])), (a12, .inl (cy 0, 10, .inl zI))] := hD
            obtain rfl : r = 0 := hw
            exact rtI hx hb hr hlk rfl hP hD hS () [] rfl rfl (Or.inr ⟨rfl, ⟨c1, c2, c4⟩⟩) dX8_will_105
          | succ k ih =>
            intro j dd H locs ls hj hP hD hS hl
            refine lv_iload_n hx hb dX8_will_32 rfl (lv_at hl 0 rfl) ?_
            refine lv_iload_n hx hb dX8_will_33 rfl (lv_at hl 2 rfl) ?_
            refine lv_icmp_ge (tgt := 76) hx hb dX8_will_34 (by decide) (fun c => absurd c (by rw [hpN]; exact Int32.not_le.mpr (nI_lt (by omega) (by omega)))) (fun _ => ?_)
            refine lv_iload_n hx hb dX8_will_37 rfl (lv_at hl 3 rfl) ?_
            refine lv_iconst (v := 1) hx hb dX8_will_38 (by decide) ?_
            refine lv_icmp_ne (tgt := 57) hx hb dX8_will_39 (by decide) (fun c9 => ?_) (fun c9 => ?_)
            · refine lv_aload_n hx hb dX8_will_57 rfl (lv_at hl 1 rfl) ?_
              refine va_get (D := D) (cl := vwCl) (ci := 8) (v := .ref a3) (C := RX8) (T := TX8) (N := 13) hx hb hts in_X8_will_X8 hown hK hP 6 rfl rfl 3 (by decide) (hts (.fieldLink RX8 33 "EightReasons" "trial" "LEightReasons$State;") (List.mem_of_getElem? (i := 1) (by decide +kernel))) (fun _ h9 => h9) rfl dX8_will_58 ?_
              refine lv_dup hx hb dX8_will_61 rfl ?_
              refine va_get (D := D) (cl := vwCl) (ci := 4) (v := .int dd) (C := RX4) (T := TX4) (N := 5) hx hb hts in_X8_will_X4 hown hK hP 9 rfl rfl 3 (by decide) (hts (.fieldLink RX8 160 "EightReasons$State" "day" "I") (List.mem_of_getElem? (i := 3) (by decide +kernel))) (fun _ h9 => h9) rfl dX8_will_62 ?_
              refine lv_iconst (v := 1) hx hb dX8_will_65 (by decide) ?_
              refine lv_iadd hx hb dX8_will_66 ?_
              refine va_put (D := D) (cl := vwCl) (ci := 4) (v := .int (dd + 1)) (ty := tyX4 3) (C := RX4) (T := TX4) (N := 5) hx hb hts in_X8_will_X4 tyX4 tyX4_ok nmX4 hown hK hP hD hS 9 rfl rfl 3 (by decide) (hts (.fieldLink RX8 160 "EightReasons$State" "day" "I") (List.mem_of_getElem? (i := 3) (by decide +kernel))) (fun _ h9 => h9) rfl (tyX4_ok 3 (by decide)) rfl rfl (Nat.le_of_ble_eq_true rfl) dX8_will_67 (fun H locs hP hD hS => ?_)
              have hP : va_P D vwCl [(a7, .inr (2, [.int x7_0, v7_1, .ref a12, v7_3, .ref r0, v7_5, .ref a9, .ref a11, v7_8, .int 0])), (a8, .inr (5, [.int 0, .int 0, .int 0, v8_3, v8_4, .ref a10, v8_6, v8_7, v8_8, v8_9, v8_10, v8_11])), (a9, .inl (cy 0, 12, .inl zI)), (a10, .inl (cy 0, 10, .inl zI)), (a11, .inl (cy 0, 10, .inl zI)), (a12, .inl (cy 0, 10, .inl zI)), (a0, .inr (8, [v0_0, .ref a8, .ref a1, .ref a3, v0_4, v0_5, .ref a7, v0_7, v0_8, v0_9, v0_10, v0_11, v0_12])), (a1, .inr (0, [.ref a2, .int 0, v1_2, v1_3])), (a2, .inl (cy 4, 41, .inr (.inr (.inr (.inr g2_))))), (a3, .inr (4, [.ref a6, .int x4_1, .int 0, .int (dd + 1), .int x4_4])), (a4, .inr (4, [.ref a5, .int x4_1, .int 0, .int x4_3, .int x4_4])), (a5, .inl (cy 0, 12, .inl zI)), (a6, .inl (cy 0, 12, .inl zI))] H := hP
              have hD : va_D A [(a7, .inr (2, [.int x7_0, v7_1, .ref a12, v7_3, .ref r0, v7_5, .ref a9, .ref a11, v7_8, .int 0])), (a8, .inr (5, [.int 0, .int 0, .int 0, v8_3, v8_4, .ref a10, v8_6, v8_7, v8_8, v8_9, v8_10, v8_11])), (a9, .inl (cy 0, 12, .inl zI)), (a10, .inl (cy 0, 10, .inl zI)), (a11, .inl (cy 0, 10, .inl zI)), (a12, .inl (cy 0, 10, .inl zI)), (a0, .inr (8, [v0_0, .ref a8, .ref a1, .ref a3, v0_4, v0_5, .ref a7, v0_7, v0_8, v0_9, v0_10, v0_11, v0_12])), (a1, .inr (0, [.ref a2, .int 0, v1_2, v1_3])), (a2, .inl (cy 4, 41, .inr (.inr (.inr (.inr g2_))))), (a3, .inr (4, [.ref a6, .int x4_1, .int 0, .int (dd + 1), .int x4_4])), (a4, .inr (4, [.ref a5, .int x4_1, .int 0, .int x4_3, .int x4_4])), (a5, .inl (cy 0, 12, .inl zI)), (a6, .inl (cy 0, 12, .inl zI))] := hD
              refine lv_iinc (v := (nI (j + 1))) (lv' := [(3, .int (nI (j + 1))), (0, .ref a0), (1, .int p1), (2, .int p2)]) hx hb dX8_will_70 hl (k := 0) rfl (nI_1 j) (by decide) rfl (fun ls hl => ?_)
              refine lv_goto (tgt := 32) hx hb dX8_will_73 (by decide) ?_
              exact ih (j + 1) (dd + 1) H locs ls (by omega) (P_pick hP [0, 1, 2, 3, 4, 5, 6, 7, 8, 9, 10, 11, 12] rfl) (hD.sub [0, 1, 2, 3, 4, 5, 6, 7, 8, 9, 10, 11, 12] rfl rfl) hS (lv_sub hl [0, 1, 2, 3] rfl)
            · refine lv_aload_n hx hb dX8_will_42 rfl (lv_at hl 1 rfl) ?_
              refine va_get (D := D) (cl := vwCl) (ci := 8) (v := .ref a3) (C := RX8) (T := TX8) (N := 13) hx hb hts in_X8_will_X8 hown hK hP 6 rfl rfl 3 (by decide) (hts (.fieldLink RX8 33 "EightReasons" "trial" "LEightReasons$State;") (List.mem_of_getElem? (i := 1) (by decide +kernel))) (fun _ h9 => h9) rfl dX8_will_43 ?_
              refine lv_aload_n hx hb dX8_will_46 rfl (lv_at hl 1 rfl) ?_
              refine va_get (D := D) (cl := vwCl) (ci := 8) (v := .ref a8) (C := RX8) (T := TX8) (N := 13) hx hb hts in_X8_will_X8 hown hK hP 6 rfl rfl 1 (by decide) (hts (.fieldLink RX8 19 "EightReasons" "told" "LEightReasons$Suit;") (List.mem_of_getElem? (i := 2) (by decide +kernel))) (fun _ h9 => h9) rfl dX8_will_47 ?_
              refine clVI (As := [.ref a8]) (rest := []) (wr := [(a7, .inr (2, [.int x7_0, v7_1, .ref a12, v7_3, .ref r0, v7_5, .ref a9, .ref a11, v7_8, .int 0])), (a9, .inl (cy 0, 12, .inl zI)), (a10, .inl (cy 0, 10, .inl zI)), (a11, .inl (cy 0, 10, .inl zI)), (a12, .inl (cy 0, 10, .inl zI)), (a0, .inr (8, [v0_0, .ref a8, .ref a1, .ref a3, v0_4, v0_5, .ref a7, v0_7, v0_8, v0_9, v0_10, v0_11, v0_12])), (a1, .inr (0, [.ref a2, .int 0, v1_2, v1_3])), (a2, .inl (cy 4, 41, .inr (.inr (.inr (.inr g2_))))), (a4, .inr (4, [.ref a5, .int x4_1, .int 0, .int x4_3, .int x4_4])), (a5, .inl (cy 0, 12, .inl zI)), (a6, .inl (cy 0, 12, .inl zI))]) ⟨hx, hb, hml, hown, hts⟩ hK hP hD hS hA (k_X4_pass_1 l D cy a3 a8 (.ref a6) (.int x4_1) (.int 0) dd (.int x4_4) (.int 0) (.int 0) (v8_3) (v8_4) (.ref a10) (v8_6) (v8_7) (v8_8) (v8_9) (v8_10) (v8_11) _) (cwV 1 hts gX8_will_X4_pass rfl rfl rfl (by decide +kernel) ⟨Nat.le_of_ble_eq_true rfl, Nat.le_of_ble_eq_true rfl⟩) 9 4 rfl rfl [9, 1] [0, 2, 3, 4, 5, 6, 7, 8, 10, 11, 12] rfl rfl rfl rfl (by decide) rfl hl.1 rfl (Nat.le_of_ble_eq_true rfl) dX8_will_50 ⟨Nat.le_of_ble_eq_true rfl, Nat.le_of_ble_eq_true rfl⟩ rfl rfl (fun r _ H locs hw hP hD hS => ?_)
              have hP : va_P D vwCl [(a7, .inr (2, [.int x7_0, v7_1, .ref a12, v7_3, .ref r0, v7_5, .ref a9, .ref a11, v7_8, .int 0])), (a9, .inl (cy 0, 12, .inl zI)), (a10, .inl (cy 0, 10, .inl zI)), (a11, .inl (cy 0, 10, .inl zI)), (a12, .inl (cy 0, 10, .inl zI)), (a0, .inr (8, [v0_0, .ref a8, .ref a1, .ref a3, v0_4, v0_5, .ref a7, v0_7, v0_8, v0_9, v0_10, v0_11, v0_12])), (a1, .inr (0, [.ref a2, .int 0, v1_2, v1_3])), (a2, .inl (cy 4, 41, .inr (.inr (.inr (.inr g2_))))), (a4, .inr (4, [.ref a5, .int x4_1, .int 0, .int x4_3, .int x4_4])), (a5, .inl (cy 0, 12, .inl zI)), (a6, .inl (cy 0, 12, .inl zI)), (a3, .inr (4, [.ref a6, .int x4_1, .int 0, .int (dd + 1), .int x4_4])), (a8, .inr (5, [.int 0, .int 0, .int 0, v8_3, v8_4, .ref a10, v8_6, v8_7, v8_8, v8_9, v8_10, v8_11]))] H := hP
              have hD : va_D A [(a7, .inr (2, [.int x7_0, v7_1, .ref a12, v7_3, .ref r0, v7_5, .ref a9, .ref a11, v7_8, .int 0])), (a9, .inl (cy 0, 12, .inl zI)), (a10, .inl (cy 0, 10, .inl zI)), (a11, .inl (cy 0, 10, .inl zI)), (a12, .inl (cy 0, 10, .inl zI)), (a0, .inr (8, [v0_0, .ref a8, .ref a1, .ref a3, v0_4, v0_5, .ref a7, v0_7, v0_8, v0_9, v0_10, v0_11, v0_12])), (a1, .inr (0, [.ref a2, .int 0, v1_2, v1_3])), (a2, .inl (cy 4, 41, .inr (.inr (.inr (.inr g2_))))), (a4, .inr (4, [.ref a5, .int x4_1, .int 0, .int x4_3, .int x4_4])), (a5, .inl (cy 0, 12, .inl zI)), (a6, .inl (cy 0, 12, .inl zI)), (a3, .inr (4, [.ref a6, .int x4_1, .int 0, .int (dd + 1), .int x4_4])), (a8, .inr (5, [.int 0, .int 0, .int 0, v8_3, v8_4, .ref a10, v8_6, v8_7, v8_8, v8_9, v8_10, v8_11]))] := hD
              obtain rfl : r = 0 := hw
              refine lv_pop hx hb dX8_will_53 rfl ?_
              refine lv_goto (tgt := 70) hx hb dX8_will_54 (by decide) ?_
              refine lv_iinc (v := (nI (j + 1))) (lv' := [(3, .int (nI (j + 1))), (0, .ref a0), (1, .int p1), (2, .int p2)]) hx hb dX8_will_70 hl (k := 0) rfl (nI_1 j) (by decide) rfl (fun ls hl => ?_)
              refine lv_goto (tgt := 32) hx hb dX8_will_73 (by decide) ?_
              exact ih (j + 1) (dd + 1) H locs ls (by omega) (P_pick hP [0, 12, 1, 2, 3, 4, 5, 6, 7, 11, 8, 9, 10] rfl) (hD.sub [0, 12, 1, 2, 3, 4, 5, 6, 7, 11, 8, 9, 10] rfl rfl) hS (lv_sub hl [0, 1, 2, 3] rfl)
        exact loop N 0 x4_3 H locs ls (by omega) hP hD hS hl
      · refine lv_if_ne (tgt := 19) hx hb dX8_will_14 (by decide) (fun c => absurd (by decide) c) (fun _ => ?_)
        refine lv_iconst (v := (-1)) hx hb dX8_will_17 (by decide) ?_
        exact rtI hx hb hr hlk rfl hP hD hS () [] rfl rfl (Or.inl ⟨rfl, (Or.inr (Or.inr ⟨c1, c2, c4⟩))⟩) dX8_will_18
set_option maxHeartbeats 4000000 in
set_option maxRecDepth 100000 in
theorem k_X9_isIn_1 (l : Launch) (D : va_G) (cy : Nat → ClassId)  (p0 : Int32) (sz : Nat) : CtI l yX9_isIn wsX9_isIn 0 0 [.int p0, .int 0, .int 60] D cy [] sz 0 0 (fun (r : Int32) (_ : Unit) => (r = 0 ∧ (((p0 < 0)) ∨ ((¬ p0 < 0) ∧ (60 < p0)))) ∨ (r = 1 ∧ (((¬ p0 < 0) ∧ (¬ 60 < p0))))) (fun _ => []) := by
  refine CtI.of (cc := cX9_isIn) (maxL := 3) (ty := .boolean) (own := RX9) (by decide) rfl (Nat.le_of_ble_eq_true rfl) rfl ?_
  intro p e s m below meth c A ls hx hb hr hml hts hown hlk hK hP hD hS hA hl
  have hl : lv_has ls 3 [(0, .int p0), (1, .int 0), (2, .int 60)] := hl
  refine st0 (fun H locs hP hS => ?_) hP hS
  have hP : va_P D vwCl [] H := hP
  have hD : va_D A [] := hD
  refine lv_iload_n hx hb dX9_isIn_0 rfl (lv_at hl 0 rfl) ?_
  refine lv_iload_n hx hb dX9_isIn_1 rfl (lv_at hl 1 rfl) ?_
  refine lv_icmp_lt (tgt := 14) hx hb dX9_isIn_2 (by decide) (fun c1 => ?_) (fun c1 => ?_)
  · refine lv_iconst (v := 0) hx hb dX9_isIn_14 (by decide) ?_
    exact rtI hx hb hr hlk rfl hP hD hS () [] rfl rfl (Or.inl ⟨rfl, (Or.inl c1)⟩) dX9_isIn_15
  · refine lv_iload_n hx hb dX9_isIn_5 rfl (lv_at hl 0 rfl) ?_
    refine lv_iload_n hx hb dX9_isIn_6 rfl (lv_at hl 2 rfl) ?_
    refine lv_icmp_gt (tgt := 14) hx hb dX9_isIn_7 (by decide) (fun c2 => ?_) (fun c2 => ?_)
    · refine lv_iconst (v := 0) hx hb dX9_isIn_14 (by decide) ?_
      exact rtI hx hb hr hlk rfl hP hD hS () [] rfl rfl (Or.inl ⟨rfl, (Or.inr ⟨c1, c2⟩)⟩) dX9_isIn_15
    · refine lv_iconst (v := 1) hx hb dX9_isIn_10 (by decide) ?_
      refine lv_goto (tgt := 15) hx hb dX9_isIn_11 (by decide) ?_
      exact rtI hx hb hr hlk rfl hP hD hS () [] rfl rfl (Or.inr ⟨rfl, ⟨c1, c2⟩⟩) dX9_isIn_15
set_option maxHeartbeats 4000000 in
set_option maxRecDepth 100000 in
theorem k_X9_isIn_2 (l : Launch) (D : va_G) (cy : Nat → ClassId)  (p0 : Int32) (sz : Nat) : CtI l yX9_isIn wsX9_isIn 0 0 [.int p0, .int 0, .int 1] D cy [] sz 0 0 (fun (r : Int32) (_ : Unit) => (r = 0 ∧ (((p0 < 0)) ∨ ((¬ p0 < 0) ∧ (1 < p0)))) ∨ (r = 1 ∧ (((¬ p0 < 0) ∧ (¬ 1 < p0))))) (fun _ => []) := by
  refine CtI.of (cc := cX9_isIn) (maxL := 3) (ty := .boolean) (own := RX9) (by decide) rfl (Nat.le_of_ble_eq_true rfl) rfl ?_
  intro p e s m below meth c A ls hx hb hr hml hts hown hlk hK hP hD hS hA hl
  have hl : lv_has ls 3 [(0, .int p0), (1, .int 0), (2, .int 1)] := hl
  refine st0 (fun H locs hP hS => ?_) hP hS
  have hP : va_P D vwCl [] H := hP
  have hD : va_D A [] := hD
  refine lv_iload_n hx hb dX9_isIn_0 rfl (lv_at hl 0 rfl) ?_
  refine lv_iload_n hx hb dX9_isIn_1 rfl (lv_at hl 1 rfl) ?_
  refine lv_icmp_lt (tgt := 14) hx hb dX9_isIn_2 (by decide) (fun c1 => ?_) (fun c1 => ?_)
  · refine lv_iconst (v := 0) hx hb dX9_isIn_14 (by decide) ?_
    exact rtI hx hb hr hlk rfl hP hD hS () [] rfl rfl (Or.inl ⟨rfl, (Or.inl c1)⟩) dX9_isIn_15
  · refine lv_iload_n hx hb dX9_isIn_5 rfl (lv_at hl 0 rfl) ?_
    refine lv_iload_n hx hb dX9_isIn_6 rfl (lv_at hl 2 rfl) ?_
    refine lv_icmp_gt (tgt := 14) hx hb dX9_isIn_7 (by decide) (fun c2 => ?_) (fun c2 => ?_)
    · refine lv_iconst (v := 0) hx hb dX9_isIn_14 (by decide) ?_
      exact rtI hx hb hr hlk rfl hP hD hS () [] rfl rfl (Or.inl ⟨rfl, (Or.inr ⟨c1, c2⟩)⟩) dX9_isIn_15
    · refine lv_iconst (v := 1) hx hb dX9_isIn_10 (by decide) ?_
      refine lv_goto (tgt := 15) hx hb dX9_isIn_11 (by decide) ?_
      exact rtI hx hb hr hlk rfl hP hD hS () [] rfl rfl (Or.inr ⟨rfl, ⟨c1, c2⟩⟩) dX9_isIn_15
set_option maxHeartbeats 4000000 in
set_option maxRecDepth 100000 in
theorem k_X9_keepNow_0 (l : Launch) (D : va_G) (cy : Nat → ClassId) (a0 a1 a2 : Nat) (v0_0 : Value) (v0_1 : Value) (v0_2 : Value) (v0_3 : Value) (v0_4 : Value) (v0_5 : Value) (v0_6 : Value) (v0_7 : Value) (v0_8 : Value) (v0_9 : Value) (v0_10 : Value) (v0_11 : Value) (v0_12 : Value) (v0_13 : Value) (v0_14 : Value) (v0_15 : Value) (v0_16 : Value) (v0_17 : Value) (v0_18 : Value) (v0_19 : Value) (v0_20 : Value) (v0_21 : Value) (v0_22 : Value) (v0_23 : Value) (v0_24 : Value) (v0_25 : Value) (v0_26 : Value) (v0_27 : Value) (v0_28 : Value) (v0_29 : Value) (v0_30 : Value) (v0_31 : Value) (v0_32 : Value) (v0_33 : Value) (v0_34 : Value) (v0_35 : Value) (v0_36 : Value) (v0_39 : Value) (v0_40 : Value) (v0_41 : Value) (v0_42 : Value) (v0_43 : Value) (v0_44 : Value) (v0_45 : Value) (v0_46 : Value) (v0_47 : Value) (v0_48 : Value) (v0_49 : Value) (v0_50 : Value) (v0_51 : Value) (v0_52 : Value) (v0_53 : Value) (v0_54 : Value) (v0_55 : Value) (v0_56 : Value) (v0_57 : Value) (v0_58 : Value) (v0_59 : Value) (v0_60 : Value) (v0_61 : Value) (v0_62 : Value) (v0_63 : Value) (sz : Nat) : CtV l yX9_keepNow wsX9_keepNow 0 0 [.ref a0] D cy [(a0, .inr (9, [v0_0, v0_1, v0_2, v0_3, v0_4, v0_5, v0_6, v0_7, v0_8, v0_9, v0_10, v0_11, v0_12, v0_13, v0_14, v0_15, v0_16, v0_17, v0_18, v0_19, v0_20, v0_21, v0_22, v0_23, v0_24, v0_25, v0_26, v0_27, v0_28, v0_29, v0_30, v0_31, v0_32, v0_33, v0_34, v0_35, v0_36, .ref a1, .ref a2, v0_39, v0_40, v0_41, v0_42, v0_43, v0_44, v0_45, v0_46, v0_47, v0_48, v0_49, v0_50, v0_51, v0_52, v0_53, v0_54, v0_55, v0_56, v0_57, v0_58, v0_59, v0_60, v0_61, v0_62, v0_63])), (a1, .inl (cy 0, 16, .inl zI)), (a2, .inl (cy 0, 16, .inl zI))] sz 0 0 (fun (_ : Unit) => True) (fun _ => [(a0, .inr (9, [v0_0, v0_1, v0_2, v0_3, v0_4, v0_5, v0_6, v0_7, v0_8, v0_9, v0_10, v0_11, v0_12, v0_13, v0_14, v0_15, v0_16, v0_17, v0_18, v0_19, v0_20, v0_21, v0_22, v0_23, v0_24, v0_25, v0_26, v0_27, v0_28, v0_29, v0_30, v0_31, v0_32, v0_33, v0_34, v0_35, v0_36, .ref a1, .ref a2, v0_39, v0_40, v0_41, v0_42, v0_43, v0_44, v0_45, v0_46, v0_47, v0_48, v0_49, v0_50, v0_51, v0_52, v0_53, v0_54, v0_55, v0_56, v0_57, v0_58, v0_59, v0_60, v0_61, v0_62, v0_63])), (a1, .inl (cy 0, 16, .inl zI)), (a2, .inl (cy 0, 16, .inl zI))]) := by
  refine CtV.of (cc := cX9_keepNow) (maxL := 2) (own := RX9) (by decide) rfl (Nat.le_of_ble_eq_true rfl) rfl ?_
  intro p e s m below meth c A ls hx hb hr hml hts hown hlk hK hP hD hS hA hl
  have hl : lv_has ls 2 [(0, .ref a0)] := hl
  refine st0 (fun H locs hP hS => ?_) hP hS
  have hP : va_P D vwCl [(a0, .inr (9, [v0_0, v0_1, v0_2, v0_3, v0_4, v0_5, v0_6, v0_7, v0_8, v0_9, v0_10, v0_11, v0_12, v0_13, v0_14, v0_15, v0_16, v0_17, v0_18, v0_19, v0_20, v0_21, v0_22, v0_23, v0_24, v0_25, v0_26, v0_27, v0_28, v0_29, v0_30, v0_31, v0_32, v0_33, v0_34, v0_35, v0_36, .ref a1, .ref a2, v0_39, v0_40, v0_41, v0_42, v0_43, v0_44, v0_45, v0_46, v0_47, v0_48, v0_49, v0_50, v0_51, v0_52, v0_53, v0_54, v0_55, v0_56, v0_57, v0_58, v0_59, v0_60, v0_61, v0_62, v0_63])), (a1, .inl (cy 0, 16, .inl zI)), (a2, .inl (cy 0, 16, .inl zI))] H := hP
  have hD : va_D A [(a0, .inr (9, [v0_0, v0_1, v0_2, v0_3, v0_4, v0_5, v0_6, v0_7, v0_8, v0_9, v0_10, v0_11, v0_12, v0_13, v0_14, v0_15, v0_16, v0_17, v0_18, v0_19, v0_20, v0_21, v0_22, v0_23, v0_24, v0_25, v0_26, v0_27, v0_28, v0_29, v0_30, v0_31, v0_32, v0_33, v0_34, v0_35, v0_36, .ref a1, .ref a2, v0_39, v0_40, v0_41, v0_42, v0_43, v0_44, v0_45, v0_46, v0_47, v0_48, v0_49, v0_50, v0_51, v0_52, v0_53, v0_54, v0_55, v0_56, v0_57, v0_58, v0_59, v0_60, v0_61, v0_62, v0_63])), (a1, .inl (cy 0, 16, .inl zI)), (a2, .inl (cy 0, 16, .inl zI))] := hD
  refine lv_iconst (v := 0) hx hb dX9_keepNow_0 (by decide) ?_
  refine lv_istore_n (lv' := [(1, .int 0), (0, .ref a0)]) hx hb dX9_keepNow_1 rfl hl (by decide) rfl (fun ls hl => ?_)
  refine lv_iload_n hx hb dX9_keepNow_2 rfl (lv_at hl 0 rfl) ?_
  refine lv_bipush (v := 16) hx hb dX9_keepNow_3 (by decide) ?_
  refine lv_icmp_ge (tgt := 26) hx hb dX9_keepNow_5 (by decide) (fun c => absurd c (by decide)) (fun _ => ?_)
  refine lv_aload_n hx hb dX9_keepNow_8 rfl (lv_at hl 1 rfl) ?_
  refine va_get (D := D) (cl := vwCl) (ci := 9) (v := .ref a2) (C := RX9) (T := TX9) (N := 64) hx hb hts in_X9_keepNow_X9 hown hK hP 0 rfl rfl 38 (by decide) (hts (.fieldLink RX9 79 "EightReasonsModel" "kept" "[I") (List.mem_of_getElem? (i := 1) (by decide +kernel))) (fun _ h9 => h9) rfl dX9_keepNow_9 ?_
  refine lv_iload_n hx hb dX9_keepNow_12 rfl (lv_at hl 0 rfl) ?_
  refine lv_aload_n hx hb dX9_keepNow_13 rfl (lv_at hl 1 rfl) ?_
  refine va_get (D := D) (cl := vwCl) (ci := 9) (v := .ref a1) (C := RX9) (T := TX9) (N := 64) hx hb hts in_X9_keepNow_X9 hown hK hP 0 rfl rfl 37 (by decide) (hts (.fieldLink RX9 76 "EightReasonsModel" "all" "[I") (List.mem_of_getElem? (i := 2) (by decide +kernel))) (fun _ h9 => h9) rfl dX9_keepNow_14 ?_
  refine lv_iload_n hx hb dX9_keepNow_17 rfl (lv_at hl 0 rfl) ?_
  refine va_iald hx hb hK hP 1 0 rfl rfl (vin (by decide)) dX9_keepNow_18 (tpi (v := 0) rfl ?_)
  refine va_iast hx hb hK hP hD hS 2 0 rfl rfl (vin (by decide)) dX9_keepNow_19 (fun H locs hP hD hS => ?_)
  rw [zI_upd] at hP hD
  have hP : va_P D vwCl [(a0, .inr (9, [v0_0, v0_1, v0_2, v0_3, v0_4, v0_5, v0_6, v0_7, v0_8, v0_9, v0_10, v0_11, v0_12, v0_13, v0_14, v0_15, v0_16, v0_17, v0_18, v0_19, v0_20, v0_21, v0_22, v0_23, v0_24, v0_25, v0_26, v0_27, v0_28, v0_29, v0_30, v0_31, v0_32, v0_33, v0_34, v0_35, v0_36, .ref a1, .ref a2, v0_39, v0_40, v0_41, v0_42, v0_43, v0_44, v0_45, v0_46, v0_47, v0_48, v0_49, v0_50, v0_51, v0_52, v0_53, v0_54, v0_55, v0_56, v0_57, v0_58, v0_59, v0_60, v0_61, v0_62, v0_63])), (a1, .inl (cy 0, 16, .inl zI)), (a2, .inl (cy 0, 16, .inl zI))] H := hP
  have hD : va_D A [(a0, .inr (9, [v0_0, v0_1, v0_2, v0_3, v0_4, v0_5, v0_6, v0_7, v0_8, v0_9, v0_10, v0_11, v0_12, v0_13, v0_14, v0_15, v0_16, v0_17, v0_18, v0_19, v0_20, v0_21, v0_22, v0_23, v0_24, v0_25, v0_26, v0_27, v0_28, v0_29, v0_30, v0_31, v0_32, v0_33, v0_34, v0_35, v0_36, .ref a1, .ref a2, v0_39, v0_40, v0_41, v0_42, v0_43, v0_44, v0_45, v0_46, v0_47, v0_48, v0_49, v0_50, v0_51, v0_52, v0_53, v0_54, v0_55, v0_56, v0_57, v0_58, v0_59, v0_60, v0_61, v0_62, v0_63])), (a1, .inl (cy 0, 16, .inl zI)), (a2, .inl (cy 0, 16, .inl zI))] := hD
  refine lv_iinc (v := 1) (lv' := [(1, .int 1), (0, .ref a0)]) hx hb dX9_keepNow_20 hl (k := 0) rfl (by decide) (by decide) rfl (fun ls hl => ?_)
  refine lv_goto (tgt := 2) hx hb dX9_keepNow_23 (by decide) ?_
  refine lv_iload_n hx hb dX9_keepNow_2 rfl (lv_at hl 0 rfl) ?_
  refine lv_bipush (v := 16) hx hb dX9_keepNow_3 (by decide) ?_
  refine lv_icmp_ge (tgt := 26) hx hb dX9_keepNow_5 (by decide) (fun c => absurd c (by decide)) (fun _ => ?_)
  refine lv_aload_n hx hb dX9_keepNow_8 rfl (lv_at hl 1 rfl) ?_
  refine va_get (D := D) (cl := vwCl) (ci := 9) (v := .ref a2) (C := RX9) (T := TX9) (N := 64) hx hb hts in_X9_keepNow_X9 hown hK hP 0 rfl rfl 38 (by decide) (hts (.fieldLink RX9 79 "EightReasonsModel" "kept" "[I") (List.mem_of_getElem? (i := 1) (by decide +kernel))) (fun _ h9 => h9) rfl dX9_keepNow_9 ?_
  refine lv_iload_n hx hb dX9_keepNow_12 rfl (lv_at hl 0 rfl) ?_
  refine lv_aload_n hx hb dX9_keepNow_13 rfl (lv_at hl 1 rfl) ?_
  refine va_get (D := D) (cl := vwCl) (ci := 9) (v := .ref a1) (C := RX9) (T := TX9) (N := 64) hx hb hts in_X9_keepNow_X9 hown hK hP 0 rfl rfl 37 (by decide) (hts (.fieldLink RX9 76 "EightReasonsModel" "all" "[I") (List.mem_of_getElem? (i := 2) (by decide +kernel))) (fun _ h9 => h9) rfl dX9_keepNow_14 ?_
  refine lv_iload_n hx hb dX9_keepNow_17 rfl (lv_at hl 0 rfl) ?_
  refine va_iald hx hb hK hP 1 0 rfl rfl (vin (by decide)) dX9_keepNow_18 (tpi (v := 0) rfl ?_)
  refine va_iast hx hb hK hP hD hS 2 0 rfl rfl (vin (by decide)) dX9_keepNow_19 (fun H locs hP hD hS => ?_)
  rw [zI_upd] at hP hD
  have hP : va_P D vwCl [(a0, .inr (9, [v0_0, v0_1, v0_2, v0_3, v0_4, v0_5, v0_6, v0_7, v0_8, v0_9, v0_10, v0_11, v0_12, v0_13, v0_14, v0_15, v0_16, v0_17, v0_18, v0_19, v0_20, v0_21, v0_22, v0_23, v0_24, v0_25, v0_26, v0_27, v0_28, v0_29, v0_30, v0_31, v0_32, v0_33, v0_34, v0_35, v0_36, .ref a1, .ref a2, v0_39, v0_40, v0_41, v0_42, v0_43, v0_44, v0_45, v0_46, v0_47, v0_48, v0_49, v0_50, v0_51, v0_52, v0_53, v0_54, v0_55, v0_56, v0_57, v0_58, v0_59, v0_60, v0_61, v0_62, v0_63])), (a1, .inl (cy 0, 16, .inl zI)), (a2, .inl (cy 0, 16, .inl zI))] H := hP
  have hD : va_D A [(a0, .inr (9, [v0_0, v0_1, v0_2, v0_3, v0_4, v0_5, v0_6, v0_7, v0_8, v0_9, v0_10, v0_11, v0_12, v0_13, v0_14, v0_15, v0_16, v0_17, v0_18, v0_19, v0_20, v0_21, v0_22, v0_23, v0_24, v0_25, v0_26, v0_27, v0_28, v0_29, v0_30, v0_31, v0_32, v0_33, v0_34, v0_35, v0_36, .ref a1, .ref a2, v0_39, v0_40, v0_41, v0_42, v0_43, v0_44, v0_45, v0_46, v0_47, v0_48, v0_49, v0_50, v0_51, v0_52, v0_53, v0_54, v0_55, v0_56, v0_57, v0_58, v0_59, v0_60, v0_61, v0_62, v0_63])), (a1, .inl (cy 0, 16, .inl zI)), (a2, .inl (cy 0, 16, .inl zI))] := hD
  refine lv_iinc (v := 2) (lv' := [(1, .int 2), (0, .ref a0)]) hx hb dX9_keepNow_20 hl (k := 0) rfl (by decide) (by decide) rfl (fun ls hl => ?_)
  refine lv_goto (tgt := 2) hx hb dX9_keepNow_23 (by decide) ?_
  refine lv_iload_n hx hb dX9_keepNow_2 rfl (lv_at hl 0 rfl) ?_
  refine lv_bipush (v := 16) hx hb dX9_keepNow_3 (by decide) ?_
  refine lv_icmp_ge (tgt := 26) hx hb dX9_keepNow_5 (by decide) (fun c => absurd c (by decide)) (fun _ => ?_)
  refine lv_aload_n hx hb dX9_keepNow_8 rfl (lv_at hl 1 rfl) ?_
  refine va_get (D := D) (cl := vwCl) (ci := 9) (v := .ref a2) (C := RX9) (T := TX9) (N := 64) hx hb hts in_X9_keepNow_X9 hown hK hP 0 rfl rfl 38 (by decide) (hts (.fieldLink RX9 79 "EightReasonsModel" "kept" "[I") (List.mem_of_getElem? (i := 1) (by decide +kernel))) (fun _ h9 => h9) rfl dX9_keepNow_9 ?_
  refine lv_iload_n hx hb dX9_keepNow_12 rfl (lv_at hl 0 rfl) ?_
  refine lv_aload_n hx hb dX9_keepNow_13 rfl (lv_at hl 1 rfl) ?_
  refine va_get (D := D) (cl := vwCl) (ci := 9) (v := .ref a1) (C := RX9) (T := TX9) (N := 64) hx hb hts in_X9_keepNow_X9 hown hK hP 0 rfl rfl 37 (by decide) (hts (.fieldLink RX9 76 "EightReasonsModel" "all" "[I") (List.mem_of_getElem? (i := 2) (by decide +kernel))) (fun _ h9 => h9) rfl dX9_keepNow_14 ?_
  refine lv_iload_n hx hb dX9_keepNow_17 rfl (lv_at hl 0 rfl) ?_
  refine va_iald hx hb hK hP 1 0 rfl rfl (vin (by decide)) dX9_keepNow_18 (tpi (v := 0) rfl ?_)
  refine va_iast hx hb hK hP hD hS 2 0 rfl rfl (vin (by decide)) dX9_keepNow_19 (fun H locs hP hD hS => ?_)
  rw [zI_upd] at hP hD
  have hP : va_P D vwCl [(a0, .inr (9, [v0_0, v0_1, v0_2, v0_3, v0_4, v0_5, v0_6, v0_7, v0_8, v0_9, v0_10, v0_11, v0_12, v0_13, v0_14, v0_15, v0_16, v0_17, v0_18, v0_19, v0_20, v0_21, v0_22, v0_23, v0_24, v0_25, v0_26, v0_27, v0_28, v0_29, v0_30, v0_31, v0_32, v0_33, v0_34, v0_35, v0_36, .ref a1, .ref a2, v0_39, v0_40, v0_41, v0_42, v0_43, v0_44, v0_45, v0_46, v0_47, v0_48, v0_49, v0_50, v0_51, v0_52, v0_53, v0_54, v0_55, v0_56, v0_57, v0_58, v0_59, v0_60, v0_61, v0_62, v0_63])), (a1, .inl (cy 0, 16, .inl zI)), (a2, .inl (cy 0, 16, .inl zI))] H := hP
  have hD : va_D A [(a0, .inr (9, [v0_0, v0_1, v0_2, v0_3, v0_4, v0_5, v0_6, v0_7, v0_8, v0_9, v0_10, v0_11, v0_12, v0_13, v0_14, v0_15, v0_16, v0_17, v0_18, v0_19, v0_20, v0_21, v0_22, v0_23, v0_24, v0_25, v0_26, v0_27, v0_28, v0_29, v0_30, v0_31, v0_32, v0_33, v0_34, v0_35, v0_36, .ref a1, .ref a2, v0_39, v0_40, v0_41, v0_42, v0_43, v0_44, v0_45, v0_46, v0_47, v0_48, v0_49, v0_50, v0_51, v0_52, v0_53, v0_54, v0_55, v0_56, v0_57, v0_58, v0_59, v0_60, v0_61, v0_62, v0_63])), (a1, .inl (cy 0, 16, .inl zI)), (a2, .inl (cy 0, 16, .inl zI))] := hD
  refine lv_iinc (v := 3) (lv' := [(1, .int 3), (0, .ref a0)]) hx hb dX9_keepNow_20 hl (k := 0) rfl (by decide) (by decide) rfl (fun ls hl => ?_)
  refine lv_goto (tgt := 2) hx hb dX9_keepNow_23 (by decide) ?_
  refine lv_iload_n hx hb dX9_keepNow_2 rfl (lv_at hl 0 rfl) ?_
  refine lv_bipush (v := 16) hx hb dX9_keepNow_3 (by decide) ?_
  refine lv_icmp_ge (tgt := 26) hx hb dX9_keepNow_5 (by decide) (fun c => absurd c (by decide)) (fun _ => ?_)
  refine lv_aload_n hx hb dX9_keepNow_8 rfl (lv_at hl 1 rfl) ?_
  refine va_get (D := D) (cl := vwCl) (ci := 9) (v := .ref a2) (C := RX9) (T := TX9) (N := 64) hx hb hts in_X9_keepNow_X9 hown hK hP 0 rfl rfl 38 (by decide) (hts (.fieldLink RX9 79 "EightReasonsModel" "kept" "[I") (List.mem_of_getElem? (i := 1) (by decide +kernel))) (fun _ h9 => h9) rfl dX9_keepNow_9 ?_
  refine lv_iload_n hx hb dX9_keepNow_12 rfl (lv_at hl 0 rfl) ?_
  refine lv_aload_n hx hb dX9_keepNow_13 rfl (lv_at hl 1 rfl) ?_
  refine va_get (D := D) (cl := vwCl) (ci := 9) (v := .ref a1) (C := RX9) (T := TX9) (N := 64) hx hb hts in_X9_keepNow_X9 hown hK hP 0 rfl rfl 37 (by decide) (hts (.fieldLink RX9 76 "EightReasonsModel" "all" "[I") (List.mem_of_getElem? (i := 2) (by decide +kernel))) (fun _ h9 => h9) rfl dX9_keepNow_14 ?_
  refine lv_iload_n hx hb dX9_keepNow_17 rfl (lv_at hl 0 rfl) ?_
  refine va_iald hx hb hK hP 1 0 rfl rfl (vin (by decide)) dX9_keepNow_18 (tpi (v := 0) rfl ?_)
  refine va_iast hx hb hK hP hD hS 2 0 rfl rfl (vin (by decide)) dX9_keepNow_19 (fun H locs hP hD hS => ?_)
  rw [zI_upd] at hP hD
  have hP : va_P D vwCl [(a0, .inr (9, [v0_0, v0_1, v0_2, v0_3, v0_4, v0_5, v0_6, v0_7, v0_8, v0_9, v0_10, v0_11, v0_12, v0_13, v0_14, v0_15, v0_16, v0_17, v0_18, v0_19, v0_20, v0_21, v0_22, v0_23, v0_24, v0_25, v0_26, v0_27, v0_28, v0_29, v0_30, v0_31, v0_32, v0_33, v0_34, v0_35, v0_36, .ref a1, .ref a2, v0_39, v0_40, v0_41, v0_42, v0_43, v0_44, v0_45, v0_46, v0_47, v0_48, v0_49, v0_50, v0_51, v0_52, v0_53, v0_54, v0_55, v0_56, v0_57, v0_58, v0_59, v0_60, v0_61, v0_62, v0_63])), (a1, .inl (cy 0, 16, .inl zI)), (a2, .inl (cy 0, 16, .inl zI))] H := hP
  have hD : va_D A [(a0, .inr (9, [v0_0, v0_1, v0_2, v0_3, v0_4, v0_5, v0_6, v0_7, v0_8, v0_9, v0_10, v0_11, v0_12, v0_13, v0_14, v0_15, v0_16, v0_17, v0_18, v0_19, v0_20, v0_21, v0_22, v0_23, v0_24, v0_25, v0_26, v0_27, v0_28, v0_29, v0_30, v0_31, v0_32, v0_33, v0_34, v0_35, v0_36, .ref a1, .ref a2, v0_39, v0_40, v0_41, v0_42, v0_43, v0_44, v0_45, v0_46, v0_47, v0_48, v0_49, v0_50, v0_51, v0_52, v0_53, v0_54, v0_55, v0_56, v0_57, v0_58, v0_59, v0_60, v0_61, v0_62, v0_63])), (a1, .inl (cy 0, 16, .inl zI)), (a2, .inl (cy 0, 16, .inl zI))] := hD
  refine lv_iinc (v := 4) (lv' := [(1, .int 4), (0, .ref a0)]) hx hb dX9_keepNow_20 hl (k := 0) rfl (by decide) (by decide) rfl (fun ls hl => ?_)
  refine lv_goto (tgt := 2) hx hb dX9_keepNow_23 (by decide) ?_
  refine lv_iload_n hx hb dX9_keepNow_2 rfl (lv_at hl 0 rfl) ?_
  refine lv_bipush (v := 16) hx hb dX9_keepNow_3 (by decide) ?_
  refine lv_icmp_ge (tgt := 26) hx hb dX9_keepNow_5 (by decide) (fun c => absurd c (by decide)) (fun _ => ?_)
  refine lv_aload_n hx hb dX9_keepNow_8 rfl (lv_at hl 1 rfl) ?_
  refine va_get (D := D) (cl := vwCl) (ci := 9) (v := .ref a2) (C := RX9) (T := TX9) (N := 64) hx hb hts in_X9_keepNow_X9 hown hK hP 0 rfl rfl 38 (by decide) (hts (.fieldLink RX9 79 "EightReasonsModel" "kept" "[I") (List.mem_of_getElem? (i := 1) (by decide +kernel))) (fun _ h9 => h9) rfl dX9_keepNow_9 ?_
  refine lv_iload_n hx hb dX9_keepNow_12 rfl (lv_at hl 0 rfl) ?_
  refine lv_aload_n hx hb dX9_keepNow_13 rfl (lv_at hl 1 rfl) ?_
  refine va_get (D := D) (cl := vwCl) (ci := 9) (v := .ref a1) (C := RX9) (T := TX9) (N := 64) hx hb hts in_X9_keepNow_X9 hown hK hP 0 rfl rfl 37 (by decide) (hts (.fieldLink RX9 76 "EightReasonsModel" "all" "[I") (List.mem_of_getElem? (i := 2) (by decide +kernel))) (fun _ h9 => h9) rfl dX9_keepNow_14 ?_
  refine lv_iload_n hx hb dX9_keepNow_17 rfl (lv_at hl 0 rfl) ?_
  refine va_iald hx hb hK hP 1 0 rfl rfl (vin (by decide)) dX9_keepNow_18 (tpi (v := 0) rfl ?_)
  refine va_iast hx hb hK hP hD hS 2 0 rfl rfl (vin (by decide)) dX9_keepNow_19 (fun H locs hP hD hS => ?_)
  rw [zI_upd] at hP hD
  have hP : va_P D vwCl [(a0, .inr (9, [v0_0, v0_1, v0_2, v0_3, v0_4, v0_5, v0_6, v0_7, v0_8, v0_9, v0_10, v0_11, v0_12, v0_13, v0_14, v0_15, v0_16, v0_17, v0_18, v0_19, v0_20, v0_21, v0_22, v0_23, v0_24, v0_25, v0_26, v0_27, v0_28, v0_29, v0_30, v0_31, v0_32, v0_33, v0_34, v0_35, v0_36, .ref a1, .ref a2, v0_39, v0_40, v0_41, v0_42, v0_43, v0_44, v0_45, v0_46, v0_47, v0_48, v0_49, v0_50, v0_51, v0_52, v0_53, v0_54, v0_55, v0_56, v0_57, v0_58, v0_59, v0_60, v0_61, v0_62, v0_63])), (a1, .inl (cy 0, 16, .inl zI)), (a2, .inl (cy 0, 16, .inl zI))] H := hP
  have hD : va_D A [(a0, .inr (9, [v0_0, v0_1, v0_2, v0_3, v0_4, v0_5, v0_6, v0_7, v0_8, v0_9, v0_10, v0_11, v0_12, v0_13, v0_14, v0_15, v0_16, v0_17, v0_18, v0_19, v0_20, v0_21, v0_22, v0_23, v0_24, v0_25, v0_26, v0_27, v0_28, v0_29, v0_30, v0_31, v0_32, v0_33, v0_34, v0_35, v0_36, .ref a1, .ref a2, v0_39, v0_40, v0_41, v0_42, v0_43, v0_44, v0_45, v0_46, v0_47, v0_48, v0_49, v0_50, v0_51, v0_52, v0_53, v0_54, v0_55, v0_56, v0_57, v0_58, v0_59, v0_60, v0_61, v0_62, v0_63])), (a1, .inl (cy 0, 16, .inl zI)), (a2, .inl (cy 0, 16, .inl zI))] := hD
  refine lv_iinc (v := 5) (lv' := [(1, .int 5), (0, .ref a0)]) hx hb dX9_keepNow_20 hl (k := 0) rfl (by decide) (by decide) rfl (fun ls hl => ?_)
  refine lv_goto (tgt := 2) hx hb dX9_keepNow_23 (by decide) ?_
  refine lv_iload_n hx hb dX9_keepNow_2 rfl (lv_at hl 0 rfl) ?_
  refine lv_bipush (v := 16) hx hb dX9_keepNow_3 (by decide) ?_
  refine lv_icmp_ge (tgt := 26) hx hb dX9_keepNow_5 (by decide) (fun c => absurd c (by decide)) (fun _ => ?_)
  refine lv_aload_n hx hb dX9_keepNow_8 rfl (lv_at hl 1 rfl) ?_
  refine va_get (D := D) (cl := vwCl) (ci := 9) (v := .ref a2) (C := RX9) (T := TX9) (N := 64) hx hb hts in_X9_keepNow_X9 hown hK hP 0 rfl rfl 38 (by decide) (hts (.fieldLink RX9 79 "EightReasonsModel" "kept" "[I") (List.mem_of_getElem? (i := 1) (by decide +kernel))) (fun _ h9 => h9) rfl dX9_keepNow_9 ?_
  refine lv_iload_n hx hb dX9_keepNow_12 rfl (lv_at hl 0 rfl) ?_
  refine lv_aload_n hx hb dX9_keepNow_13 rfl (lv_at hl 1 rfl) ?_
  refine va_get (D := D) (cl := vwCl) (ci := 9) (v := .ref a1) (C := RX9) (T := TX9) (N := 64) hx hb hts in_X9_keepNow_X9 hown hK hP 0 rfl rfl 37 (by decide) (hts (.fieldLink RX9 76 "EightReasonsModel" "all" "[I") (List.mem_of_getElem? (i := 2) (by decide +kernel))) (fun _ h9 => h9) rfl dX9_keepNow_14 ?_
  refine lv_iload_n hx hb dX9_keepNow_17 rfl (lv_at hl 0 rfl) ?_
  refine va_iald hx hb hK hP 1 0 rfl rfl (vin (by decide)) dX9_keepNow_18 (tpi (v := 0) rfl ?_)
  refine va_iast hx hb hK hP hD hS 2 0 rfl rfl (vin (by decide)) dX9_keepNow_19 (fun H locs hP hD hS => ?_)
  rw [zI_upd] at hP hD
  have hP : va_P D vwCl [(a0, .inr (9, [v0_0, v0_1, v0_2, v0_3, v0_4, v0_5, v0_6, v0_7, v0_8, v0_9, v0_10, v0_11, v0_12, v0_13, v0_14, v0_15, v0_16, v0_17, v0_18, v0_19, v0_20, v0_21, v0_22, v0_23, v0_24, v0_25, v0_26, v0_27, v0_28, v0_29, v0_30, v0_31, v0_32, v0_33, v0_34, v0_35, v0_36, .ref a1, .ref a2, v0_39, v0_40, v0_41, v0_42, v0_43, v0_44, v0_45, v0_46, v0_47, v0_48, v0_49, v0_50, v0_51, v0_52, v0_53, v0_54, v0_55, v0_56, v0_57, v0_58, v0_59, v0_60, v0_61, v0_62, v0_63])), (a1, .inl (cy 0, 16, .inl zI)), (a2, .inl (cy 0, 16, .inl zI))] H := hP
  have hD : va_D A [(a0, .inr (9, [v0_0, v0_1, v0_2, v0_3, v0_4, v0_5, v0_6, v0_7, v0_8, v0_9, v0_10, v0_11, v0_12, v0_13, v0_14, v0_15, v0_16, v0_17, v0_18, v0_19, v0_20, v0_21, v0_22, v0_23, v0_24, v0_25, v0_26, v0_27, v0_28, v0_29, v0_30, v0_31, v0_32, v0_33, v0_34, v0_35, v0_36, .ref a1, .ref a2, v0_39, v0_40, v0_41, v0_42, v0_43, v0_44, v0_45, v0_46, v0_47, v0_48, v0_49, v0_50, v0_51, v0_52, v0_53, v0_54, v0_55, v0_56, v0_57, v0_58, v0_59, v0_60, v0_61, v0_62, v0_63])), (a1, .inl (cy 0, 16, .inl zI)), (a2, .inl (cy 0, 16, .inl zI))] := hD
  refine lv_iinc (v := 6) (lv' := [(1, .int 6), (0, .ref a0)]) hx hb dX9_keepNow_20 hl (k := 0) rfl (by decide) (by decide) rfl (fun ls hl => ?_)
  refine lv_goto (tgt := 2) hx hb dX9_keepNow_23 (by decide) ?_
  refine lv_iload_n hx hb dX9_keepNow_2 rfl (lv_at hl 0 rfl) ?_
  refine lv_bipush (v := 16) hx hb dX9_keepNow_3 (by decide) ?_
  refine lv_icmp_ge (tgt := 26) hx hb dX9_keepNow_5 (by decide) (fun c => absurd c (by decide)) (fun _ => ?_)
  refine lv_aload_n hx hb dX9_keepNow_8 rfl (lv_at hl 1 rfl) ?_
  refine va_get (D := D) (cl := vwCl) (ci := 9) (v := .ref a2) (C := RX9) (T := TX9) (N := 64) hx hb hts in_X9_keepNow_X9 hown hK hP 0 rfl rfl 38 (by decide) (hts (.fieldLink RX9 79 "EightReasonsModel" "kept" "[I") (List.mem_of_getElem? (i := 1) (by decide +kernel))) (fun _ h9 => h9) rfl dX9_keepNow_9 ?_
  refine lv_iload_n hx hb dX9_keepNow_12 rfl (lv_at hl 0 rfl) ?_
  refine lv_aload_n hx hb dX9_keepNow_13 rfl (lv_at hl 1 rfl) ?_
  refine va_get (D := D) (cl := vwCl) (ci := 9) (v := .ref a1) (C := RX9) (T := TX9) (N := 64) hx hb hts in_X9_keepNow_X9 hown hK hP 0 rfl rfl 37 (by decide) (hts (.fieldLink RX9 76 "EightReasonsModel" "all" "[I") (List.mem_of_getElem? (i := 2) (by decide +kernel))) (fun _ h9 => h9) rfl dX9_keepNow_14 ?_
  refine lv_iload_n hx hb dX9_keepNow_17 rfl (lv_at hl 0 rfl) ?_
  refine va_iald hx hb hK hP 1 0 rfl rfl (vin (by decide)) dX9_keepNow_18 (tpi (v := 0) rfl ?_)
  refine va_iast hx hb hK hP hD hS 2 0 rfl rfl (vin (by decide)) dX9_keepNow_19 (fun H locs hP hD hS => ?_)
  rw [zI_upd] at hP hD
  have hP : va_P D vwCl [(a0, .inr (9, [v0_0, v0_1, v0_2, v0_3, v0_4, v0_5, v0_6, v0_7, v0_8, v0_9, v0_10, v0_11, v0_12, v0_13, v0_14, v0_15, v0_16, v0_17, v0_18, v0_19, v0_20, v0_21, v0_22, v0_23, v0_24, v0_25, v0_26, v0_27, v0_28, v0_29, v0_30, v0_31, v0_32, v0_33, v0_34, v0_35, v0_36, .ref a1, .ref a2, v0_39, v0_40, v0_41, v0_42, v0_43, v0_44, v0_45, v0_46, v0_47, v0_48, v0_49, v0_50, v0_51, v0_52, v0_53, v0_54, v0_55, v0_56, v0_57, v0_58, v0_59, v0_60, v0_61, v0_62, v0_63])), (a1, .inl (cy 0, 16, .inl zI)), (a2, .inl (cy 0, 16, .inl zI))] H := hP
  have hD : va_D A [(a0, .inr (9, [v0_0, v0_1, v0_2, v0_3, v0_4, v0_5, v0_6, v0_7, v0_8, v0_9, v0_10, v0_11, v0_12, v0_13, v0_14, v0_15, v0_16, v0_17, v0_18, v0_19, v0_20, v0_21, v0_22, v0_23, v0_24, v0_25, v0_26, v0_27, v0_28, v0_29, v0_30, v0_31, v0_32, v0_33, v0_34, v0_35, v0_36, .ref a1, .ref a2, v0_39, v0_40, v0_41, v0_42, v0_43, v0_44, v0_45, v0_46, v0_47, v0_48, v0_49, v0_50, v0_51, v0_52, v0_53, v0_54, v0_55, v0_56, v0_57, v0_58, v0_59, v0_60, v0_61, v0_62, v0_63])), (a1, .inl (cy 0, 16, .inl zI)), (a2, .inl (cy 0, 16, .inl zI))] := hD
  refine lv_iinc (v := 7) (lv' := [(1, .int 7), (0, .ref a0)]) hx hb dX9_keepNow_20 hl (k := 0) rfl (by decide) (by decide) rfl (fun ls hl => ?_)
  refine lv_goto (tgt := 2) hx hb dX9_keepNow_23 (by decide) ?_
  refine lv_iload_n hx hb dX9_keepNow_2 rfl (lv_at hl 0 rfl) ?_
  refine lv_bipush (v := 16) hx hb dX9_keepNow_3 (by decide) ?_
  refine lv_icmp_ge (tgt := 26) hx hb dX9_keepNow_5 (by decide) (fun c => absurd c (by decide)) (fun _ => ?_)
  refine lv_aload_n hx hb dX9_keepNow_8 rfl (lv_at hl 1 rfl) ?_
  refine va_get (D := D) (cl := vwCl) (ci := 9) (v := .ref a2) (C := RX9) (T := TX9) (N := 64) hx hb hts in_X9_keepNow_X9 hown hK hP 0 rfl rfl 38 (by decide) (hts (.fieldLink RX9 79 "EightReasonsModel" "kept" "[I") (List.mem_of_getElem? (i := 1) (by decide +kernel))) (fun _ h9 => h9) rfl dX9_keepNow_9 ?_
  refine lv_iload_n hx hb dX9_keepNow_12 rfl (lv_at hl 0 rfl) ?_
  refine lv_aload_n hx hb dX9_keepNow_13 rfl (lv_at hl 1 rfl) ?_
  refine va_get (D := D) (cl := vwCl) (ci := 9) (v := .ref a1) (C := RX9) (T := TX9) (N := 64) hx hb hts in_X9_keepNow_X9 hown hK hP 0 rfl rfl 37 (by decide) (hts (.fieldLink RX9 76 "EightReasonsModel" "all" "[I") (List.mem_of_getElem? (i := 2) (by decide +kernel))) (fun _ h9 => h9) rfl dX9_keepNow_14 ?_
  refine lv_iload_n hx hb dX9_keepNow_17 rfl (lv_at hl 0 rfl) ?_
  refine va_iald hx hb hK hP 1 0 rfl rfl (vin (by decide)) dX9_keepNow_18 (tpi (v := 0) rfl ?_)
  refine va_iast hx hb hK hP hD hS 2 0 rfl rfl (vin (by decide)) dX9_keepNow_19 (fun H locs hP hD hS => ?_)
  rw [zI_upd] at hP hD
  have hP : va_P D vwCl [(a0, .inr (9, [v0_0, v0_1, v0_2, v0_3, v0_4, v0_5, v0_6, v0_7, v0_8, v0_9, v0_10, v0_11, v0_12, v0_13, v0_14, v0_15, v0_16, v0_17, v0_18, v0_19, v0_20, v0_21, v0_22, v0_23, v0_24, v0_25, v0_26, v0_27, v0_28, v0_29, v0_30, v0_31, v0_32, v0_33, v0_34, v0_35, v0_36, .ref a1, .ref a2, v0_39, v0_40, v0_41, v0_42, v0_43, v0_44, v0_45, v0_46, v0_47, v0_48, v0_49, v0_50, v0_51, v0_52, v0_53, v0_54, v0_55, v0_56, v0_57, v0_58, v0_59, v0_60, v0_61, v0_62, v0_63])), (a1, .inl (cy 0, 16, .inl zI)), (a2, .inl (cy 0, 16, .inl zI))] H := hP
  have hD : va_D A [(a0, .inr (9, [v0_0, v0_1, v0_2, v0_3, v0_4, v0_5, v0_6, v0_7, v0_8, v0_9, v0_10, v0_11, v0_12, v0_13, v0_14, v0_15, v0_16, v0_17, v0_18, v0_19, v0_20, v0_21, v0_22, v0_23, v0_24, v0_25, v0_26, v0_27, v0_28, v0_29, v0_30, v0_31, v0_32, v0_33, v0_34, v0_35, v0_36, .ref a1, .ref a2, v0_39, v0_40, v0_41, v0_42, v0_43, v0_44, v0_45, v0_46, v0_47, v0_48, v0_49, v0_50, v0_51, v0_52, v0_53, v0_54, v0_55, v0_56, v0_57, v0_58, v0_59, v0_60, v0_61, v0_62, v0_63])), (a1, .inl (cy 0, 16, .inl zI)), (a2, .inl (cy 0, 16, .inl zI))] := hD
  refine lv_iinc (v := 8) (lv' := [(1, .int 8), (0, .ref a0)]) hx hb dX9_keepNow_20 hl (k := 0) rfl (by decide) (by decide) rfl (fun ls hl => ?_)
  refine lv_goto (tgt := 2) hx hb dX9_keepNow_23 (by decide) ?_
  refine lv_iload_n hx hb dX9_keepNow_2 rfl (lv_at hl 0 rfl) ?_
  refine lv_bipush (v := 16) hx hb dX9_keepNow_3 (by decide) ?_
  refine lv_icmp_ge (tgt := 26) hx hb dX9_keepNow_5 (by decide) (fun c => absurd c (by decide)) (fun _ => ?_)
  refine lv_aload_n hx hb dX9_keepNow_8 rfl (lv_at hl 1 rfl) ?_
  refine va_get (D := D) (cl := vwCl) (ci := 9) (v := .ref a2) (C := RX9) (T := TX9) (N := 64) hx hb hts in_X9_keepNow_X9 hown hK hP 0 rfl rfl 38 (by decide) (hts (.fieldLink RX9 79 "EightReasonsModel" "kept" "[I") (List.mem_of_getElem? (i := 1) (by decide +kernel))) (fun _ h9 => h9) rfl dX9_keepNow_9 ?_
  refine lv_iload_n hx hb dX9_keepNow_12 rfl (lv_at hl 0 rfl) ?_
  refine lv_aload_n hx hb dX9_keepNow_13 rfl (lv_at hl 1 rfl) ?_
  refine va_get (D := D) (cl := vwCl) (ci := 9) (v := .ref a1) (C := RX9) (T := TX9) (N := 64) hx hb hts in_X9_keepNow_X9 hown hK hP 0 rfl rfl 37 (by decide) (hts (.fieldLink RX9 76 "EightReasonsModel" "all" "[I") (List.mem_of_getElem? (i := 2) (by decide +kernel))) (fun _ h9 => h9) rfl dX9_keepNow_14 ?_
  refine lv_iload_n hx hb dX9_keepNow_17 rfl (lv_at hl 0 rfl) ?_
  refine va_iald hx hb hK hP 1 0 rfl rfl (vin (by decide)) dX9_keepNow_18 (tpi (v := 0) rfl ?_)
  refine va_iast hx hb hK hP hD hS 2 0 rfl rfl (vin (by decide)) dX9_keepNow_19 (fun H locs hP hD hS => ?_)
  rw [zI_upd] at hP hD
  have hP : va_P D vwCl [(a0, .inr (9, [v0_0, v0_1, v0_2, v0_3, v0_4, v0_5, v0_6, v0_7, v0_8, v0_9, v0_10, v0_11, v0_12, v0_13, v0_14, v0_15, v0_16, v0_17, v0_18, v0_19, v0_20, v0_21, v0_22, v0_23, v0_24, v0_25, v0_26, v0_27, v0_28, v0_29, v0_30, v0_31, v0_32, v0_33, v0_34, v0_35, v0_36, .ref a1, .ref a2, v0_39, v0_40, v0_41, v0_42, v0_43, v0_44, v0_45, v0_46, v0_47, v0_48, v0_49, v0_50, v0_51, v0_52, v0_53, v0_54, v0_55, v0_56, v0_57, v0_58, v0_59, v0_60, v0_61, v0_62, v0_63])), (a1, .inl (cy 0, 16, .inl zI)), (a2, .inl (cy 0, 16, .inl zI))] H := hP
  have hD : va_D A [(a0, .inr (9, [v0_0, v0_1, v0_2, v0_3, v0_4, v0_5, v0_6, v0_7, v0_8, v0_9, v0_10, v0_11, v0_12, v0_13, v0_14, v0_15, v0_16, v0_17, v0_18, v0_19, v0_20, v0_21, v0_22, v0_23, v0_24, v0_25, v0_26, v0_27, v0_28, v0_29, v0_30, v0_31, v0_32, v0_33, v0_34, v0_35, v0_36, .ref a1, .ref a2, v0_39, v0_40, v0_41, v0_42, v0_43, v0_44, v0_45, v0_46, v0_47, v0_48, v0_49, v0_50, v0_51, v0_52, v0_53, v0_54, v0_55, v0_56, v0_57, v0_58, v0_59, v0_60, v0_61, v0_62, v0_63])), (a1, .inl (cy 0, 16, .inl zI)), (a2, .inl (cy 0, 16, .inl zI))] := hD
  refine lv_iinc (v := 9) (lv' := [(1, .int 9), (0, .ref a0)]) hx hb dX9_keepNow_20 hl (k := 0) rfl (by decide) (by decide) rfl (fun ls hl => ?_)
  refine lv_goto (tgt := 2) hx hb dX9_keepNow_23 (by decide) ?_
  refine lv_iload_n hx hb dX9_keepNow_2 rfl (lv_at hl 0 rfl) ?_
  refine lv_bipush (v := 16) hx hb dX9_keepNow_3 (by decide) ?_
  refine lv_icmp_ge (tgt := 26) hx hb dX9_keepNow_5 (by decide) (fun c => absurd c (by decide)) (fun _ => ?_)
  refine lv_aload_n hx hb dX9_keepNow_8 rfl (lv_at hl 1 rfl) ?_
  refine va_get (D := D) (cl := vwCl) (ci := 9) (v := .ref a2) (C := RX9) (T := TX9) (N := 64) hx hb hts in_X9_keepNow_X9 hown hK hP 0 rfl rfl 38 (by decide) (hts (.fieldLink RX9 79 "EightReasonsModel" "kept" "[I") (List.mem_of_getElem? (i := 1) (by decide +kernel))) (fun _ h9 => h9) rfl dX9_keepNow_9 ?_
  refine lv_iload_n hx hb dX9_keepNow_12 rfl (lv_at hl 0 rfl) ?_
  refine lv_aload_n hx hb dX9_keepNow_13 rfl (lv_at hl 1 rfl) ?_
  refine va_get (D := D) (cl := vwCl) (ci := 9) (v := .ref a1) (C := RX9) (T := TX9) (N := 64) hx hb hts in_X9_keepNow_X9 hown hK hP 0 rfl rfl 37 (by decide) (hts (.fieldLink RX9 76 "EightReasonsModel" "all" "[I") (List.mem_of_getElem? (i := 2) (by decide +kernel))) (fun _ h9 => h9) rfl dX9_keepNow_14 ?_
  refine lv_iload_n hx hb dX9_keepNow_17 rfl (lv_at hl 0 rfl) ?_
  refine va_iald hx hb hK hP 1 0 rfl rfl (vin (by decide)) dX9_keepNow_18 (tpi (v := 0) rfl ?_)
  refine va_iast hx hb hK hP hD hS 2 0 rfl rfl (vin (by decide)) dX9_keepNow_19 (fun H locs hP hD hS => ?_)
  rw [zI_upd] at hP hD
  have hP : va_P D vwCl [(a0, .inr (9, [v0_0, v0_1, v0_2, v0_3, v0_4, v0_5, v0_6, v0_7, v0_8, v0_9, v0_10, v0_11, v0_12, v0_13, v0_14, v0_15, v0_16, v0_17, v0_18, v0_19, v0_20, v0_21, v0_22, v0_23, v0_24, v0_25, v0_26, v0_27, v0_28, v0_29, v0_30, v0_31, v0_32, v0_33, v0_34, v0_35, v0_36, .ref a1, .ref a2, v0_39, v0_40, v0_41, v0_42, v0_43, v0_44, v0_45, v0_46, v0_47, v0_48, v0_49, v0_50, v0_51, v0_52, v0_53, v0_54, v0_55, v0_56, v0_57, v0_58, v0_59, v0_60, v0_61, v0_62, v0_63])), (a1, .inl (cy 0, 16, .inl zI)), (a2, .inl (cy 0, 16, .inl zI))] H := hP
  have hD : va_D A [(a0, .inr (9, [v0_0, v0_1, v0_2, v0_3, v0_4, v0_5, v0_6, v0_7, v0_8, v0_9, v0_10, v0_11, v0_12, v0_13, v0_14, v0_15, v0_16, v0_17, v0_18, v0_19, v0_20, v0_21, v0_22, v0_23, v0_24, v0_25, v0_26, v0_27, v0_28, v0_29, v0_30, v0_31, v0_32, v0_33, v0_34, v0_35, v0_36, .ref a1, .ref a2, v0_39, v0_40, v0_41, v0_42, v0_43, v0_44, v0_45, v0_46, v0_47, v0_48, v0_49, v0_50, v0_51, v0_52, v0_53, v0_54, v0_55, v0_56, v0_57, v0_58, v0_59, v0_60, v0_61, v0_62, v0_63])), (a1, .inl (cy 0, 16, .inl zI)), (a2, .inl (cy 0, 16, .inl zI))] := hD
  refine lv_iinc (v := 10) (lv' := [(1, .int 10), (0, .ref a0)]) hx hb dX9_keepNow_20 hl (k := 0) rfl (by decide) (by decide) rfl (fun ls hl => ?_)
  refine lv_goto (tgt := 2) hx hb dX9_keepNow_23 (by decide) ?_
  refine lv_iload_n hx hb dX9_keepNow_2 rfl (lv_at hl 0 rfl) ?_
  refine lv_bipush (v := 16) hx hb dX9_keepNow_3 (by decide) ?_
  refine lv_icmp_ge (tgt := 26) hx hb dX9_keepNow_5 (by decide) (fun c => absurd c (by decide)) (fun _ => ?_)
  refine lv_aload_n hx hb dX9_keepNow_8 rfl (lv_at hl 1 rfl) ?_
  refine va_get (D := D) (cl := vwCl) (ci := 9) (v := .ref a2) (C := RX9) (T := TX9) (N := 64) hx hb hts in_X9_keepNow_X9 hown hK hP 0 rfl rfl 38 (by decide) (hts (.fieldLink RX9 79 "EightReasonsModel" "kept" "[I") (List.mem_of_getElem? (i := 1) (by decide +kernel))) (fun _ h9 => h9) rfl dX9_keepNow_9 ?_
  refine lv_iload_n hx hb dX9_keepNow_12 rfl (lv_at hl 0 rfl) ?_
  refine lv_aload_n hx hb dX9_keepNow_13 rfl (lv_at hl 1 rfl) ?_
  refine va_get (D := D) (cl := vwCl) (ci := 9) (v := .ref a1) (C := RX9) (T := TX9) (N := 64) hx hb hts in_X9_keepNow_X9 hown hK hP 0 rfl rfl 37 (by decide) (hts (.fieldLink RX9 76 "EightReasonsModel" "all" "[I") (List.mem_of_getElem? (i := 2) (by decide +kernel))) (fun _ h9 => h9) rfl dX9_keepNow_14 ?_
  refine lv_iload_n hx hb dX9_keepNow_17 rfl (lv_at hl 0 rfl) ?_
  refine va_iald hx hb hK hP 1 0 rfl rfl (vin (by decide)) dX9_keepNow_18 (tpi (v := 0) rfl ?_)
  refine va_iast hx hb hK hP hD hS 2 0 rfl rfl (vin (by decide)) dX9_keepNow_19 (fun H locs hP hD hS => ?_)
  rw [zI_upd] at hP hD
  have hP : va_P D vwCl [(a0, .inr (9, [v0_0, v0_1, v0_2, v0_3, v0_4, v0_5, v0_6, v0_7, v0_8, v0_9, v0_10, v0_11, v0_12, v0_13, v0_14, v0_15, v0_16, v0_17, v0_18, v0_19, v0_20, v0_21, v0_22, v0_23, v0_24, v0_25, v0_26, v0_27, v0_28, v0_29, v0_30, v0_31, v0_32, v0_33, v0_34, v0_35, v0_36, .ref a1, .ref a2, v0_39, v0_40, v0_41, v0_42, v0_43, v0_44, v0_45, v0_46, v0_47, v0_48, v0_49, v0_50, v0_51, v0_52, v0_53, v0_54, v0_55, v0_56, v0_57, v0_58, v0_59, v0_60, v0_61, v0_62, v0_63])), (a1, .inl (cy 0, 16, .inl zI)), (a2, .inl (cy 0, 16, .inl zI))] H := hP
  have hD : va_D A [(a0, .inr (9, [v0_0, v0_1, v0_2, v0_3, v0_4, v0_5, v0_6, v0_7, v0_8, v0_9, v0_10, v0_11, v0_12, v0_13, v0_14, v0_15, v0_16, v0_17, v0_18, v0_19, v0_20, v0_21, v0_22, v0_23, v0_24, v0_25, v0_26, v0_27, v0_28, v0_29, v0_30, v0_31, v0_32, v0_33, v0_34, v0_35, v0_36, .ref a1, .ref a2, v0_39, v0_40, v0_41, v0_42, v0_43, v0_44, v0_45, v0_46, v0_47, v0_48, v0_49, v0_50, v0_51, v0_52, v0_53, v0_54, v0_55, v0_56, v0_57, v0_58, v0_59, v0_60, v0_61, v0_62, v0_63])), (a1, .inl (cy 0, 16, .inl zI)), (a2, .inl (cy 0, 16, .inl zI))] := hD
  refine lv_iinc (v := 11) (lv' := [(1, .int 11), (0, .ref a0)]) hx hb dX9_keepNow_20 hl (k := 0) rfl (by decide) (by decide) rfl (fun ls hl => ?_)
  refine lv_goto (tgt := 2) hx hb dX9_keepNow_23 (by decide) ?_
  refine lv_iload_n hx hb dX9_keepNow_2 rfl (lv_at hl 0 rfl) ?_
  refine lv_bipush (v := 16) hx hb dX9_keepNow_3 (by decide) ?_
  refine lv_icmp_ge (tgt := 26) hx hb dX9_keepNow_5 (by decide) (fun c => absurd c (by decide)) (fun _ => ?_)
  refine lv_aload_n hx hb dX9_keepNow_8 rfl (lv_at hl 1 rfl) ?_
  refine va_get (D := D) (cl := vwCl) (ci := 9) (v := .ref a2) (C := RX9) (T := TX9) (N := 64) hx hb hts in_X9_keepNow_X9 hown hK hP 0 rfl rfl 38 (by decide) (hts (.fieldLink RX9 79 "EightReasonsModel" "kept" "[I") (List.mem_of_getElem? (i := 1) (by decide +kernel))) (fun _ h9 => h9) rfl dX9_keepNow_9 ?_
  refine lv_iload_n hx hb dX9_keepNow_12 rfl (lv_at hl 0 rfl) ?_
  refine lv_aload_n hx hb dX9_keepNow_13 rfl (lv_at hl 1 rfl) ?_
  refine va_get (D := D) (cl := vwCl) (ci := 9) (v := .ref a1) (C := RX9) (T := TX9) (N := 64) hx hb hts in_X9_keepNow_X9 hown hK hP 0 rfl rfl 37 (by decide) (hts (.fieldLink RX9 76 "EightReasonsModel" "all" "[I") (List.mem_of_getElem? (i := 2) (by decide +kernel))) (fun _ h9 => h9) rfl dX9_keepNow_14 ?_
  refine lv_iload_n hx hb dX9_keepNow_17 rfl (lv_at hl 0 rfl) ?_
  refine va_iald hx hb hK hP 1 0 rfl rfl (vin (by decide)) dX9_keepNow_18 (tpi (v := 0) rfl ?_)
  refine va_iast hx hb hK hP hD hS 2 0 rfl rfl (vin (by decide)) dX9_keepNow_19 (fun H locs hP hD hS => ?_)
  rw [zI_upd] at hP hD
  have hP : va_P D vwCl [(a0, .inr (9, [v0_0, v0_1, v0_2, v0_3, v0_4, v0_5, v0_6, v0_7, v0_8, v0_9, v0_10, v0_11, v0_12, v0_13, v0_14, v0_15, v0_16, v0_17, v0_18, v0_19, v0_20, v0_21, v0_22, v0_23, v0_24, v0_25, v0_26, v0_27, v0_28, v0_29, v0_30, v0_31, v0_32, v0_33, v0_34, v0_35, v0_36, .ref a1, .ref a2, v0_39, v0_40, v0_41, v0_42, v0_43, v0_44, v0_45, v0_46, v0_47, v0_48, v0_49, v0_50, v0_51, v0_52, v0_53, v0_54, v0_55, v0_56, v0_57, v0_58, v0_59, v0_60, v0_61, v0_62, v0_63])), (a1, .inl (cy 0, 16, .inl zI)), (a2, .inl (cy 0, 16, .inl zI))] H := hP
  have hD : va_D A [(a0, .inr (9, [v0_0, v0_1, v0_2, v0_3, v0_4, v0_5, v0_6, v0_7, v0_8, v0_9, v0_10, v0_11, v0_12, v0_13, v0_14, v0_15, v0_16, v0_17, v0_18, v0_19, v0_20, v0_21, v0_22, v0_23, v0_24, v0_25, v0_26, v0_27, v0_28, v0_29, v0_30, v0_31, v0_32, v0_33, v0_34, v0_35, v0_36, .ref a1, .ref a2, v0_39, v0_40, v0_41, v0_42, v0_43, v0_44, v0_45, v0_46, v0_47, v0_48, v0_49, v0_50, v0_51, v0_52, v0_53, v0_54, v0_55, v0_56, v0_57, v0_58, v0_59, v0_60, v0_61, v0_62, v0_63])), (a1, .inl (cy 0, 16, .inl zI)), (a2, .inl (cy 0, 16, .inl zI))] := hD
  refine lv_iinc (v := 12) (lv' := [(1, .int 12), (0, .ref a0)]) hx hb dX9_keepNow_20 hl (k := 0) rfl (by decide) (by decide) rfl (fun ls hl => ?_)
  refine lv_goto (tgt := 2) hx hb dX9_keepNow_23 (by decide) ?_
  refine lv_iload_n hx hb dX9_keepNow_2 rfl (lv_at hl 0 rfl) ?_
  refine lv_bipush (v := 16) hx hb dX9_keepNow_3 (by decide) ?_
  refine lv_icmp_ge (tgt := 26) hx hb dX9_keepNow_5 (by decide) (fun c => absurd c (by decide)) (fun _ => ?_)
  refine lv_aload_n hx hb dX9_keepNow_8 rfl (lv_at hl 1 rfl) ?_
  refine va_get (D := D) (cl := vwCl) (ci := 9) (v := .ref a2) (C := RX9) (T := TX9) (N := 64) hx hb hts in_X9_keepNow_X9 hown hK hP 0 rfl rfl 38 (by decide) (hts (.fieldLink RX9 79 "EightReasonsModel" "kept" "[I") (List.mem_of_getElem? (i := 1) (by decide +kernel))) (fun _ h9 => h9) rfl dX9_keepNow_9 ?_
  refine lv_iload_n hx hb dX9_keepNow_12 rfl (lv_at hl 0 rfl) ?_
  refine lv_aload_n hx hb dX9_keepNow_13 rfl (lv_at hl 1 rfl) ?_
  refine va_get (D := D) (cl := vwCl) (ci := 9) (v := .ref a1) (C := RX9) (T := TX9) (N := 64) hx hb hts in_X9_keepNow_X9 hown hK hP 0 rfl rfl 37 (by decide) (hts (.fieldLink RX9 76 "EightReasonsModel" "all" "[I") (List.mem_of_getElem? (i := 2) (by decide +kernel))) (fun _ h9 => h9) rfl dX9_keepNow_14 ?_
  refine lv_iload_n hx hb dX9_keepNow_17 rfl (lv_at hl 0 rfl) ?_
  refine va_iald hx hb hK hP 1 0 rfl rfl (vin (by decide)) dX9_keepNow_18 (tpi (v := 0) rfl ?_)
  refine va_iast hx hb hK hP hD hS 2 0 rfl rfl (vin (by decide)) dX9_keepNow_19 (fun H locs hP hD hS => ?_)
  rw [zI_upd] at hP hD
  have hP : va_P D vwCl [(a0, .inr (9, [v0_0, v0_1, v0_2, v0_3, v0_4, v0_5, v0_6, v0_7, v0_8, v0_9, v0_10, v0_11, v0_12, v0_13, v0_14, v0_15, v0_16, v0_17, v0_18, v0_19, v0_20, v0_21, v0_22, v0_23, v0_24, v0_25, v0_26, v0_27, v0_28, v0_29, v0_30, v0_31, v0_32, v0_33, v0_34, v0_35, v0_36, .ref a1, .ref a2, v0_39, v0_40, v0_41, v0_42, v0_43, v0_44, v0_45, v0_46, v0_47, v0_48, v0_49, v0_50, v0_51, v0_52, v0_53, v0_54, v0_55, v0_56, v0_57, v0_58, v0_59, v0_60, v0_61, v0_62, v0_63])), (a1, .inl (cy 0, 16, .inl zI)), (a2, .inl (cy 0, 16, .inl zI))] H := hP
  have hD : va_D A [(a0, .inr (9, [v0_0, v0_1, v0_2, v0_3, v0_4, v0_5, v0_6, v0_7, v0_8, v0_9, v0_10, v0_11, v0_12, v0_13, v0_14, v0_15, v0_16, v0_17, v0_18, v0_19, v0_20, v0_21, v0_22, v0_23, v0_24, v0_25, v0_26, v0_27, v0_28, v0_29, v0_30, v0_31, v0_32, v0_33, v0_34, v0_35, v0_36, .ref a1, .ref a2, v0_39, v0_40, v0_41, v0_42, v0_43, v0_44, v0_45, v0_46, v0_47, v0_48, v0_49, v0_50, v0_51, v0_52, v0_53, v0_54, v0_55, v0_56, v0_57, v0_58, v0_59, v0_60, v0_61, v0_62, v0_63])), (a1, .inl (cy 0, 16, .inl zI)), (a2, .inl (cy 0, 16, .inl zI))] := hD
  refine lv_iinc (v := 13) (lv' := [(1, .int 13), (0, .ref a0)]) hx hb dX9_keepNow_20 hl (k := 0) rfl (by decide) (by decide) rfl (fun ls hl => ?_)
  refine lv_goto (tgt := 2) hx hb dX9_keepNow_23 (by decide) ?_
  refine lv_iload_n hx hb dX9_keepNow_2 rfl (lv_at hl 0 rfl) ?_
  refine lv_bipush (v := 16) hx hb dX9_keepNow_3 (by decide) ?_
  refine lv_icmp_ge (tgt := 26) hx hb dX9_keepNow_5 (by decide) (fun c => absurd c (by decide)) (fun _ => ?_)
  refine lv_aload_n hx hb dX9_keepNow_8 rfl (lv_at hl 1 rfl) ?_
  refine va_get (D := D) (cl := vwCl) (ci := 9) (v := .ref a2) (C := RX9) (T := TX9) (N := 64) hx hb hts in_X9_keepNow_X9 hown hK hP 0 rfl rfl 38 (by decide) (hts (.fieldLink RX9 79 "EightReasonsModel" "kept" "[I") (List.mem_of_getElem? (i := 1) (by decide +kernel))) (fun _ h9 => h9) rfl dX9_keepNow_9 ?_
  refine lv_iload_n hx hb dX9_keepNow_12 rfl (lv_at hl 0 rfl) ?_
  refine lv_aload_n hx hb dX9_keepNow_13 rfl (lv_at hl 1 rfl) ?_
  refine va_get (D := D) (cl := vwCl) (ci := 9) (v := .ref a1) (C := RX9) (T := TX9) (N := 64) hx hb hts in_X9_keepNow_X9 hown hK hP 0 rfl rfl 37 (by decide) (hts (.fieldLink RX9 76 "EightReasonsModel" "all" "[I") (List.mem_of_getElem? (i := 2) (by decide +kernel))) (fun _ h9 => h9) rfl dX9_keepNow_14 ?_
  refine lv_iload_n hx hb dX9_keepNow_17 rfl (lv_at hl 0 rfl) ?_
  refine va_iald hx hb hK hP 1 0 rfl rfl (vin (by decide)) dX9_keepNow_18 (tpi (v := 0) rfl ?_)
  refine va_iast hx hb hK hP hD hS 2 0 rfl rfl (vin (by decide)) dX9_keepNow_19 (fun H locs hP hD hS => ?_)
  rw [zI_upd] at hP hD
  have hP : va_P D vwCl [(a0, .inr (9, [v0_0, v0_1, v0_2, v0_3, v0_4, v0_5, v0_6, v0_7, v0_8, v0_9, v0_10, v0_11, v0_12, v0_13, v0_14, v0_15, v0_16, v0_17, v0_18, v0_19, v0_20, v0_21, v0_22, v0_23, v0_24, v0_25, v0_26, v0_27, v0_28, v0_29, v0_30, v0_31, v0_32, v0_33, v0_34, v0_35, v0_36, .ref a1, .ref a2, v0_39, v0_40, v0_41, v0_42, v0_43, v0_44, v0_45, v0_46, v0_47, v0_48, v0_49, v0_50, v0_51, v0_52, v0_53, v0_54, v0_55, v0_56, v0_57, v0_58, v0_59, v0_60, v0_61, v0_62, v0_63])), (a1, .inl (cy 0, 16, .inl zI)), (a2, .inl (cy 0, 16, .inl zI))] H := hP
  have hD : va_D A [(a0, .inr (9, [v0_0, v0_1, v0_2, v0_3, v0_4, v0_5, v0_6, v0_7, v0_8, v0_9, v0_10, v0_11, v0_12, v0_13, v0_14, v0_15, v0_16, v0_17, v0_18, v0_19, v0_20, v0_21, v0_22, v0_23, v0_24, v0_25, v0_26, v0_27, v0_28, v0_29, v0_30, v0_31, v0_32, v0_33, v0_34, v0_35, v0_36, .ref a1, .ref a2, v0_39, v0_40, v0_41, v0_42, v0_43, v0_44, v0_45, v0_46, v0_47, v0_48, v0_49, v0_50, v0_51, v0_52, v0_53, v0_54, v0_55, v0_56, v0_57, v0_58, v0_59, v0_60, v0_61, v0_62, v0_63])), (a1, .inl (cy 0, 16, .inl zI)), (a2, .inl (cy 0, 16, .inl zI))] := hD
  refine lv_iinc (v := 14) (lv' := [(1, .int 14), (0, .ref a0)]) hx hb dX9_keepNow_20 hl (k := 0) rfl (by decide) (by decide) rfl (fun ls hl => ?_)
  refine lv_goto (tgt := 2) hx hb dX9_keepNow_23 (by decide) ?_
  refine lv_iload_n hx hb dX9_keepNow_2 rfl (lv_at hl 0 rfl) ?_
  refine lv_bipush (v := 16) hx hb dX9_keepNow_3 (by decide) ?_
  refine lv_icmp_ge (tgt := 26) hx hb dX9_keepNow_5 (by decide) (fun c => absurd c (by decide)) (fun _ => ?_)
  refine lv_aload_n hx hb dX9_keepNow_8 rfl (lv_at hl 1 rfl) ?_
  refine va_get (D := D) (cl := vwCl) (ci := 9) (v := .ref a2) (C := RX9) (T := TX9) (N := 64) hx hb hts in_X9_keepNow_X9 hown hK hP 0 rfl rfl 38 (by decide) (hts (.fieldLink RX9 79 "EightReasonsModel" "kept" "[I") (List.mem_of_getElem? (i := 1) (by decide +kernel))) (fun _ h9 => h9) rfl dX9_keepNow_9 ?_
  refine lv_iload_n hx hb dX9_keepNow_12 rfl (lv_at hl 0 rfl) ?_
  refine lv_aload_n hx hb dX9_keepNow_13 rfl (lv_at hl 1 rfl) ?_
  refine va_get (D := D) (cl := vwCl) (ci := 9) (v := .ref a1) (C := RX9) (T := TX9) (N := 64) hx hb hts in_X9_keepNow_X9 hown hK hP 0 rfl rfl 37 (by decide) (hts (.fieldLink RX9 76 "EightReasonsModel" "all" "[I") (List.mem_of_getElem? (i := 2) (by decide +kernel))) (fun _ h9 => h9) rfl dX9_keepNow_14 ?_
  refine lv_iload_n hx hb dX9_keepNow_17 rfl (lv_at hl 0 rfl) ?_
  refine va_iald hx hb hK hP 1 0 rfl rfl (vin (by decide)) dX9_keepNow_18 (tpi (v := 0) rfl ?_)
  refine va_iast hx hb hK hP hD hS 2 0 rfl rfl (vin (by decide)) dX9_keepNow_19 (fun H locs hP hD hS => ?_)
  rw [zI_upd] at hP hD
  have hP : va_P D vwCl [(a0, .inr (9, [v0_0, v0_1, v0_2, v0_3, v0_4, v0_5, v0_6, v0_7, v0_8, v0_9, v0_10, v0_11, v0_12, v0_13, v0_14, v0_15, v0_16, v0_17, v0_18, v0_19, v0_20, v0_21, v0_22, v0_23, v0_24, v0_25, v0_26, v0_27, v0_28, v0_29, v0_30, v0_31, v0_32, v0_33, v0_34, v0_35, v0_36, .ref a1, .ref a2, v0_39, v0_40, v0_41, v0_42, v0_43, v0_44, v0_45, v0_46, v0_47, v0_48, v0_49, v0_50, v0_51, v0_52, v0_53, v0_54, v0_55, v0_56, v0_57, v0_58, v0_59, v0_60, v0_61, v0_62, v0_63])), (a1, .inl (cy 0, 16, .inl zI)), (a2, .inl (cy 0, 16, .inl zI))] H := hP
  have hD : va_D A [(a0, .inr (9, [v0_0, v0_1, v0_2, v0_3, v0_4, v0_5, v0_6, v0_7, v0_8, v0_9, v0_10, v0_11, v0_12, v0_13, v0_14, v0_15, v0_16, v0_17, v0_18, v0_19, v0_20, v0_21, v0_22, v0_23, v0_24, v0_25, v0_26, v0_27, v0_28, v0_29, v0_30, v0_31, v0_32, v0_33, v0_34, v0_35, v0_36, .ref a1, .ref a2, v0_39, v0_40, v0_41, v0_42, v0_43, v0_44, v0_45, v0_46, v0_47, v0_48, v0_49, v0_50, v0_51, v0_52, v0_53, v0_54, v0_55, v0_56, v0_57, v0_58, v0_59, v0_60, v0_61, v0_62, v0_63])), (a1, .inl (cy 0, 16, .inl zI)), (a2, .inl (cy 0, 16, .inl zI))] := hD
  refine lv_iinc (v := 15) (lv' := [(1, .int 15), (0, .ref a0)]) hx hb dX9_keepNow_20 hl (k := 0) rfl (by decide) (by decide) rfl (fun ls hl => ?_)
  refine lv_goto (tgt := 2) hx hb dX9_keepNow_23 (by decide) ?_
  refine lv_iload_n hx hb dX9_keepNow_2 rfl (lv_at hl 0 rfl) ?_
  refine lv_bipush (v := 16) hx hb dX9_keepNow_3 (by decide) ?_
  refine lv_icmp_ge (tgt := 26) hx hb dX9_keepNow_5 (by decide) (fun c => absurd c (by decide)) (fun _ => ?_)
  refine lv_aload_n hx hb dX9_keepNow_8 rfl (lv_at hl 1 rfl) ?_
  refine va_get (D := D) (cl := vwCl) (ci := 9) (v := .ref a2) (C := RX9) (T := TX9) (N := 64) hx hb hts in_X9_keepNow_X9 hown hK hP 0 rfl rfl 38 (by decide) (hts (.fieldLink RX9 79 "EightReasonsModel" "kept" "[I") (List.mem_of_getElem? (i := 1) (by decide +kernel))) (fun _ h9 => h9) rfl dX9_keepNow_9 ?_
  refine lv_iload_n hx hb dX9_keepNow_12 rfl (lv_at hl 0 rfl) ?_
  refine lv_aload_n hx hb dX9_keepNow_13 rfl (lv_at hl 1 rfl) ?_
  refine va_get (D := D) (cl := vwCl) (ci := 9) (v := .ref a1) (C := RX9) (T := TX9) (N := 64) hx hb hts in_X9_keepNow_X9 hown hK hP 0 rfl rfl 37 (by decide) (hts (.fieldLink RX9 76 "EightReasonsModel" "all" "[I") (List.mem_of_getElem? (i := 2) (by decide +kernel))) (fun _ h9 => h9) rfl dX9_keepNow_14 ?_
  refine lv_iload_n hx hb dX9_keepNow_17 rfl (lv_at hl 0 rfl) ?_
  refine va_iald hx hb hK hP 1 0 rfl rfl (vin (by decide)) dX9_keepNow_18 (tpi (v := 0) rfl ?_)
  refine va_iast hx hb hK hP hD hS 2 0 rfl rfl (vin (by decide)) dX9_keepNow_19 (fun H locs hP hD hS => ?_)
  rw [zI_upd] at hP hD
  have hP : va_P D vwCl [(a0, .inr (9, [v0_0, v0_1, v0_2, v0_3, v0_4, v0_5, v0_6, v0_7, v0_8, v0_9, v0_10, v0_11, v0_12, v0_13, v0_14, v0_15, v0_16, v0_17, v0_18, v0_19, v0_20, v0_21, v0_22, v0_23, v0_24, v0_25, v0_26, v0_27, v0_28, v0_29, v0_30, v0_31, v0_32, v0_33, v0_34, v0_35, v0_36, .ref a1, .ref a2, v0_39, v0_40, v0_41, v0_42, v0_43, v0_44, v0_45, v0_46, v0_47, v0_48, v0_49, v0_50, v0_51, v0_52, v0_53, v0_54, v0_55, v0_56, v0_57, v0_58, v0_59, v0_60, v0_61, v0_62, v0_63])), (a1, .inl (cy 0, 16, .inl zI)), (a2, .inl (cy 0, 16, .inl zI))] H := hP
  have hD : va_D A [(a0, .inr (9, [v0_0, v0_1, v0_2, v0_3, v0_4, v0_5, v0_6, v0_7, v0_8, v0_9, v0_10, v0_11, v0_12, v0_13, v0_14, v0_15, v0_16, v0_17, v0_18, v0_19, v0_20, v0_21, v0_22, v0_23, v0_24, v0_25, v0_26, v0_27, v0_28, v0_29, v0_30, v0_31, v0_32, v0_33, v0_34, v0_35, v0_36, .ref a1, .ref a2, v0_39, v0_40, v0_41, v0_42, v0_43, v0_44, v0_45, v0_46, v0_47, v0_48, v0_49, v0_50, v0_51, v0_52, v0_53, v0_54, v0_55, v0_56, v0_57, v0_58, v0_59, v0_60, v0_61, v0_62, v0_63])), (a1, .inl (cy 0, 16, .inl zI)), (a2, .inl (cy 0, 16, .inl zI))] := hD
  refine lv_iinc (v := 16) (lv' := [(1, .int 16), (0, .ref a0)]) hx hb dX9_keepNow_20 hl (k := 0) rfl (by decide) (by decide) rfl (fun ls hl => ?_)
  refine lv_goto (tgt := 2) hx hb dX9_keepNow_23 (by decide) ?_
  refine lv_iload_n hx hb dX9_keepNow_2 rfl (lv_at hl 0 rfl) ?_
  refine lv_bipush (v := 16) hx hb dX9_keepNow_3 (by decide) ?_
  refine lv_icmp_ge (tgt := 26) hx hb dX9_keepNow_5 (by decide) (fun _ => ?_) (fun c => absurd (by decide) c)
  exact rtV hx hb hr hlk hP hD hS () [0, 1, 2] rfl rfl trivial dX9_keepNow_26
set_option maxHeartbeats 4000000 in
set_option maxRecDepth 100000 in
theorem k_X9_standNow_1 (l : Launch) (D : va_G) (cy : Nat → ClassId) (a0 a1 a2 a3 : Nat) (v0_0 : Value) (v0_1 : Value) (v0_2 : Value) (v0_3 : Value) (v0_4 : Value) (v0_5 : Value) (v0_6 : Value) (v0_7 : Value) (v0_8 : Value) (v0_9 : Value) (v0_10 : Value) (v0_13 : Value) (v0_14 : Value) (v0_15 : Value) (v0_16 : Value) (v0_17 : Value) (v0_18 : Value) (v0_19 : Value) (v0_20 : Value) (v0_21 : Value) (v0_22 : Value) (v0_23 : Value) (v0_24 : Value) (v0_25 : Value) (v0_26 : Value) (v0_27 : Value) (v0_28 : Value) (v0_30 : Value) (v0_31 : Value) (v0_32 : Value) (v0_33 : Value) (v0_34 : Value) (v0_35 : Value) (v0_36 : Value) (v0_38 : Value) (v0_39 : Value) (v0_40 : Value) (v0_41 : Value) (v0_42 : Value) (v0_43 : Value) (v0_44 : Value) (v0_45 : Value) (v0_46 : Value) (v0_47 : Value) (v0_48 : Value) (v0_49 : Value) (v0_50 : Value) (v0_51 : Value) (v0_52 : Value) (v0_53 : Value) (v0_54 : Value) (v0_55 : Value) (v0_56 : Value) (v0_57 : Value) (v0_58 : Value) (v0_59 : Value) (v0_60 : Value) (v0_61 : Value) (v0_62 : Value) (v0_63 : Value) (g1_ : Nat → Int32) (sz : Nat) (hf1_0 : g1_ 0 = 0) (hf1_1 : g1_ 1 = 0) : CtI l yX9_standNow wsX9_standNow 3 69 [.ref a0] D cy [(a0, .inr (9, [v0_0, v0_1, v0_2, v0_3, v0_4, v0_5, v0_6, v0_7, v0_8, v0_9, v0_10, .ref a3, .ref a2, v0_13, v0_14, v0_15, v0_16, v0_17, v0_18, v0_19, v0_20, v0_21, v0_22, v0_23, v0_24, v0_25, v0_26, v0_27, v0_28, .int 0, v0_30, v0_31, v0_32, v0_33, v0_34, v0_35, v0_36, .ref a1, v0_38, v0_39, v0_40, v0_41, v0_42, v0_43, v0_44, v0_45, v0_46, v0_47, v0_48, v0_49, v0_50, v0_51, v0_52, v0_53, v0_54, v0_55, v0_56, v0_57, v0_58, v0_59, v0_60, v0_61, v0_62, v0_63])), (a1, .inl (cy 0, 16, .inl g1_)), (a2, .inl (cy 0, 2, .inl zI)), (a3, .inl (cy 0, 2, .inl zI))] sz 0 0 (fun (r : Int32) (_ : Unit) => r = 0) (fun _ => [(a0, .inr (9, [v0_0, v0_1, v0_2, v0_3, v0_4, v0_5, v0_6, v0_7, v0_8, v0_9, v0_10, .ref a3, .ref a2, v0_13, v0_14, v0_15, v0_16, v0_17, v0_18, v0_19, v0_20, v0_21, v0_22, v0_23, v0_24, v0_25, v0_26, v0_27, v0_28, .int 0, v0_30, v0_31, v0_32, v0_33, v0_34, v0_35, .int 0, .ref a1, v0_38, v0_39, v0_40, v0_41, v0_42, v0_43, v0_44, v0_45, v0_46, v0_47, v0_48, v0_49, v0_50, v0_51, v0_52, v0_53, v0_54, v0_55, v0_56, v0_57, v0_58, v0_59, v0_60, v0_61, v0_62, v0_63])), (a1, .inl (cy 0, 16, .inl g1_)), (a2, .inl (cy 0, 2, .inl zI)), (a3, .inl (cy 0, 2, .inl zI))]) := by
  refine CtI.of (cc := cX9_standNow) (maxL := 1) (ty := .int) (own := RX9) (by decide) rfl (Nat.le_of_ble_eq_true rfl) rfl ?_
  intro p e s m below meth c A ls hx hb hr hml hts hown hlk hK hP hD hS hA hl
  have hl : lv_has ls 1 [(0, .ref a0)] := hl
  refine st0 (fun H locs hP hS => ?_) hP hS
  have hP : va_P D vwCl [(a0, .inr (9, [v0_0, v0_1, v0_2, v0_3, v0_4, v0_5, v0_6, v0_7, v0_8, v0_9, v0_10, .ref a3, .ref a2, v0_13, v0_14, v0_15, v0_16, v0_17, v0_18, v0_19, v0_20, v0_21, v0_22, v0_23, v0_24, v0_25, v0_26, v0_27, v0_28, .int 0, v0_30, v0_31, v0_32, v0_33, v0_34, v0_35, v0_36, .ref a1, v0_38, v0_39, v0_40, v0_41, v0_42, v0_43, v0_44, v0_45, v0_46, v0_47, v0_48, v0_49, v0_50, v0_51, v0_52, v0_53, v0_54, v0_55, v0_56, v0_57, v0_58, v0_59, v0_60, v0_61, v0_62, v0_63])), (a1, .inl (cy 0, 16, .inl g1_)), (a2, .inl (cy 0, 2, .inl zI)), (a3, .inl (cy 0, 2, .inl zI))] H := hP
  have hD : va_D A [(a0, .inr (9, [v0_0, v0_1, v0_2, v0_3, v0_4, v0_5, v0_6, v0_7, v0_8, v0_9, v0_10, .ref a3, .ref a2, v0_13, v0_14, v0_15, v0_16, v0_17, v0_18, v0_19, v0_20, v0_21, v0_22, v0_23, v0_24, v0_25, v0_26, v0_27, v0_28, .int 0, v0_30, v0_31, v0_32, v0_33, v0_34, v0_35, v0_36, .ref a1, v0_38, v0_39, v0_40, v0_41, v0_42, v0_43, v0_44, v0_45, v0_46, v0_47, v0_48, v0_49, v0_50, v0_51, v0_52, v0_53, v0_54, v0_55, v0_56, v0_57, v0_58, v0_59, v0_60, v0_61, v0_62, v0_63])), (a1, .inl (cy 0, 16, .inl g1_)), (a2, .inl (cy 0, 2, .inl zI)), (a3, .inl (cy 0, 2, .inl zI))] := hD
  refine lv_aload_n hx hb dX9_standNow_0 rfl (lv_at hl 0 rfl) ?_
  refine lv_aload_n hx hb dX9_standNow_1 rfl (lv_at hl 0 rfl) ?_
  refine va_get (D := D) (cl := vwCl) (ci := 9) (v := .ref a1) (C := RX9) (T := TX9) (N := 64) hx hb hts in_X9_standNow_X9 hown hK hP 0 rfl rfl 37 (by decide) (hts (.fieldLink RX9 76 "EightReasonsModel" "all" "[I") (List.mem_of_getElem? (i := 1) (by decide +kernel))) (fun _ h9 => h9) rfl dX9_standNow_2 ?_
  refine lv_iconst (v := 0) hx hb dX9_standNow_5 (by decide) ?_
  refine va_iald hx hb hK hP 1 0 rfl rfl (vin (by decide)) dX9_standNow_6 (tpi (v := 0) hf1_0 ?_)
  refine lv_aload_n hx hb dX9_standNow_7 rfl (lv_at hl 0 rfl) ?_
  refine va_get (D := D) (cl := vwCl) (ci := 9) (v := .ref a1) (C := RX9) (T := TX9) (N := 64) hx hb hts in_X9_standNow_X9 hown hK hP 0 rfl rfl 37 (by decide) (hts (.fieldLink RX9 76 "EightReasonsModel" "all" "[I") (List.mem_of_getElem? (i := 1) (by decide +kernel))) (fun _ h9 => h9) rfl dX9_standNow_8 ?_
  refine lv_iconst (v := 1) hx hb dX9_standNow_11 (by decide) ?_
  refine va_iald hx hb hK hP 1 0 rfl rfl (vin (by decide)) dX9_standNow_12 (tpi (v := 0) hf1_1 ?_)
  refine clVI (As := [.int 0, .int 0]) (rest := []) (wr := [(a1, .inl (cy 0, 16, .inl g1_))]) ⟨hx, hb, hml, hown, hts⟩ hK hP hD hS hA (k_X9_standBy_0 l D cy a0 a2 a3 (v0_0) (v0_1) (v0_2) (v0_3) (v0_4) (v0_5) (v0_6) (v0_7) (v0_8) (v0_9) (v0_10) (v0_13) (v0_14) (v0_15) (v0_16) (v0_17) (v0_18) (v0_19) (v0_20) (v0_21) (v0_22) (v0_23) (v0_24) (v0_25) (v0_26) (v0_27) (v0_28) (v0_30) (v0_31) (v0_32) (v0_33) (v0_34) (v0_35) (v0_36) (.ref a1) (v0_38) (v0_39) (v0_40) (v0_41) (v0_42) (v0_43) (v0_44) (v0_45) (v0_46) (v0_47) (v0_48) (v0_49) (v0_50) (v0_51) (v0_52) (v0_53) (v0_54) (v0_55) (v0_56) (v0_57) (v0_58) (v0_59) (v0_60) (v0_61) (v0_62) (v0_63) 0 _) (cwV 2 hts gX9_standNow_X9_standBy rfl rfl rfl (by decide +kernel) ⟨Nat.le_of_ble_eq_true rfl, Nat.le_of_ble_eq_true rfl⟩) 0 9 rfl rfl [0, 2, 3] [1] rfl rfl rfl rfl (by decide) rfl hl.1 rfl (Nat.le_of_ble_eq_true rfl) dX9_standNow_13 ⟨Nat.le_of_ble_eq_true rfl, Nat.le_of_ble_eq_true rfl⟩ rfl rfl (fun r _ H locs hw hP hD hS => ?_)
  have hP : va_P D vwCl [(a1, .inl (cy 0, 16, .inl g1_)), (a0, .inr (9, [v0_0, v0_1, v0_2, v0_3, v0_4, v0_5, v0_6, v0_7, v0_8, v0_9, v0_10, .ref a3, .ref a2, v0_13, v0_14, v0_15, v0_16, v0_17, v0_18, v0_19, v0_20, v0_21, v0_22, v0_23, v0_24, v0_25, v0_26, v0_27, v0_28, .int 0, v0_30, v0_31, v0_32, v0_33, v0_34, v0_35, .int 0, .ref a1, v0_38, v0_39, v0_40, v0_41, v0_42, v0_43, v0_44, v0_45, v0_46, v0_47, v0_48, v0_49, v0_50, v0_51, v0_52, v0_53, v0_54, v0_55, v0_56, v0_57, v0_58, v0_59, v0_60, v0_61, v0_62, v0_63])), (a2, .inl (cy 0, 2, .inl zI)), (a3, .inl (cy 0, 2, .inl zI))] H := hP
  have hD : va_D A [(a1, .inl (cy 0, 16, .inl g1_)), (a0, .inr (9, [v0_0, v0_1, v0_2, v0_3, v0_4, v0_5, v0_6, v0_7, v0_8, v0_9, v0_10, .ref a3, .ref a2, v0_13, v0_14, v0_15, v0_16, v0_17, v0_18, v0_19, v0_20, v0_21, v0_22, v0_23, v0_24, v0_25, v0_26, v0_27, v0_28, .int 0, v0_30, v0_31, v0_32, v0_33, v0_34, v0_35, .int 0, .ref a1, v0_38, v0_39, v0_40, v0_41, v0_42, v0_43, v0_44, v0_45, v0_46, v0_47, v0_48, v0_49, v0_50, v0_51, v0_52, v0_53, v0_54, v0_55, v0_56, v0_57, v0_58, v0_59, v0_60, v0_61, v0_62, v0_63])), (a2, .inl (cy 0, 2, .inl zI)), (a3, .inl (cy 0, 2, .inl zI))] := hD
  obtain rfl : r = 0 := hw
  exact rtI hx hb hr hlk rfl hP hD hS () [1, 0, 2, 3] rfl rfl rfl dX9_standNow_16
set_option maxHeartbeats 4000000 in
set_option maxRecDepth 100000 in
theorem k_X9_bringBack_0 (l : Launch) (D : va_G) (cy : Nat → ClassId) (a0 a1 a2 : Nat) (v0_0 : Value) (v0_1 : Value) (v0_2 : Value) (v0_3 : Value) (v0_4 : Value) (v0_5 : Value) (v0_6 : Value) (v0_7 : Value) (v0_8 : Value) (v0_9 : Value) (v0_10 : Value) (v0_11 : Value) (v0_12 : Value) (v0_13 : Value) (v0_14 : Value) (v0_15 : Value) (v0_16 : Value) (v0_17 : Value) (v0_18 : Value) (v0_19 : Value) (v0_20 : Value) (v0_21 : Value) (v0_22 : Value) (v0_23 : Value) (v0_24 : Value) (v0_25 : Value) (v0_26 : Value) (v0_27 : Value) (v0_28 : Value) (v0_29 : Value) (v0_30 : Value) (v0_31 : Value) (v0_32 : Value) (v0_33 : Value) (v0_34 : Value) (v0_35 : Value) (v0_36 : Value) (v0_39 : Value) (v0_40 : Value) (v0_41 : Value) (v0_42 : Value) (v0_43 : Value) (v0_44 : Value) (v0_45 : Value) (v0_46 : Value) (v0_47 : Value) (v0_48 : Value) (v0_49 : Value) (v0_50 : Value) (v0_51 : Value) (v0_52 : Value) (v0_53 : Value) (v0_54 : Value) (v0_55 : Value) (v0_56 : Value) (v0_57 : Value) (v0_58 : Value) (v0_59 : Value) (v0_60 : Value) (v0_61 : Value) (v0_62 : Value) (v0_63 : Value) (g2_ : Nat → Int32) (sz : Nat) : CtV l yX9_bringBack wsX9_bringBack 0 0 [.ref a0] D cy [(a0, .inr (9, [v0_0, v0_1, v0_2, v0_3, v0_4, v0_5, v0_6, v0_7, v0_8, v0_9, v0_10, v0_11, v0_12, v0_13, v0_14, v0_15, v0_16, v0_17, v0_18, v0_19, v0_20, v0_21, v0_22, v0_23, v0_24, v0_25, v0_26, v0_27, v0_28, v0_29, v0_30, v0_31, v0_32, v0_33, v0_34, v0_35, v0_36, .ref a2, .ref a1, v0_39, v0_40, v0_41, v0_42, v0_43, v0_44, v0_45, v0_46, v0_47, v0_48, v0_49, v0_50, v0_51, v0_52, v0_53, v0_54, v0_55, v0_56, v0_57, v0_58, v0_59, v0_60, v0_61, v0_62, v0_63])), (a1, .inl (cy 0, 16, .inl zI)), (a2, .inl (cy 0, 16, .inl g2_))] sz 0 0 (fun (_ : Nat → Nat → Int32) => True) (fun u => [(a0, .inr (9, [v0_0, v0_1, v0_2, v0_3, v0_4, v0_5, v0_6, v0_7, v0_8, v0_9, v0_10, v0_11, v0_12, v0_13, v0_14, v0_15, v0_16, v0_17, v0_18, v0_19, v0_20, v0_21, v0_22, v0_23, v0_24, v0_25, v0_26, v0_27, v0_28, v0_29, v0_30, v0_31, v0_32, v0_33, v0_34, v0_35, v0_36, .ref a2, .ref a1, v0_39, v0_40, v0_41, v0_42, v0_43, v0_44, v0_45, v0_46, v0_47, v0_48, v0_49, v0_50, v0_51, v0_52, v0_53, v0_54, v0_55, v0_56, v0_57, v0_58, v0_59, v0_60, v0_61, v0_62, v0_63])), (a1, .inl (cy 0, 16, .inl zI)), (a2, .inl (cy 0, 16, .inl (u 0)))]) := by
  refine CtV.of (cc := cX9_bringBack) (maxL := 2) (own := RX9) (by decide) rfl (Nat.le_of_ble_eq_true rfl) rfl ?_
  intro p e s m below meth c A ls hx hb hr hml hts hown hlk hK hP hD hS hA hl
  have hl : lv_has ls 2 [(0, .ref a0)] := hl
  refine st0 (fun H locs hP hS => ?_) hP hS
  have hP : va_P D vwCl [(a0, .inr (9, [v0_0, v0_1, v0_2, v0_3, v0_4, v0_5, v0_6, v0_7, v0_8, v0_9, v0_10, v0_11, v0_12, v0_13, v0_14, v0_15, v0_16, v0_17, v0_18, v0_19, v0_20, v0_21, v0_22, v0_23, v0_24, v0_25, v0_26, v0_27, v0_28, v0_29, v0_30, v0_31, v0_32, v0_33, v0_34, v0_35, v0_36, .ref a2, .ref a1, v0_39, v0_40, v0_41, v0_42, v0_43, v0_44, v0_45, v0_46, v0_47, v0_48, v0_49, v0_50, v0_51, v0_52, v0_53, v0_54, v0_55, v0_56, v0_57, v0_58, v0_59, v0_60, v0_61, v0_62, v0_63])), (a1, .inl (cy 0, 16, .inl zI)), (a2, .inl (cy 0, 16, .inl g2_))] H := hP
  have hD : va_D A [(a0, .inr (9, [v0_0, v0_1, v0_2, v0_3, v0_4, v0_5, v0_6, v0_7, v0_8, v0_9, v0_10, v0_11, v0_12, v0_13, v0_14, v0_15, v0_16, v0_17, v0_18, v0_19, v0_20, v0_21, v0_22, v0_23, v0_24, v0_25, v0_26, v0_27, v0_28, v0_29, v0_30, v0_31, v0_32, v0_33, v0_34, v0_35, v0_36, .ref a2, .ref a1, v0_39, v0_40, v0_41, v0_42, v0_43, v0_44, v0_45, v0_46, v0_47, v0_48, v0_49, v0_50, v0_51, v0_52, v0_53, v0_54, v0_55, v0_56, v0_57, v0_58, v0_59, v0_60, v0_61, v0_62, v0_63])), (a1, .inl (cy 0, 16, .inl zI)), (a2, .inl (cy 0, 16, .inl g2_))] := hD
  refine lv_iconst (v := 0) hx hb dX9_bringBack_0 (by decide) ?_
  refine lv_istore_n (lv' := [(1, .int 0), (0, .ref a0)]) hx hb dX9_bringBack_1 rfl hl (by decide) rfl (fun ls hl => ?_)
  refine lv_iload_n hx hb dX9_bringBack_2 rfl (lv_at hl 0 rfl) ?_
  refine lv_bipush (v := 16) hx hb dX9_bringBack_3 (by decide) ?_
  refine lv_icmp_ge (tgt := 26) hx hb dX9_bringBack_5 (by decide) (fun c => absurd c (by decide)) (fun _ => ?_)
  refine lv_aload_n hx hb dX9_bringBack_8 rfl (lv_at hl 1 rfl) ?_
  refine va_get (D := D) (cl := vwCl) (ci := 9) (v := .ref a2) (C := RX9) (T := TX9) (N := 64) hx hb hts in_X9_bringBack_X9 hown hK hP 0 rfl rfl 37 (by decide) (hts (.fieldLink RX9 76 "EightReasonsModel" "all" "[I") (List.mem_of_getElem? (i := 1) (by decide +kernel))) (fun _ h9 => h9) rfl dX9_bringBack_9 ?_
  refine lv_iload_n hx hb dX9_bringBack_12 rfl (lv_at hl 0 rfl) ?_
  refine lv_aload_n hx hb dX9_bringBack_13 rfl (lv_at hl 1 rfl) ?_
  refine va_get (D := D) (cl := vwCl) (ci := 9) (v := .ref a1) (C := RX9) (T := TX9) (N := 64) hx hb hts in_X9_bringBack_X9 hown hK hP 0 rfl rfl 38 (by decide) (hts (.fieldLink RX9 79 "EightReasonsModel" "kept" "[I") (List.mem_of_getElem? (i := 2) (by decide +kernel))) (fun _ h9 => h9) rfl dX9_bringBack_14 ?_
  refine lv_iload_n hx hb dX9_bringBack_17 rfl (lv_at hl 0 rfl) ?_
  refine va_iald hx hb hK hP 1 0 rfl rfl (vin (by decide)) dX9_bringBack_18 (tpi (v := 0) rfl ?_)
  refine va_iast hx hb hK hP hD hS 2 0 rfl rfl (vin (by decide)) dX9_bringBack_19 (fun H locs hP hD hS => ?_)
  generalize hhg1 : upd g2_ (Int32.toNatClampNeg 0) 0 = g1 at hP hD
  have fg1_0 : g1 0 = 0 := by rw [← hhg1]; exact pk_us
  have hP : va_P D vwCl [(a0, .inr (9, [v0_0, v0_1, v0_2, v0_3, v0_4, v0_5, v0_6, v0_7, v0_8, v0_9, v0_10, v0_11, v0_12, v0_13, v0_14, v0_15, v0_16, v0_17, v0_18, v0_19, v0_20, v0_21, v0_22, v0_23, v0_24, v0_25, v0_26, v0_27, v0_28, v0_29, v0_30, v0_31, v0_32, v0_33, v0_34, v0_35, v0_36, .ref a2, .ref a1, v0_39, v0_40, v0_41, v0_42, v0_43, v0_44, v0_45, v0_46, v0_47, v0_48, v0_49, v0_50, v0_51, v0_52, v0_53, v0_54, v0_55, v0_56, v0_57, v0_58, v0_59, v0_60, v0_61, v0_62, v0_63])), (a1, .inl (cy 0, 16, .inl zI)), (a2, .inl (cy 0, 16, .inl g1))] H := hP
  have hD : va_D A [(a0, .inr (9, [v0_0, v0_1, v0_2, v0_3, v0_4, v0_5, v0_6, v0_7, v0_8, v0_9, v0_10, v0_11, v0_12, v0_13, v0_14, v0_15, v0_16, v0_17, v0_18, v0_19, v0_20, v0_21, v0_22, v0_23, v0_24, v0_25, v0_26, v0_27, v0_28, v0_29, v0_30, v0_31, v0_32, v0_33, v0_34, v0_35, v0_36, .ref a2, .ref a1, v0_39, v0_40, v0_41, v0_42, v0_43, v0_44, v0_45, v0_46, v0_47, v0_48, v0_49, v0_50, v0_51, v0_52, v0_53, v0_54, v0_55, v0_56, v0_57, v0_58, v0_59, v0_60, v0_61, v0_62, v0_63])), (a1, .inl (cy 0, 16, .inl zI)), (a2, .inl (cy 0, 16, .inl g1))] := hD
  refine lv_iinc (v := 1) (lv' := [(1, .int 1), (0, .ref a0)]) hx hb dX9_bringBack_20 hl (k := 0) rfl (by decide) (by decide) rfl (fun ls hl => ?_)
  refine lv_goto (tgt := 2) hx hb dX9_bringBack_23 (by decide) ?_
  refine lv_iload_n hx hb dX9_bringBack_2 rfl (lv_at hl 0 rfl) ?_
  refine lv_bipush (v := 16) hx hb dX9_bringBack_3 (by decide) ?_
  refine lv_icmp_ge (tgt := 26) hx hb dX9_bringBack_5 (by decide) (fun c => absurd c (by decide)) (fun _ => ?_)
  refine lv_aload_n hx hb dX9_bringBack_8 rfl (lv_at hl 1 rfl) ?_
  refine va_get (D := D) (cl := vwCl) (ci := 9) (v := .ref a2) (C := RX9) (T := TX9) (N := 64) hx hb hts in_X9_bringBack_X9 hown hK hP 0 rfl rfl 37 (by decide) (hts (.fieldLink RX9 76 "EightReasonsModel" "all" "[I") (List.mem_of_getElem? (i := 1) (by decide +kernel))) (fun _ h9 => h9) rfl dX9_bringBack_9 ?_
  refine lv_iload_n hx hb dX9_bringBack_12 rfl (lv_at hl 0 rfl) ?_
  refine lv_aload_n hx hb dX9_bringBack_13 rfl (lv_at hl 1 rfl) ?_
  refine va_get (D := D) (cl := vwCl) (ci := 9) (v := .ref a1) (C := RX9) (T := TX9) (N := 64) hx hb hts in_X9_bringBack_X9 hown hK hP 0 rfl rfl 38 (by decide) (hts (.fieldLink RX9 79 "EightReasonsModel" "kept" "[I") (List.mem_of_getElem? (i := 2) (by decide +kernel))) (fun _ h9 => h9) rfl dX9_bringBack_14 ?_
  refine lv_iload_n hx hb dX9_bringBack_17 rfl (lv_at hl 0 rfl) ?_
  refine va_iald hx hb hK hP 1 0 rfl rfl (vin (by decide)) dX9_bringBack_18 (tpi (v := 0) rfl ?_)
  refine va_iast hx hb hK hP hD hS 2 0 rfl rfl (vin (by decide)) dX9_bringBack_19 (fun H locs hP hD hS => ?_)
  generalize hhg2 : upd g1 (Int32.toNatClampNeg 1) 0 = g2 at hP hD
  have fg2_0 : g2 0 = 0 := by rw [← hhg2]; exact (pk_un (by decide)).trans fg1_0
  have fg2_1 : g2 1 = 0 := by rw [← hhg2]; exact pk_us
  have hP : va_P D vwCl [(a0, .inr (9, [v0_0, v0_1, v0_2, v0_3, v0_4, v0_5, v0_6, v0_7, v0_8, v0_9, v0_10, v0_11, v0_12, v0_13, v0_14, v0_15, v0_16, v0_17, v0_18, v0_19, v0_20, v0_21, v0_22, v0_23, v0_24, v0_25, v0_26, v0_27, v0_28, v0_29, v0_30, v0_31, v0_32, v0_33, v0_34, v0_35, v0_36, .ref a2, .ref a1, v0_39, v0_40, v0_41, v0_42, v0_43, v0_44, v0_45, v0_46, v0_47, v0_48, v0_49, v0_50, v0_51, v0_52, v0_53, v0_54, v0_55, v0_56, v0_57, v0_58, v0_59, v0_60, v0_61, v0_62, v0_63])), (a1, .inl (cy 0, 16, .inl zI)), (a2, .inl (cy 0, 16, .inl g2))] H := hP
  have hD : va_D A [(a0, .inr (9, [v0_0, v0_1, v0_2, v0_3, v0_4, v0_5, v0_6, v0_7, v0_8, v0_9, v0_10, v0_11, v0_12, v0_13, v0_14, v0_15, v0_16, v0_17, v0_18, v0_19, v0_20, v0_21, v0_22, v0_23, v0_24, v0_25, v0_26, v0_27, v0_28, v0_29, v0_30, v0_31, v0_32, v0_33, v0_34, v0_35, v0_36, .ref a2, .ref a1, v0_39, v0_40, v0_41, v0_42, v0_43, v0_44, v0_45, v0_46, v0_47, v0_48, v0_49, v0_50, v0_51, v0_52, v0_53, v0_54, v0_55, v0_56, v0_57, v0_58, v0_59, v0_60, v0_61, v0_62, v0_63])), (a1, .inl (cy 0, 16, .inl zI)), (a2, .inl (cy 0, 16, .inl g2))] := hD
  refine lv_iinc (v := 2) (lv' := [(1, .int 2), (0, .ref a0)]) hx hb dX9_bringBack_20 hl (k := 0) rfl (by decide) (by decide) rfl (fun ls hl => ?_)
  refine lv_goto (tgt := 2) hx hb dX9_bringBack_23 (by decide) ?_
  refine lv_iload_n hx hb dX9_bringBack_2 rfl (lv_at hl 0 rfl) ?_
  refine lv_bipush (v := 16) hx hb dX9_bringBack_3 (by decide) ?_
  refine lv_icmp_ge (tgt := 26) hx hb dX9_bringBack_5 (by decide) (fun c => absurd c (by decide)) (fun _ => ?_)
  refine lv_aload_n hx hb dX9_bringBack_8 rfl (lv_at hl 1 rfl) ?_
  refine va_get (D := D) (cl := vwCl) (ci := 9) (v := .ref a2) (C := RX9) (T := TX9) (N := 64) hx hb hts in_X9_bringBack_X9 hown hK hP 0 rfl rfl 37 (by decide) (hts (.fieldLink RX9 76 "EightReasonsModel" "all" "[I") (List.mem_of_getElem? (i := 1) (by decide +kernel))) (fun _ h9 => h9) rfl dX9_bringBack_9 ?_
  refine lv_iload_n hx hb dX9_bringBack_12 rfl (lv_at hl 0 rfl) ?_
  refine lv_aload_n hx hb dX9_bringBack_13 rfl (lv_at hl 1 rfl) ?_
  refine va_get (D := D) (cl := vwCl) (ci := 9) (v := .ref a1) (C := RX9) (T := TX9) (N := 64) hx hb hts in_X9_bringBack_X9 hown hK hP 0 rfl rfl 38 (by decide) (hts (.fieldLink RX9 79 "EightReasonsModel" "kept" "[I") (List.mem_of_getElem? (i := 2) (by decide +kernel))) (fun _ h9 => h9) rfl dX9_bringBack_14 ?_
  refine lv_iload_n hx hb dX9_bringBack_17 rfl (lv_at hl 0 rfl) ?_
  refine va_iald hx hb hK hP 1 0 rfl rfl (vin (by decide)) dX9_bringBack_18 (tpi (v := 0) rfl ?_)
  refine va_iast hx hb hK hP hD hS 2 0 rfl rfl (vin (by decide)) dX9_bringBack_19 (fun H locs hP hD hS => ?_)
  generalize hhg3 : upd g2 (Int32.toNatClampNeg 2) 0 = g3 at hP hD
  have fg3_0 : g3 0 = 0 := by rw [← hhg3]; exact (pk_un (by decide)).trans fg2_0
  have fg3_1 : g3 1 = 0 := by rw [← hhg3]; exact (pk_un (by decide)).trans fg2_1
  have fg3_2 : g3 2 = 0 := by rw [← hhg3]; exact pk_us
  have hP : va_P D vwCl [(a0, .inr (9, [v0_0, v0_1, v0_2, v0_3, v0_4, v0_5, v0_6, v0_7, v0_8, v0_9, v0_10, v0_11, v0_12, v0_13, v0_14, v0_15, v0_16, v0_17, v0_18, v0_19, v0_20, v0_21, v0_22, v0_23, v0_24, v0_25, v0_26, v0_27, v0_28, v0_29, v0_30, v0_31, v0_32, v0_33, v0_34, v0_35, v0_36, .ref a2, .ref a1, v0_39, v0_40, v0_41, v0_42, v0_43, v0_44, v0_45, v0_46, v0_47, v0_48, v0_49, v0_50, v0_51, v0_52, v0_53, v0_54, v0_55, v0_56, v0_57, v0_58, v0_59, v0_60, v0_61, v0_62, v0_63])), (a1, .inl (cy 0, 16, .inl zI)), (a2, .inl (cy 0, 16, .inl g3))] H := hP
  have hD : va_D A [(a0, .inr (9, [v0_0, v0_1, v0_2, v0_3, v0_4, v0_5, v0_6, v0_7, v0_8, v0_9, v0_10, v0_11, v0_12, v0_13, v0_14, v0_15, v0_16, v0_17, v0_18, v0_19, v0_20, v0_21, v0_22, v0_23, v0_24, v0_25, v0_26, v0_27, v0_28, v0_29, v0_30, v0_31, v0_32, v0_33, v0_34, v0_35, v0_36, .ref a2, .ref a1, v0_39, v0_40, v0_41, v0_42, v0_43, v0_44, v0_45, v0_46, v0_47, v0_48, v0_49, v0_50, v0_51, v0_52, v0_53, v0_54, v0_55, v0_56, v0_57, v0_58, v0_59, v0_60, v0_61, v0_62, v0_63])), (a1, .inl (cy 0, 16, .inl zI)), (a2, .inl (cy 0, 16, .inl g3))] := hD
  refine lv_iinc (v := 3) (lv' := [(1, .int 3), (0, .ref a0)]) hx hb dX9_bringBack_20 hl (k := 0) rfl (by decide) (by decide) rfl (fun ls hl => ?_)
  refine lv_goto (tgt := 2) hx hb dX9_bringBack_23 (by decide) ?_
  refine lv_iload_n hx hb dX9_bringBack_2 rfl (lv_at hl 0 rfl) ?_
  refine lv_bipush (v := 16) hx hb dX9_bringBack_3 (by decide) ?_
  refine lv_icmp_ge (tgt := 26) hx hb dX9_bringBack_5 (by decide) (fun c => absurd c (by decide)) (fun _ => ?_)
  refine lv_aload_n hx hb dX9_bringBack_8 rfl (lv_at hl 1 rfl) ?_
  refine va_get (D := D) (cl := vwCl) (ci := 9) (v := .ref a2) (C := RX9) (T := TX9) (N := 64) hx hb hts in_X9_bringBack_X9 hown hK hP 0 rfl rfl 37 (by decide) (hts (.fieldLink RX9 76 "EightReasonsModel" "all" "[I") (List.mem_of_getElem? (i := 1) (by decide +kernel))) (fun _ h9 => h9) rfl dX9_bringBack_9 ?_
  refine lv_iload_n hx hb dX9_bringBack_12 rfl (lv_at hl 0 rfl) ?_
  refine lv_aload_n hx hb dX9_bringBack_13 rfl (lv_at hl 1 rfl) ?_
  refine va_get (D := D) (cl := vwCl) (ci := 9) (v := .ref a1) (C := RX9) (T := TX9) (N := 64) hx hb hts in_X9_bringBack_X9 hown hK hP 0 rfl rfl 38 (by decide) (hts (.fieldLink RX9 79 "EightReasonsModel" "kept" "[I") (List.mem_of_getElem? (i := 2) (by decide +kernel))) (fun _ h9 => h9) rfl dX9_bringBack_14 ?_
  refine lv_iload_n hx hb dX9_bringBack_17 rfl (lv_at hl 0 rfl) ?_
  refine va_iald hx hb hK hP 1 0 rfl rfl (vin (by decide)) dX9_bringBack_18 (tpi (v := 0) rfl ?_)
  refine va_iast hx hb hK hP hD hS 2 0 rfl rfl (vin (by decide)) dX9_bringBack_19 (fun H locs hP hD hS => ?_)
  generalize hhg4 : upd g3 (Int32.toNatClampNeg 3) 0 = g4 at hP hD
  have fg4_0 : g4 0 = 0 := by rw [← hhg4]; exact (pk_un (by decide)).trans fg3_0
  have fg4_1 : g4 1 = 0 := by rw [← hhg4]; exact (pk_un (by decide)).trans fg3_1
  have fg4_2 : g4 2 = 0 := by rw [← hhg4]; exact (pk_un (by decide)).trans fg3_2
  have fg4_3 : g4 3 = 0 := by rw [← hhg4]; exact pk_us
  have hP : va_P D vwCl [(a0, .inr (9, [v0_0, v0_1, v0_2, v0_3, v0_4, v0_5, v0_6, v0_7, v0_8, v0_9, v0_10, v0_11, v0_12, v0_13, v0_14, v0_15, v0_16, v0_17, v0_18, v0_19, v0_20, v0_21, v0_22, v0_23, v0_24, v0_25, v0_26, v0_27, v0_28, v0_29, v0_30, v0_31, v0_32, v0_33, v0_34, v0_35, v0_36, .ref a2, .ref a1, v0_39, v0_40, v0_41, v0_42, v0_43, v0_44, v0_45, v0_46, v0_47, v0_48, v0_49, v0_50, v0_51, v0_52, v0_53, v0_54, v0_55, v0_56, v0_57, v0_58, v0_59, v0_60, v0_61, v0_62, v0_63])), (a1, .inl (cy 0, 16, .inl zI)), (a2, .inl (cy 0, 16, .inl g4))] H := hP
  have hD : va_D A [(a0, .inr (9, [v0_0, v0_1, v0_2, v0_3, v0_4, v0_5, v0_6, v0_7, v0_8, v0_9, v0_10, v0_11, v0_12, v0_13, v0_14, v0_15, v0_16, v0_17, v0_18, v0_19, v0_20, v0_21, v0_22, v0_23, v0_24, v0_25, v0_26, v0_27, v0_28, v0_29, v0_30, v0_31, v0_32, v0_33, v0_34, v0_35, v0_36, .ref a2, .ref a1, v0_39, v0_40, v0_41, v0_42, v0_43, v0_44, v0_45, v0_46, v0_47, v0_48, v0_49, v0_50, v0_51, v0_52, v0_53, v0_54, v0_55, v0_56, v0_57, v0_58, v0_59, v0_60, v0_61, v0_62, v0_63])), (a1, .inl (cy 0, 16, .inl zI)), (a2, .inl (cy 0, 16, .inl g4))] := hD
  refine lv_iinc (v := 4) (lv' := [(1, .int 4), (0, .ref a0)]) hx hb dX9_bringBack_20 hl (k := 0) rfl (by decide) (by decide) rfl (fun ls hl => ?_)
  refine lv_goto (tgt := 2) hx hb dX9_bringBack_23 (by decide) ?_
  refine lv_iload_n hx hb dX9_bringBack_2 rfl (lv_at hl 0 rfl) ?_
  refine lv_bipush (v := 16) hx hb dX9_bringBack_3 (by decide) ?_
  refine lv_icmp_ge (tgt := 26) hx hb dX9_bringBack_5 (by decide) (fun c => absurd c (by decide)) (fun _ => ?_)
  refine lv_aload_n hx hb dX9_bringBack_8 rfl (lv_at hl 1 rfl) ?_
  refine va_get (D := D) (cl := vwCl) (ci := 9) (v := .ref a2) (C := RX9) (T := TX9) (N := 64) hx hb hts in_X9_bringBack_X9 hown hK hP 0 rfl rfl 37 (by decide) (hts (.fieldLink RX9 76 "EightReasonsModel" "all" "[I") (List.mem_of_getElem? (i := 1) (by decide +kernel))) (fun _ h9 => h9) rfl dX9_bringBack_9 ?_
  refine lv_iload_n hx hb dX9_bringBack_12 rfl (lv_at hl 0 rfl) ?_
  refine lv_aload_n hx hb dX9_bringBack_13 rfl (lv_at hl 1 rfl) ?_
  refine va_get (D := D) (cl := vwCl) (ci := 9) (v := .ref a1) (C := RX9) (T := TX9) (N := 64) hx hb hts in_X9_bringBack_X9 hown hK hP 0 rfl rfl 38 (by decide) (hts (.fieldLink RX9 79 "EightReasonsModel" "kept" "[I") (List.mem_of_getElem? (i := 2) (by decide +kernel))) (fun _ h9 => h9) rfl dX9_bringBack_14 ?_
  refine lv_iload_n hx hb dX9_bringBack_17 rfl (lv_at hl 0 rfl) ?_
  refine va_iald hx hb hK hP 1 0 rfl rfl (vin (by decide)) dX9_bringBack_18 (tpi (v := 0) rfl ?_)
  refine va_iast hx hb hK hP hD hS 2 0 rfl rfl (vin (by decide)) dX9_bringBack_19 (fun H locs hP hD hS => ?_)
  generalize hhg5 : upd g4 (Int32.toNatClampNeg 4) 0 = g5 at hP hD
  have fg5_0 : g5 0 = 0 := by rw [← hhg5]; exact (pk_un (by decide)).trans fg4_0
  have fg5_1 : g5 1 = 0 := by rw [← hhg5]; exact (pk_un (by decide)).trans fg4_1
  have fg5_2 : g5 2 = 0 := by rw [← hhg5]; exact (pk_un (by decide)).trans fg4_2
  have fg5_3 : g5 3 = 0 := by rw [← hhg5]; exact (pk_un (by decide)).trans fg4_3
  have fg5_4 : g5 4 = 0 := by rw [← hhg5]; exact pk_us
  have hP : va_P D vwCl [(a0, .inr (9, [v0_0, v0_1, v0_2, v0_3, v0_4, v0_5, v0_6, v0_7, v0_8, v0_9, v0_10, v0_11, v0_12, v0_13, v0_14, v0_15, v0_16, v0_17, v0_18, v0_19, v0_20, v0_21, v0_22, v0_23, v0_24, v0_25, v0_26, v0_27, v0_28, v0_29, v0_30, v0_31, v0_32, v0_33, v0_34, v0_35, v0_36, .ref a2, .ref a1, v0_39, v0_40, v0_41, v0_42, v0_43, v0_44, v0_45, v0_46, v0_47, v0_48, v0_49, v0_50, v0_51, v0_52, v0_53, v0_54, v0_55, v0_56, v0_57, v0_58, v0_59, v0_60, v0_61, v0_62, v0_63])), (a1, .inl (cy 0, 16, .inl zI)), (a2, .inl (cy 0, 16, .inl g5))] H := hP
  have hD : va_D A [(a0, .inr (9, [v0_0, v0_1, v0_2, v0_3, v0_4, v0_5, v0_6, v0_7, v0_8, v0_9, v0_10, v0_11, v0_12, v0_13, v0_14, v0_15, v0_16, v0_17, v0_18, v0_19, v0_20, v0_21, v0_22, v0_23, v0_24, v0_25, v0_26, v0_27, v0_28, v0_29, v0_30, v0_31, v0_32, v0_33, v0_34, v0_35, v0_36, .ref a2, .ref a1, v0_39, v0_40, v0_41, v0_42, v0_43, v0_44, v0_45, v0_46, v0_47, v0_48, v0_49, v0_50, v0_51, v0_52, v0_53, v0_54, v0_55, v0_56, v0_57, v0_58, v0_59, v0_60, v0_61, v0_62, v0_63])), (a1, .inl (cy 0, 16, .inl zI)), (a2, .inl (cy 0, 16, .inl g5))] := hD
  refine lv_iinc (v := 5) (lv' := [(1, .int 5), (0, .ref a0)]) hx hb dX9_bringBack_20 hl (k := 0) rfl (by decide) (by decide) rfl (fun ls hl => ?_)
  refine lv_goto (tgt := 2) hx hb dX9_bringBack_23 (by decide) ?_
  refine lv_iload_n hx hb dX9_bringBack_2 rfl (lv_at hl 0 rfl) ?_
  refine lv_bipush (v := 16) hx hb dX9_bringBack_3 (by decide) ?_
  refine lv_icmp_ge (tgt := 26) hx hb dX9_bringBack_5 (by decide) (fun c => absurd c (by decide)) (fun _ => ?_)
  refine lv_aload_n hx hb dX9_bringBack_8 rfl (lv_at hl 1 rfl) ?_
  refine va_get (D := D) (cl := vwCl) (ci := 9) (v := .ref a2) (C := RX9) (T := TX9) (N := 64) hx hb hts in_X9_bringBack_X9 hown hK hP 0 rfl rfl 37 (by decide) (hts (.fieldLink RX9 76 "EightReasonsModel" "all" "[I") (List.mem_of_getElem? (i := 1) (by decide +kernel))) (fun _ h9 => h9) rfl dX9_bringBack_9 ?_
  refine lv_iload_n hx hb dX9_bringBack_12 rfl (lv_at hl 0 rfl) ?_
  refine lv_aload_n hx hb dX9_bringBack_13 rfl (lv_at hl 1 rfl) ?_
  refine va_get (D := D) (cl := vwCl) (ci := 9) (v := .ref a1) (C := RX9) (T := TX9) (N := 64) hx hb hts in_X9_bringBack_X9 hown hK hP 0 rfl rfl 38 (by decide) (hts (.fieldLink RX9 79 "EightReasonsModel" "kept" "[I") (List.mem_of_getElem? (i := 2) (by decide +kernel))) (fun _ h9 => h9) rfl dX9_bringBack_14 ?_
  refine lv_iload_n hx hb dX9_bringBack_17 rfl (lv_at hl 0 rfl) ?_
  refine va_iald hx hb hK hP 1 0 rfl rfl (vin (by decide)) dX9_bringBack_18 (tpi (v := 0) rfl ?_)
  refine va_iast hx hb hK hP hD hS 2 0 rfl rfl (vin (by decide)) dX9_bringBack_19 (fun H locs hP hD hS => ?_)
  generalize hhg6 : upd g5 (Int32.toNatClampNeg 5) 0 = g6 at hP hD
  have fg6_0 : g6 0 = 0 := by rw [← hhg6]; exact (pk_un (by decide)).trans fg5_0
  have fg6_1 : g6 1 = 0 := by rw [← hhg6]; exact (pk_un (by decide)).trans fg5_1
  have fg6_2 : g6 2 = 0 := by rw [← hhg6]; exact (pk_un (by decide)).trans fg5_2
  have fg6_3 : g6 3 = 0 := by rw [← hhg6]; exact (pk_un (by decide)).trans fg5_3
  have fg6_4 : g6 4 = 0 := by rw [← hhg6]; exact (pk_un (by decide)).trans fg5_4
  have fg6_5 : g6 5 = 0 := by rw [← hhg6]; exact pk_us
  have hP : va_P D vwCl [(a0, .inr (9, [v0_0, v0_1, v0_2, v0_3, v0_4, v0_5, v0_6, v0_7, v0_8, v0_9, v0_10, v0_11, v0_12, v0_13, v0_14, v0_15, v0_16, v0_17, v0_18, v0_19, v0_20, v0_21, v0_22, v0_23, v0_24, v0_25, v0_26, v0_27, v0_28, v0_29, v0_30, v0_31, v0_32, v0_33, v0_34, v0_35, v0_36, .ref a2, .ref a1, v0_39, v0_40, v0_41, v0_42, v0_43, v0_44, v0_45, v0_46, v0_47, v0_48, v0_49, v0_50, v0_51, v0_52, v0_53, v0_54, v0_55, v0_56, v0_57, v0_58, v0_59, v0_60, v0_61, v0_62, v0_63])), (a1, .inl (cy 0, 16, .inl zI)), (a2, .inl (cy 0, 16, .inl g6))] H := hP
  have hD : va_D A [(a0, .inr (9, [v0_0, v0_1, v0_2, v0_3, v0_4, v0_5, v0_6, v0_7, v0_8, v0_9, v0_10, v0_11, v0_12, v0_13, v0_14, v0_15, v0_16, v0_17, v0_18, v0_19, v0_20, v0_21, v0_22, v0_23, v0_24, v0_25, v0_26, v0_27, v0_28, v0_29, v0_30, v0_31, v0_32, v0_33, v0_34, v0_35, v0_36, .ref a2, .ref a1, v0_39, v0_40, v0_41, v0_42, v0_43, v0_44, v0_45, v0_46, v0_47, v0_48, v0_49, v0_50, v0_51, v0_52, v0_53, v0_54, v0_55, v0_56, v0_57, v0_58, v0_59, v0_60, v0_61, v0_62, v0_63])), (a1, .inl (cy 0, 16, .inl zI)), (a2, .inl (cy 0, 16, .inl g6))] := hD
  refine lv_iinc (v := 6) (lv' := [(1, .int 6), (0, .ref a0)]) hx hb dX9_bringBack_20 hl (k := 0) rfl (by decide) (by decide) rfl (fun ls hl => ?_)
  refine lv_goto (tgt := 2) hx hb dX9_bringBack_23 (by decide) ?_
  refine lv_iload_n hx hb dX9_bringBack_2 rfl (lv_at hl 0 rfl) ?_
  refine lv_bipush (v := 16) hx hb dX9_bringBack_3 (by decide) ?_
  refine lv_icmp_ge (tgt := 26) hx hb dX9_bringBack_5 (by decide) (fun c => absurd c (by decide)) (fun _ => ?_)
  refine lv_aload_n hx hb dX9_bringBack_8 rfl (lv_at hl 1 rfl) ?_
  refine va_get (D := D) (cl := vwCl) (ci := 9) (v := .ref a2) (C := RX9) (T := TX9) (N := 64) hx hb hts in_X9_bringBack_X9 hown hK hP 0 rfl rfl 37 (by decide) (hts (.fieldLink RX9 76 "EightReasonsModel" "all" "[I") (List.mem_of_getElem? (i := 1) (by decide +kernel))) (fun _ h9 => h9) rfl dX9_bringBack_9 ?_
  refine lv_iload_n hx hb dX9_bringBack_12 rfl (lv_at hl 0 rfl) ?_
  refine lv_aload_n hx hb dX9_bringBack_13 rfl (lv_at hl 1 rfl) ?_
  refine va_get (D := D) (cl := vwCl) (ci := 9) (v := .ref a1) (C := RX9) (T := TX9) (N := 64) hx hb hts in_X9_bringBack_X9 hown hK hP 0 rfl rfl 38 (by decide) (hts (.fieldLink RX9 79 "EightReasonsModel" "kept" "[I") (List.mem_of_getElem? (i := 2) (by decide +kernel))) (fun _ h9 => h9) rfl dX9_bringBack_14 ?_
  refine lv_iload_n hx hb dX9_bringBack_17 rfl (lv_at hl 0 rfl) ?_
  refine va_iald hx hb hK hP 1 0 rfl rfl (vin (by decide)) dX9_bringBack_18 (tpi (v := 0) rfl ?_)
  refine va_iast hx hb hK hP hD hS 2 0 rfl rfl (vin (by decide)) dX9_bringBack_19 (fun H locs hP hD hS => ?_)
  generalize hhg7 : upd g6 (Int32.toNatClampNeg 6) 0 = g7 at hP hD
  have fg7_0 : g7 0 = 0 := by rw [← hhg7]; exact (pk_un (by decide)).trans fg6_0
  have fg7_1 : g7 1 = 0 := by rw [← hhg7]; exact (pk_un (by decide)).trans fg6_1
  have fg7_2 : g7 2 = 0 := by rw [← hhg7]; exact (pk_un (by decide)).trans fg6_2
  have fg7_3 : g7 3 = 0 := by rw [← hhg7]; exact (pk_un (by decide)).trans fg6_3
  have fg7_4 : g7 4 = 0 := by rw [← hhg7]; exact (pk_un (by decide)).trans fg6_4
  have fg7_5 : g7 5 = 0 := by rw [← hhg7]; exact (pk_un (by decide)).trans fg6_5
  have fg7_6 : g7 6 = 0 := by rw [← hhg7]; exact pk_us
  have hP : va_P D vwCl [(a0, .inr (9, [v0_0, v0_1, v0_2, v0_3, v0_4, v0_5, v0_6, v0_7, v0_8, v0_9, v0_10, v0_11, v0_12, v0_13, v0_14, v0_15, v0_16, v0_17, v0_18, v0_19, v0_20, v0_21, v0_22, v0_23, v0_24, v0_25, v0_26, v0_27, v0_28, v0_29, v0_30, v0_31, v0_32, v0_33, v0_34, v0_35, v0_36, .ref a2, .ref a1, v0_39, v0_40, v0_41, v0_42, v0_43, v0_44, v0_45, v0_46, v0_47, v0_48, v0_49, v0_50, v0_51, v0_52, v0_53, v0_54, v0_55, v0_56, v0_57, v0_58, v0_59, v0_60, v0_61, v0_62, v0_63])), (a1, .inl (cy 0, 16, .inl zI)), (a2, .inl (cy 0, 16, .inl g7))] H := hP
  have hD : va_D A [(a0, .inr (9, [v0_0, v0_1, v0_2, v0_3, v0_4, v0_5, v0_6, v0_7, v0_8, v0_9, v0_10, v0_11, v0_12, v0_13, v0_14, v0_15, v0_16, v0_17, v0_18, v0_19, v0_20, v0_21, v0_22, v0_23, v0_24, v0_25, v0_26, v0_27, v0_28, v0_29, v0_30, v0_31, v0_32, v0_33, v0_34, v0_35, v0_36, .ref a2, .ref a1, v0_39, v0_40, v0_41, v0_42, v0_43, v0_44, v0_45, v0_46, v0_47, v0_48, v0_49, v0_50, v0_51, v0_52, v0_53, v0_54, v0_55, v0_56, v0_57, v0_58, v0_59, v0_60, v0_61, v0_62, v0_63])), (a1, .inl (cy 0, 16, .inl zI)), (a2, .inl (cy 0, 16, .inl g7))] := hD
  refine lv_iinc (v := 7) (lv' := [(1, .int 7), (0, .ref a0)]) hx hb dX9_bringBack_20 hl (k := 0) rfl (by decide) (by decide) rfl (fun ls hl => ?_)
  refine lv_goto (tgt := 2) hx hb dX9_bringBack_23 (by decide) ?_
  refine lv_iload_n hx hb dX9_bringBack_2 rfl (lv_at hl 0 rfl) ?_
  refine lv_bipush (v := 16) hx hb dX9_bringBack_3 (by decide) ?_
  refine lv_icmp_ge (tgt := 26) hx hb dX9_bringBack_5 (by decide) (fun c => absurd c (by decide)) (fun _ => ?_)
  refine lv_aload_n hx hb dX9_bringBack_8 rfl (lv_at hl 1 rfl) ?_
  refine va_get (D := D) (cl := vwCl) (ci := 9) (v := .ref a2) (C := RX9) (T := TX9) (N := 64) hx hb hts in_X9_bringBack_X9 hown hK hP 0 rfl rfl 37 (by decide) (hts (.fieldLink RX9 76 "EightReasonsModel" "all" "[I") (List.mem_of_getElem? (i := 1) (by decide +kernel))) (fun _ h9 => h9) rfl dX9_bringBack_9 ?_
  refine lv_iload_n hx hb dX9_bringBack_12 rfl (lv_at hl 0 rfl) ?_
  refine lv_aload_n hx hb dX9_bringBack_13 rfl (lv_at hl 1 rfl) ?_
  refine va_get (D := D) (cl := vwCl) (ci := 9) (v := .ref a1) (C := RX9) (T := TX9) (N := 64) hx hb hts in_X9_bringBack_X9 hown hK hP 0 rfl rfl 38 (by decide) (hts (.fieldLink RX9 79 "EightReasonsModel" "kept" "[I") (List.mem_of_getElem? (i := 2) (by decide +kernel))) (fun _ h9 => h9) rfl dX9_bringBack_14 ?_
  refine lv_iload_n hx hb dX9_bringBack_17 rfl (lv_at hl 0 rfl) ?_
  refine va_iald hx hb hK hP 1 0 rfl rfl (vin (by decide)) dX9_bringBack_18 (tpi (v := 0) rfl ?_)
  refine va_iast hx hb hK hP hD hS 2 0 rfl rfl (vin (by decide)) dX9_bringBack_19 (fun H locs hP hD hS => ?_)
  generalize hhg8 : upd g7 (Int32.toNatClampNeg 7) 0 = g8 at hP hD
  have fg8_0 : g8 0 = 0 := by rw [← hhg8]; exact (pk_un (by decide)).trans fg7_0
  have fg8_1 : g8 1 = 0 := by rw [← hhg8]; exact (pk_un (by decide)).trans fg7_1
  have fg8_2 : g8 2 = 0 := by rw [← hhg8]; exact (pk_un (by decide)).trans fg7_2
  have fg8_3 : g8 3 = 0 := by rw [← hhg8]; exact (pk_un (by decide)).trans fg7_3
  have fg8_4 : g8 4 = 0 := by rw [← hhg8]; exact (pk_un (by decide)).trans fg7_4
  have fg8_5 : g8 5 = 0 := by rw [← hhg8]; exact (pk_un (by decide)).trans fg7_5
  have fg8_6 : g8 6 = 0 := by rw [← hhg8]; exact (pk_un (by decide)).trans fg7_6
  have fg8_7 : g8 7 = 0 := by rw [← hhg8]; exact pk_us
  have hP : va_P D vwCl [(a0, .inr (9, [v0_0, v0_1, v0_2, v0_3, v0_4, v0_5, v0_6, v0_7, v0_8, v0_9, v0_10, v0_11, v0_12, v0_13, v0_14, v0_15, v0_16, v0_17, v0_18, v0_19, v0_20, v0_21, v0_22, v0_23, v0_24, v0_25, v0_26, v0_27, v0_28, v0_29, v0_30, v0_31, v0_32, v0_33, v0_34, v0_35, v0_36, .ref a2, .ref a1, v0_39, v0_40, v0_41, v0_42, v0_43, v0_44, v0_45, v0_46, v0_47, v0_48, v0_49, v0_50, v0_51, v0_52, v0_53, v0_54, v0_55, v0_56, v0_57, v0_58, v0_59, v0_60, v0_61, v0_62, v0_63])), (a1, .inl (cy 0, 16, .inl zI)), (a2, .inl (cy 0, 16, .inl g8))] H := hP
  have hD : va_D A [(a0, .inr (9, [v0_0, v0_1, v0_2, v0_3, v0_4, v0_5, v0_6, v0_7, v0_8, v0_9, v0_10, v0_11, v0_12, v0_13, v0_14, v0_15, v0_16, v0_17, v0_18, v0_19, v0_20, v0_21, v0_22, v0_23, v0_24, v0_25, v0_26, v0_27, v0_28, v0_29, v0_30, v0_31, v0_32, v0_33, v0_34, v0_35, v0_36, .ref a2, .ref a1, v0_39, v0_40, v0_41, v0_42, v0_43, v0_44, v0_45, v0_46, v0_47, v0_48, v0_49, v0_50, v0_51, v0_52, v0_53, v0_54, v0_55, v0_56, v0_57, v0_58, v0_59, v0_60, v0_61, v0_62, v0_63])), (a1, .inl (cy 0, 16, .inl zI)), (a2, .inl (cy 0, 16, .inl g8))] := hD
  refine lv_iinc (v := 8) (lv' := [(1, .int 8), (0, .ref a0)]) hx hb dX9_bringBack_20 hl (k := 0) rfl (by decide) (by decide) rfl (fun ls hl => ?_)
  refine lv_goto (tgt := 2) hx hb dX9_bringBack_23 (by decide) ?_
  refine lv_iload_n hx hb dX9_bringBack_2 rfl (lv_at hl 0 rfl) ?_
  refine lv_bipush (v := 16) hx hb dX9_bringBack_3 (by decide) ?_
  refine lv_icmp_ge (tgt := 26) hx hb dX9_bringBack_5 (by decide) (fun c => absurd c (by decide)) (fun _ => ?_)
  refine lv_aload_n hx hb dX9_bringBack_8 rfl (lv_at hl 1 rfl) ?_
  refine va_get (D := D) (cl := vwCl) (ci := 9) (v := .ref a2) (C := RX9) (T := TX9) (N := 64) hx hb hts in_X9_bringBack_X9 hown hK hP 0 rfl rfl 37 (by decide) (hts (.fieldLink RX9 76 "EightReasonsModel" "all" "[I") (List.mem_of_getElem? (i := 1) (by decide +kernel))) (fun _ h9 => h9) rfl dX9_bringBack_9 ?_
  refine lv_iload_n hx hb dX9_bringBack_12 rfl (lv_at hl 0 rfl) ?_
  refine lv_aload_n hx hb dX9_bringBack_13 rfl (lv_at hl 1 rfl) ?_
  refine va_get (D := D) (cl := vwCl) (ci := 9) (v := .ref a1) (C := RX9) (T := TX9) (N := 64) hx hb hts in_X9_bringBack_X9 hown hK hP 0 rfl rfl 38 (by decide) (hts (.fieldLink RX9 79 "EightReasonsModel" "kept" "[I") (List.mem_of_getElem? (i := 2) (by decide +kernel))) (fun _ h9 => h9) rfl dX9_bringBack_14 ?_
  refine lv_iload_n hx hb dX9_bringBack_17 rfl (lv_at hl 0 rfl) ?_
  refine va_iald hx hb hK hP 1 0 rfl rfl (vin (by decide)) dX9_bringBack_18 (tpi (v := 0) rfl ?_)
  refine va_iast hx hb hK hP hD hS 2 0 rfl rfl (vin (by decide)) dX9_bringBack_19 (fun H locs hP hD hS => ?_)
  generalize hhg9 : upd g8 (Int32.toNatClampNeg 8) 0 = g9 at hP hD
  have fg9_0 : g9 0 = 0 := by rw [← hhg9]; exact (pk_un (by decide)).trans fg8_0
  have fg9_1 : g9 1 = 0 := by rw [← hhg9]; exact (pk_un (by decide)).trans fg8_1
  have fg9_2 : g9 2 = 0 := by rw [← hhg9]; exact (pk_un (by decide)).trans fg8_2
  have fg9_3 : g9 3 = 0 := by rw [← hhg9]; exact (pk_un (by decide)).trans fg8_3
  have fg9_4 : g9 4 = 0 := by rw [← hhg9]; exact (pk_un (by decide)).trans fg8_4
  have fg9_5 : g9 5 = 0 := by rw [← hhg9]; exact (pk_un (by decide)).trans fg8_5
  have fg9_6 : g9 6 = 0 := by rw [← hhg9]; exact (pk_un (by decide)).trans fg8_6
  have fg9_7 : g9 7 = 0 := by rw [← hhg9]; exact (pk_un (by decide)).trans fg8_7
  have fg9_8 : g9 8 = 0 := by rw [← hhg9]; exact pk_us
  have hP : va_P D vwCl [(a0, .inr (9, [v0_0, v0_1, v0_2, v0_3, v0_4, v0_5, v0_6, v0_7, v0_8, v0_9, v0_10, v0_11, v0_12, v0_13, v0_14, v0_15, v0_16, v0_17, v0_18, v0_19, v0_20, v0_21, v0_22, v0_23, v0_24, v0_25, v0_26, v0_27, v0_28, v0_29, v0_30, v0_31, v0_32, v0_33, v0_34, v0_35, v0_36, .ref a2, .ref a1, v0_39, v0_40, v0_41, v0_42, v0_43, v0_44, v0_45, v0_46, v0_47, v0_48, v0_49, v0_50, v0_51, v0_52, v0_53, v0_54, v0_55, v0_56, v0_57, v0_58, v0_59, v0_60, v0_61, v0_62, v0_63])), (a1, .inl (cy 0, 16, .inl zI)), (a2, .inl (cy 0, 16, .inl g9))] H := hP
  have hD : va_D A [(a0, .inr (9, [v0_0, v0_1, v0_2, v0_3, v0_4, v0_5, v0_6, v0_7, v0_8, v0_9, v0_10, v0_11, v0_12, v0_13, v0_14, v0_15, v0_16, v0_17, v0_18, v0_19, v0_20, v0_21, v0_22, v0_23, v0_24, v0_25, v0_26, v0_27, v0_28, v0_29, v0_30, v0_31, v0_32, v0_33, v0_34, v0_35, v0_36, .ref a2, .ref a1, v0_39, v0_40, v0_41, v0_42, v0_43, v0_44, v0_45, v0_46, v0_47, v0_48, v0_49, v0_50, v0_51, v0_52, v0_53, v0_54, v0_55, v0_56, v0_57, v0_58, v0_59, v0_60, v0_61, v0_62, v0_63])), (a1, .inl (cy 0, 16, .inl zI)), (a2, .inl (cy 0, 16, .inl g9))] := hD
  refine lv_iinc (v := 9) (lv' := [(1, .int 9), (0, .ref a0)]) hx hb dX9_bringBack_20 hl (k := 0) rfl (by decide) (by decide) rfl (fun ls hl => ?_)
  refine lv_goto (tgt := 2) hx hb dX9_bringBack_23 (by decide) ?_
  refine lv_iload_n hx hb dX9_bringBack_2 rfl (lv_at hl 0 rfl) ?_
  refine lv_bipush (v := 16) hx hb dX9_bringBack_3 (by decide) ?_
  refine lv_icmp_ge (tgt := 26) hx hb dX9_bringBack_5 (by decide) (fun c => absurd c (by decide)) (fun _ => ?_)
  refine lv_aload_n hx hb dX9_bringBack_8 rfl (lv_at hl 1 rfl) ?_
  refine va_get (D := D) (cl := vwCl) (ci := 9) (v := .ref a2) (C := RX9) (T := TX9) (N := 64) hx hb hts in_X9_bringBack_X9 hown hK hP 0 rfl rfl 37 (by decide) (hts (.fieldLink RX9 76 "EightReasonsModel" "all" "[I") (List.mem_of_getElem? (i := 1) (by decide +kernel))) (fun _ h9 => h9) rfl dX9_bringBack_9 ?_
  refine lv_iload_n hx hb dX9_bringBack_12 rfl (lv_at hl 0 rfl) ?_
  refine lv_aload_n hx hb dX9_bringBack_13 rfl (lv_at hl 1 rfl) ?_
  refine va_get (D := D) (cl := vwCl) (ci := 9) (v := .ref a1) (C := RX9) (T := TX9) (N := 64) hx hb hts in_X9_bringBack_X9 hown hK hP 0 rfl rfl 38 (by decide) (hts (.fieldLink RX9 79 "EightReasonsModel" "kept" "[I") (List.mem_of_getElem? (i := 2) (by decide +kernel))) (fun _ h9 => h9) rfl dX9_bringBack_14 ?_
  refine lv_iload_n hx hb dX9_bringBack_17 rfl (lv_at hl 0 rfl) ?_
  refine va_iald hx hb hK hP 1 0 rfl rfl (vin (by decide)) dX9_bringBack_18 (tpi (v := 0) rfl ?_)
  refine va_iast hx hb hK hP hD hS 2 0 rfl rfl (vin (by decide)) dX9_bringBack_19 (fun H locs hP hD hS => ?_)
  generalize hhg10 : upd g9 (Int32.toNatClampNeg 9) 0 = g10 at hP hD
  have fg10_0 : g10 0 = 0 := by rw [← hhg10]; exact (pk_un (by decide)).trans fg9_0
  have fg10_1 : g10 1 = 0 := by rw [← hhg10]; exact (pk_un (by decide)).trans fg9_1
  have fg10_2 : g10 2 = 0 := by rw [← hhg10]; exact (pk_un (by decide)).trans fg9_2
  have fg10_3 : g10 3 = 0 := by rw [← hhg10]; exact (pk_un (by decide)).trans fg9_3
  have fg10_4 : g10 4 = 0 := by rw [← hhg10]; exact (pk_un (by decide)).trans fg9_4
  have fg10_5 : g10 5 = 0 := by rw [← hhg10]; exact (pk_un (by decide)).trans fg9_5
  have fg10_6 : g10 6 = 0 := by rw [← hhg10]; exact (pk_un (by decide)).trans fg9_6
  have fg10_7 : g10 7 = 0 := by rw [← hhg10]; exact (pk_un (by decide)).trans fg9_7
  have fg10_8 : g10 8 = 0 := by rw [← hhg10]; exact (pk_un (by decide)).trans fg9_8
  have fg10_9 : g10 9 = 0 := by rw [← hhg10]; exact pk_us
  have hP : va_P D vwCl [(a0, .inr (9, [v0_0, v0_1, v0_2, v0_3, v0_4, v0_5, v0_6, v0_7, v0_8, v0_9, v0_10, v0_11, v0_12, v0_13, v0_14, v0_15, v0_16, v0_17, v0_18, v0_19, v0_20, v0_21, v0_22, v0_23, v0_24, v0_25, v0_26, v0_27, v0_28, v0_29, v0_30, v0_31, v0_32, v0_33, v0_34, v0_35, v0_36, .ref a2, .ref a1, v0_39, v0_40, v0_41, v0_42, v0_43, v0_44, v0_45, v0_46, v0_47, v0_48, v0_49, v0_50, v0_51, v0_52, v0_53, v0_54, v0_55, v0_56, v0_57, v0_58, v0_59, v0_60, v0_61, v0_62, v0_63])), (a1, .inl (cy 0, 16, .inl zI)), (a2, .inl (cy 0, 16, .inl g10))] H := hP
  have hD : va_D A [(a0, .inr (9, [v0_0, v0_1, v0_2, v0_3, v0_4, v0_5, v0_6, v0_7, v0_8, v0_9, v0_10, v0_11, v0_12, v0_13, v0_14, v0_15, v0_16, v0_17, v0_18, v0_19, v0_20, v0_21, v0_22, v0_23, v0_24, v0_25, v0_26, v0_27, v0_28, v0_29, v0_30, v0_31, v0_32, v0_33, v0_34, v0_35, v0_36, .ref a2, .ref a1, v0_39, v0_40, v0_41, v0_42, v0_43, v0_44, v0_45, v0_46, v0_47, v0_48, v0_49, v0_50, v0_51, v0_52, v0_53, v0_54, v0_55, v0_56, v0_57, v0_58, v0_59, v0_60, v0_61, v0_62, v0_63])), (a1, .inl (cy 0, 16, .inl zI)), (a2, .inl (cy 0, 16, .inl g10))] := hD
  refine lv_iinc (v := 10) (lv' := [(1, .int 10), (0, .ref a0)]) hx hb dX9_bringBack_20 hl (k := 0) rfl (by decide) (by decide) rfl (fun ls hl => ?_)
  refine lv_goto (tgt := 2) hx hb dX9_bringBack_23 (by decide) ?_
  refine lv_iload_n hx hb dX9_bringBack_2 rfl (lv_at hl 0 rfl) ?_
  refine lv_bipush (v := 16) hx hb dX9_bringBack_3 (by decide) ?_
  refine lv_icmp_ge (tgt := 26) hx hb dX9_bringBack_5 (by decide) (fun c => absurd c (by decide)) (fun _ => ?_)
  refine lv_aload_n hx hb dX9_bringBack_8 rfl (lv_at hl 1 rfl) ?_
  refine va_get (D := D) (cl := vwCl) (ci := 9) (v := .ref a2) (C := RX9) (T := TX9) (N := 64) hx hb hts in_X9_bringBack_X9 hown hK hP 0 rfl rfl 37 (by decide) (hts (.fieldLink RX9 76 "EightReasonsModel" "all" "[I") (List.mem_of_getElem? (i := 1) (by decide +kernel))) (fun _ h9 => h9) rfl dX9_bringBack_9 ?_
  refine lv_iload_n hx hb dX9_bringBack_12 rfl (lv_at hl 0 rfl) ?_
  refine lv_aload_n hx hb dX9_bringBack_13 rfl (lv_at hl 1 rfl) ?_
  refine va_get (D := D) (cl := vwCl) (ci := 9) (v := .ref a1) (C := RX9) (T := TX9) (N := 64) hx hb hts in_X9_bringBack_X9 hown hK hP 0 rfl rfl 38 (by decide) (hts (.fieldLink RX9 79 "EightReasonsModel" "kept" "[I") (List.mem_of_getElem? (i := 2) (by decide +kernel))) (fun _ h9 => h9) rfl dX9_bringBack_14 ?_
  refine lv_iload_n hx hb dX9_bringBack_17 rfl (lv_at hl 0 rfl) ?_
  refine va_iald hx hb hK hP 1 0 rfl rfl (vin (by decide)) dX9_bringBack_18 (tpi (v := 0) rfl ?_)
  refine va_iast hx hb hK hP hD hS 2 0 rfl rfl (vin (by decide)) dX9_bringBack_19 (fun H locs hP hD hS => ?_)
  generalize hhg11 : upd g10 (Int32.toNatClampNeg 10) 0 = g11 at hP hD
  have fg11_0 : g11 0 = 0 := by rw [← hhg11]; exact (pk_un (by decide)).trans fg10_0
  have fg11_1 : g11 1 = 0 := by rw [← hhg11]; exact (pk_un (by decide)).trans fg10_1
  have fg11_2 : g11 2 = 0 := by rw [← hhg11]; exact (pk_un (by decide)).trans fg10_2
  have fg11_3 : g11 3 = 0 := by rw [← hhg11]; exact (pk_un (by decide)).trans fg10_3
  have fg11_4 : g11 4 = 0 := by rw [← hhg11]; exact (pk_un (by decide)).trans fg10_4
  have fg11_5 : g11 5 = 0 := by rw [← hhg11]; exact (pk_un (by decide)).trans fg10_5
  have fg11_6 : g11 6 = 0 := by rw [← hhg11]; exact (pk_un (by decide)).trans fg10_6
  have fg11_7 : g11 7 = 0 := by rw [← hhg11]; exact (pk_un (by decide)).trans fg10_7
  have fg11_8 : g11 8 = 0 := by rw [← hhg11]; exact (pk_un (by decide)).trans fg10_8
  have fg11_9 : g11 9 = 0 := by rw [← hhg11]; exact (pk_un (by decide)).trans fg10_9
  have fg11_10 : g11 10 = 0 := by rw [← hhg11]; exact pk_us
  have hP : va_P D vwCl [(a0, .inr (9, [v0_0, v0_1, v0_2, v0_3, v0_4, v0_5, v0_6, v0_7, v0_8, v0_9, v0_10, v0_11, v0_12, v0_13, v0_14, v0_15, v0_16, v0_17, v0_18, v0_19, v0_20, v0_21, v0_22, v0_23, v0_24, v0_25, v0_26, v0_27, v0_28, v0_29, v0_30, v0_31, v0_32, v0_33, v0_34, v0_35, v0_36, .ref a2, .ref a1, v0_39, v0_40, v0_41, v0_42, v0_43, v0_44, v0_45, v0_46, v0_47, v0_48, v0_49, v0_50, v0_51, v0_52, v0_53, v0_54, v0_55, v0_56, v0_57, v0_58, v0_59, v0_60, v0_61, v0_62, v0_63])), (a1, .inl (cy 0, 16, .inl zI)), (a2, .inl (cy 0, 16, .inl g11))] H := hP
  have hD : va_D A [(a0, .inr (9, [v0_0, v0_1, v0_2, v0_3, v0_4, v0_5, v0_6, v0_7, v0_8, v0_9, v0_10, v0_11, v0_12, v0_13, v0_14, v0_15, v0_16, v0_17, v0_18, v0_19, v0_20, v0_21, v0_22, v0_23, v0_24, v0_25, v0_26, v0_27, v0_28, v0_29, v0_30, v0_31, v0_32, v0_33, v0_34, v0_35, v0_36, .ref a2, .ref a1, v0_39, v0_40, v0_41, v0_42, v0_43, v0_44, v0_45, v0_46, v0_47, v0_48, v0_49, v0_50, v0_51, v0_52, v0_53, v0_54, v0_55, v0_56, v0_57, v0_58, v0_59, v0_60, v0_61, v0_62, v0_63])), (a1, .inl (cy 0, 16, .inl zI)), (a2, .inl (cy 0, 16, .inl g11))] := hD
  refine lv_iinc (v := 11) (lv' := [(1, .int 11), (0, .ref a0)]) hx hb dX9_bringBack_20 hl (k := 0) rfl (by decide) (by decide) rfl (fun ls hl => ?_)
  refine lv_goto (tgt := 2) hx hb dX9_bringBack_23 (by decide) ?_
  refine lv_iload_n hx hb dX9_bringBack_2 rfl (lv_at hl 0 rfl) ?_
  refine lv_bipush (v := 16) hx hb dX9_bringBack_3 (by decide) ?_
  refine lv_icmp_ge (tgt := 26) hx hb dX9_bringBack_5 (by decide) (fun c => absurd c (by decide)) (fun _ => ?_)
  refine lv_aload_n hx hb dX9_bringBack_8 rfl (lv_at hl 1 rfl) ?_
  refine va_get (D := D) (cl := vwCl) (ci := 9) (v := .ref a2) (C := RX9) (T := TX9) (N := 64) hx hb hts in_X9_bringBack_X9 hown hK hP 0 rfl rfl 37 (by decide) (hts (.fieldLink RX9 76 "EightReasonsModel" "all" "[I") (List.mem_of_getElem? (i := 1) (by decide +kernel))) (fun _ h9 => h9) rfl dX9_bringBack_9 ?_
  refine lv_iload_n hx hb dX9_bringBack_12 rfl (lv_at hl 0 rfl) ?_
  refine lv_aload_n hx hb dX9_bringBack_13 rfl (lv_at hl 1 rfl) ?_
  refine va_get (D := D) (cl := vwCl) (ci := 9) (v := .ref a1) (C := RX9) (T := TX9) (N := 64) hx hb hts in_X9_bringBack_X9 hown hK hP 0 rfl rfl 38 (by decide) (hts (.fieldLink RX9 79 "EightReasonsModel" "kept" "[I") (List.mem_of_getElem? (i := 2) (by decide +kernel))) (fun _ h9 => h9) rfl dX9_bringBack_14 ?_
  refine lv_iload_n hx hb dX9_bringBack_17 rfl (lv_at hl 0 rfl) ?_
  refine va_iald hx hb hK hP 1 0 rfl rfl (vin (by decide)) dX9_bringBack_18 (tpi (v := 0) rfl ?_)
  refine va_iast hx hb hK hP hD hS 2 0 rfl rfl (vin (by decide)) dX9_bringBack_19 (fun H locs hP hD hS => ?_)
  generalize hhg12 : upd g11 (Int32.toNatClampNeg 11) 0 = g12 at hP hD
  have fg12_0 : g12 0 = 0 := by rw [← hhg12]; exact (pk_un (by decide)).trans fg11_0
  have fg12_1 : g12 1 = 0 := by rw [← hhg12]; exact (pk_un (by decide)).trans fg11_1
  have fg12_2 : g12 2 = 0 := by rw [← hhg12]; exact (pk_un (by decide)).trans fg11_2
  have fg12_3 : g12 3 = 0 := by rw [← hhg12]; exact (pk_un (by decide)).trans fg11_3
  have fg12_4 : g12 4 = 0 := by rw [← hhg12]; exact (pk_un (by decide)).trans fg11_4
  have fg12_5 : g12 5 = 0 := by rw [← hhg12]; exact (pk_un (by decide)).trans fg11_5
  have fg12_6 : g12 6 = 0 := by rw [← hhg12]; exact (pk_un (by decide)).trans fg11_6
  have fg12_7 : g12 7 = 0 := by rw [← hhg12]; exact (pk_un (by decide)).trans fg11_7
  have fg12_8 : g12 8 = 0 := by rw [← hhg12]; exact (pk_un (by decide)).trans fg11_8
  have fg12_9 : g12 9 = 0 := by rw [← hhg12]; exact (pk_un (by decide)).trans fg11_9
  have fg12_10 : g12 10 = 0 := by rw [← hhg12]; exact (pk_un (by decide)).trans fg11_10
  have fg12_11 : g12 11 = 0 := by rw [← hhg12]; exact pk_us
  have hP : va_P D vwCl [(a0, .inr (9, [v0_0, v0_1, v0_2, v0_3, v0_4, v0_5, v0_6, v0_7, v0_8, v0_9, v0_10, v0_11, v0_12, v0_13, v0_14, v0_15, v0_16, v0_17, v0_18, v0_19, v0_20, v0_21, v0_22, v0_23, v0_24, v0_25, v0_26, v0_27, v0_28, v0_29, v0_30, v0_31, v0_32, v0_33, v0_34, v0_35, v0_36, .ref a2, .ref a1, v0_39, v0_40, v0_41, v0_42, v0_43, v0_44, v0_45, v0_46, v0_47, v0_48, v0_49, v0_50, v0_51, v0_52, v0_53, v0_54, v0_55, v0_56, v0_57, v0_58, v0_59, v0_60, v0_61, v0_62, v0_63])), (a1, .inl (cy 0, 16, .inl zI)), (a2, .inl (cy 0, 16, .inl g12))] H := hP
  have hD : va_D A [(a0, .inr (9, [v0_0, v0_1, v0_2, v0_3, v0_4, v0_5, v0_6, v0_7, v0_8, v0_9, v0_10, v0_11, v0_12, v0_13, v0_14, v0_15, v0_16, v0_17, v0_18, v0_19, v0_20, v0_21, v0_22, v0_23, v0_24, v0_25, v0_26, v0_27, v0_28, v0_29, v0_30, v0_31, v0_32, v0_33, v0_34, v0_35, v0_36, .ref a2, .ref a1, v0_39, v0_40, v0_41, v0_42, v0_43, v0_44, v0_45, v0_46, v0_47, v0_48, v0_49, v0_50, v0_51, v0_52, v0_53, v0_54, v0_55, v0_56, v0_57, v0_58, v0_59, v0_60, v0_61, v0_62, v0_63])), (a1, .inl (cy 0, 16, .inl zI)), (a2, .inl (cy 0, 16, .inl g12))] := hD
  refine lv_iinc (v := 12) (lv' := [(1, .int 12), (0, .ref a0)]) hx hb dX9_bringBack_20 hl (k := 0) rfl (by decide) (by decide) rfl (fun ls hl => ?_)
  refine lv_goto (tgt := 2) hx hb dX9_bringBack_23 (by decide) ?_
  refine lv_iload_n hx hb dX9_bringBack_2 rfl (lv_at hl 0 rfl) ?_
  refine lv_bipush (v := 16) hx hb dX9_bringBack_3 (by decide) ?_
  refine lv_icmp_ge (tgt := 26) hx hb dX9_bringBack_5 (by decide) (fun c => absurd c (by decide)) (fun _ => ?_)
  refine lv_aload_n hx hb dX9_bringBack_8 rfl (lv_at hl 1 rfl) ?_
  refine va_get (D := D) (cl := vwCl) (ci := 9) (v := .ref a2) (C := RX9) (T := TX9) (N := 64) hx hb hts in_X9_bringBack_X9 hown hK hP 0 rfl rfl 37 (by decide) (hts (.fieldLink RX9 76 "EightReasonsModel" "all" "[I") (List.mem_of_getElem? (i := 1) (by decide +kernel))) (fun _ h9 => h9) rfl dX9_bringBack_9 ?_
  refine lv_iload_n hx hb dX9_bringBack_12 rfl (lv_at hl 0 rfl) ?_
  refine lv_aload_n hx hb dX9_bringBack_13 rfl (lv_at hl 1 rfl) ?_
  refine va_get (D := D) (cl := vwCl) (ci := 9) (v := .ref a1) (C := RX9) (T := TX9) (N := 64) hx hb hts in_X9_bringBack_X9 hown hK hP 0 rfl rfl 38 (by decide) (hts (.fieldLink RX9 79 "EightReasonsModel" "kept" "[I") (List.mem_of_getElem? (i := 2) (by decide +kernel))) (fun _ h9 => h9) rfl dX9_bringBack_14 ?_
  refine lv_iload_n hx hb dX9_bringBack_17 rfl (lv_at hl 0 rfl) ?_
  refine va_iald hx hb hK hP 1 0 rfl rfl (vin (by decide)) dX9_bringBack_18 (tpi (v := 0) rfl ?_)
  refine va_iast hx hb hK hP hD hS 2 0 rfl rfl (vin (by decide)) dX9_bringBack_19 (fun H locs hP hD hS => ?_)
  generalize hhg13 : upd g12 (Int32.toNatClampNeg 12) 0 = g13 at hP hD
  have fg13_0 : g13 0 = 0 := by rw [← hhg13]; exact (pk_un (by decide)).trans fg12_0
  have fg13_1 : g13 1 = 0 := by rw [← hhg13]; exact (pk_un (by decide)).trans fg12_1
  have fg13_2 : g13 2 = 0 := by rw [← hhg13]; exact (pk_un (by decide)).trans fg12_2
  have fg13_3 : g13 3 = 0 := by rw [← hhg13]; exact (pk_un (by decide)).trans fg12_3
  have fg13_4 : g13 4 = 0 := by rw [← hhg13]; exact (pk_un (by decide)).trans fg12_4
  have fg13_5 : g13 5 = 0 := by rw [← hhg13]; exact (pk_un (by decide)).trans fg12_5
  have fg13_6 : g13 6 = 0 := by rw [← hhg13]; exact (pk_un (by decide)).trans fg12_6
  have fg13_7 : g13 7 = 0 := by rw [← hhg13]; exact (pk_un (by decide)).trans fg12_7
  have fg13_8 : g13 8 = 0 := by rw [← hhg13]; exact (pk_un (by decide)).trans fg12_8
  have fg13_9 : g13 9 = 0 := by rw [← hhg13]; exact (pk_un (by decide)).trans fg12_9
  have fg13_10 : g13 10 = 0 := by rw [← hhg13]; exact (pk_un (by decide)).trans fg12_10
  have fg13_11 : g13 11 = 0 := by rw [← hhg13]; exact (pk_un (by decide)).trans fg12_11
  have fg13_12 : g13 12 = 0 := by rw [← hhg13]; exact pk_us
  have hP : va_P D vwCl [(a0, .inr (9, [v0_0, v0_1, v0_2, v0_3, v0_4, v0_5, v0_6, v0_7, v0_8, v0_9, v0_10, v0_11, v0_12, v0_13, v0_14, v0_15, v0_16, v0_17, v0_18, v0_19, v0_20, v0_21, v0_22, v0_23, v0_24, v0_25, v0_26, v0_27, v0_28, v0_29, v0_30, v0_31, v0_32, v0_33, v0_34, v0_35, v0_36, .ref a2, .ref a1, v0_39, v0_40, v0_41, v0_42, v0_43, v0_44, v0_45, v0_46, v0_47, v0_48, v0_49, v0_50, v0_51, v0_52, v0_53, v0_54, v0_55, v0_56, v0_57, v0_58, v0_59, v0_60, v0_61, v0_62, v0_63])), (a1, .inl (cy 0, 16, .inl zI)), (a2, .inl (cy 0, 16, .inl g13))] H := hP
  have hD : va_D A [(a0, .inr (9, [v0_0, v0_1, v0_2, v0_3, v0_4, v0_5, v0_6, v0_7, v0_8, v0_9, v0_10, v0_11, v0_12, v0_13, v0_14, v0_15, v0_16, v0_17, v0_18, v0_19, v0_20, v0_21, v0_22, v0_23, v0_24, v0_25, v0_26, v0_27, v0_28, v0_29, v0_30, v0_31, v0_32, v0_33, v0_34, v0_35, v0_36, .ref a2, .ref a1, v0_39, v0_40, v0_41, v0_42, v0_43, v0_44, v0_45, v0_46, v0_47, v0_48, v0_49, v0_50, v0_51, v0_52, v0_53, v0_54, v0_55, v0_56, v0_57, v0_58, v0_59, v0_60, v0_61, v0_62, v0_63])), (a1, .inl (cy 0, 16, .inl zI)), (a2, .inl (cy 0, 16, .inl g13))] := hD
  refine lv_iinc (v := 13) (lv' := [(1, .int 13), (0, .ref a0)]) hx hb dX9_bringBack_20 hl (k := 0) rfl (by decide) (by decide) rfl (fun ls hl => ?_)
  refine lv_goto (tgt := 2) hx hb dX9_bringBack_23 (by decide) ?_
  refine lv_iload_n hx hb dX9_bringBack_2 rfl (lv_at hl 0 rfl) ?_
  refine lv_bipush (v := 16) hx hb dX9_bringBack_3 (by decide) ?_
  refine lv_icmp_ge (tgt := 26) hx hb dX9_bringBack_5 (by decide) (fun c => absurd c (by decide)) (fun _ => ?_)
  refine lv_aload_n hx hb dX9_bringBack_8 rfl (lv_at hl 1 rfl) ?_
  refine va_get (D := D) (cl := vwCl) (ci := 9) (v := .ref a2) (C := RX9) (T := TX9) (N := 64) hx hb hts in_X9_bringBack_X9 hown hK hP 0 rfl rfl 37 (by decide) (hts (.fieldLink RX9 76 "EightReasonsModel" "all" "[I") (List.mem_of_getElem? (i := 1) (by decide +kernel))) (fun _ h9 => h9) rfl dX9_bringBack_9 ?_
  refine lv_iload_n hx hb dX9_bringBack_12 rfl (lv_at hl 0 rfl) ?_
  refine lv_aload_n hx hb dX9_bringBack_13 rfl (lv_at hl 1 rfl) ?_
  refine va_get (D := D) (cl := vwCl) (ci := 9) (v := .ref a1) (C := RX9) (T := TX9) (N := 64) hx hb hts in_X9_bringBack_X9 hown hK hP 0 rfl rfl 38 (by decide) (hts (.fieldLink RX9 79 "EightReasonsModel" "kept" "[I") (List.mem_of_getElem? (i := 2) (by decide +kernel))) (fun _ h9 => h9) rfl dX9_bringBack_14 ?_
  refine lv_iload_n hx hb dX9_bringBack_17 rfl (lv_at hl 0 rfl) ?_
  refine va_iald hx hb hK hP 1 0 rfl rfl (vin (by decide)) dX9_bringBack_18 (tpi (v := 0) rfl ?_)
  refine va_iast hx hb hK hP hD hS 2 0 rfl rfl (vin (by decide)) dX9_bringBack_19 (fun H locs hP hD hS => ?_)
  generalize hhg14 : upd g13 (Int32.toNatClampNeg 13) 0 = g14 at hP hD
  have fg14_0 : g14 0 = 0 := by rw [← hhg14]; exact (pk_un (by decide)).trans fg13_0
  have fg14_1 : g14 1 = 0 := by rw [← hhg14]; exact (pk_un (by decide)).trans fg13_1
  have fg14_2 : g14 2 = 0 := by rw [← hhg14]; exact (pk_un (by decide)).trans fg13_2
  have fg14_3 : g14 3 = 0 := by rw [← hhg14]; exact (pk_un (by decide)).trans fg13_3
  have fg14_4 : g14 4 = 0 := by rw [← hhg14]; exact (pk_un (by decide)).trans fg13_4
  have fg14_5 : g14 5 = 0 := by rw [← hhg14]; exact (pk_un (by decide)).trans fg13_5
  have fg14_6 : g14 6 = 0 := by rw [← hhg14]; exact (pk_un (by decide)).trans fg13_6
  have fg14_7 : g14 7 = 0 := by rw [← hhg14]; exact (pk_un (by decide)).trans fg13_7
  have fg14_8 : g14 8 = 0 := by rw [← hhg14]; exact (pk_un (by decide)).trans fg13_8
  have fg14_9 : g14 9 = 0 := by rw [← hhg14]; exact (pk_un (by decide)).trans fg13_9
  have fg14_10 : g14 10 = 0 := by rw [← hhg14]; exact (pk_un (by decide)).trans fg13_10
  have fg14_11 : g14 11 = 0 := by rw [← hhg14]; exact (pk_un (by decide)).trans fg13_11
  have fg14_12 : g14 12 = 0 := by rw [← hhg14]; exact (pk_un (by decide)).trans fg13_12
  have fg14_13 : g14 13 = 0 := by rw [← hhg14]; exact pk_us
  have hP : va_P D vwCl [(a0, .inr (9, [v0_0, v0_1, v0_2, v0_3, v0_4, v0_5, v0_6, v0_7, v0_8, v0_9, v0_10, v0_11, v0_12, v0_13, v0_14, v0_15, v0_16, v0_17, v0_18, v0_19, v0_20, v0_21, v0_22, v0_23, v0_24, v0_25, v0_26, v0_27, v0_28, v0_29, v0_30, v0_31, v0_32, v0_33, v0_34, v0_35, v0_36, .ref a2, .ref a1, v0_39, v0_40, v0_41, v0_42, v0_43, v0_44, v0_45, v0_46, v0_47, v0_48, v0_49, v0_50, v0_51, v0_52, v0_53, v0_54, v0_55, v0_56, v0_57, v0_58, v0_59, v0_60, v0_61, v0_62, v0_63])), (a1, .inl (cy 0, 16, .inl zI)), (a2, .inl (cy 0, 16, .inl g14))] H := hP
  have hD : va_D A [(a0, .inr (9, [v0_0, v0_1, v0_2, v0_3, v0_4, v0_5, v0_6, v0_7, v0_8, v0_9, v0_10, v0_11, v0_12, v0_13, v0_14, v0_15, v0_16, v0_17, v0_18, v0_19, v0_20, v0_21, v0_22, v0_23, v0_24, v0_25, v0_26, v0_27, v0_28, v0_29, v0_30, v0_31, v0_32, v0_33, v0_34, v0_35, v0_36, .ref a2, .ref a1, v0_39, v0_40, v0_41, v0_42, v0_43, v0_44, v0_45, v0_46, v0_47, v0_48, v0_49, v0_50, v0_51, v0_52, v0_53, v0_54, v0_55, v0_56, v0_57, v0_58, v0_59, v0_60, v0_61, v0_62, v0_63])), (a1, .inl (cy 0, 16, .inl zI)), (a2, .inl (cy 0, 16, .inl g14))] := hD
  refine lv_iinc (v := 14) (lv' := [(1, .int 14), (0, .ref a0)]) hx hb dX9_bringBack_20 hl (k := 0) rfl (by decide) (by decide) rfl (fun ls hl => ?_)
  refine lv_goto (tgt := 2) hx hb dX9_bringBack_23 (by decide) ?_
  refine lv_iload_n hx hb dX9_bringBack_2 rfl (lv_at hl 0 rfl) ?_
  refine lv_bipush (v := 16) hx hb dX9_bringBack_3 (by decide) ?_
  refine lv_icmp_ge (tgt := 26) hx hb dX9_bringBack_5 (by decide) (fun c => absurd c (by decide)) (fun _ => ?_)
  refine lv_aload_n hx hb dX9_bringBack_8 rfl (lv_at hl 1 rfl) ?_
  refine va_get (D := D) (cl := vwCl) (ci := 9) (v := .ref a2) (C := RX9) (T := TX9) (N := 64) hx hb hts in_X9_bringBack_X9 hown hK hP 0 rfl rfl 37 (by decide) (hts (.fieldLink RX9 76 "EightReasonsModel" "all" "[I") (List.mem_of_getElem? (i := 1) (by decide +kernel))) (fun _ h9 => h9) rfl dX9_bringBack_9 ?_
  refine lv_iload_n hx hb dX9_bringBack_12 rfl (lv_at hl 0 rfl) ?_
  refine lv_aload_n hx hb dX9_bringBack_13 rfl (lv_at hl 1 rfl) ?_
  refine va_get (D := D) (cl := vwCl) (ci := 9) (v := .ref a1) (C := RX9) (T := TX9) (N := 64) hx hb hts in_X9_bringBack_X9 hown hK hP 0 rfl rfl 38 (by decide) (hts (.fieldLink RX9 79 "EightReasonsModel" "kept" "[I") (List.mem_of_getElem? (i := 2) (by decide +kernel))) (fun _ h9 => h9) rfl dX9_bringBack_14 ?_
  refine lv_iload_n hx hb dX9_bringBack_17 rfl (lv_at hl 0 rfl) ?_
  refine va_iald hx hb hK hP 1 0 rfl rfl (vin (by decide)) dX9_bringBack_18 (tpi (v := 0) rfl ?_)
  refine va_iast hx hb hK hP hD hS 2 0 rfl rfl (vin (by decide)) dX9_bringBack_19 (fun H locs hP hD hS => ?_)
  generalize hhg15 : upd g14 (Int32.toNatClampNeg 14) 0 = g15 at hP hD
  have fg15_0 : g15 0 = 0 := by rw [← hhg15]; exact (pk_un (by decide)).trans fg14_0
  have fg15_1 : g15 1 = 0 := by rw [← hhg15]; exact (pk_un (by decide)).trans fg14_1
  have fg15_2 : g15 2 = 0 := by rw [← hhg15]; exact (pk_un (by decide)).trans fg14_2
  have fg15_3 : g15 3 = 0 := by rw [← hhg15]; exact (pk_un (by decide)).trans fg14_3
  have fg15_4 : g15 4 = 0 := by rw [← hhg15]; exact (pk_un (by decide)).trans fg14_4
  have fg15_5 : g15 5 = 0 := by rw [← hhg15]; exact (pk_un (by decide)).trans fg14_5
  have fg15_6 : g15 6 = 0 := by rw [← hhg15]; exact (pk_un (by decide)).trans fg14_6
  have fg15_7 : g15 7 = 0 := by rw [← hhg15]; exact (pk_un (by decide)).trans fg14_7
  have fg15_8 : g15 8 = 0 := by rw [← hhg15]; exact (pk_un (by decide)).trans fg14_8
  have fg15_9 : g15 9 = 0 := by rw [← hhg15]; exact (pk_un (by decide)).trans fg14_9
  have fg15_10 : g15 10 = 0 := by rw [← hhg15]; exact (pk_un (by decide)).trans fg14_10
  have fg15_11 : g15 11 = 0 := by rw [← hhg15]; exact (pk_un (by decide)).trans fg14_11
  have fg15_12 : g15 12 = 0 := by rw [← hhg15]; exact (pk_un (by decide)).trans fg14_12
  have fg15_13 : g15 13 = 0 := by rw [← hhg15]; exact (pk_un (by decide)).trans fg14_13
  have fg15_14 : g15 14 = 0 := by rw [← hhg15]; exact pk_us
  have hP : va_P D vwCl [(a0, .inr (9, [v0_0, v0_1, v0_2, v0_3, v0_4, v0_5, v0_6, v0_7, v0_8, v0_9, v0_10, v0_11, v0_12, v0_13, v0_14, v0_15, v0_16, v0_17, v0_18, v0_19, v0_20, v0_21, v0_22, v0_23, v0_24, v0_25, v0_26, v0_27, v0_28, v0_29, v0_30, v0_31, v0_32, v0_33, v0_34, v0_35, v0_36, .ref a2, .ref a1, v0_39, v0_40, v0_41, v0_42, v0_43, v0_44, v0_45, v0_46, v0_47, v0_48, v0_49, v0_50, v0_51, v0_52, v0_53, v0_54, v0_55, v0_56, v0_57, v0_58, v0_59, v0_60, v0_61, v0_62, v0_63])), (a1, .inl (cy 0, 16, .inl zI)), (a2, .inl (cy 0, 16, .inl g15))] H := hP
  have hD : va_D A [(a0, .inr (9, [v0_0, v0_1, v0_2, v0_3, v0_4, v0_5, v0_6, v0_7, v0_8, v0_9, v0_10, v0_11, v0_12, v0_13, v0_14, v0_15, v0_16, v0_17, v0_18, v0_19, v0_20, v0_21, v0_22, v0_23, v0_24, v0_25, v0_26, v0_27, v0_28, v0_29, v0_30, v0_31, v0_32, v0_33, v0_34, v0_35, v0_36, .ref a2, .ref a1, v0_39, v0_40, v0_41, v0_42, v0_43, v0_44, v0_45, v0_46, v0_47, v0_48, v0_49, v0_50, v0_51, v0_52, v0_53, v0_54, v0_55, v0_56, v0_57, v0_58, v0_59, v0_60, v0_61, v0_62, v0_63])), (a1, .inl (cy 0, 16, .inl zI)), (a2, .inl (cy 0, 16, .inl g15))] := hD
  refine lv_iinc (v := 15) (lv' := [(1, .int 15), (0, .ref a0)]) hx hb dX9_bringBack_20 hl (k := 0) rfl (by decide) (by decide) rfl (fun ls hl => ?_)
  refine lv_goto (tgt := 2) hx hb dX9_bringBack_23 (by decide) ?_
  refine lv_iload_n hx hb dX9_bringBack_2 rfl (lv_at hl 0 rfl) ?_
  refine lv_bipush (v := 16) hx hb dX9_bringBack_3 (by decide) ?_
  refine lv_icmp_ge (tgt := 26) hx hb dX9_bringBack_5 (by decide) (fun c => absurd c (by decide)) (fun _ => ?_)
  refine lv_aload_n hx hb dX9_bringBack_8 rfl (lv_at hl 1 rfl) ?_
  refine va_get (D := D) (cl := vwCl) (ci := 9) (v := .ref a2) (C := RX9) (T := TX9) (N := 64) hx hb hts in_X9_bringBack_X9 hown hK hP 0 rfl rfl 37 (by decide) (hts (.fieldLink RX9 76 "EightReasonsModel" "all" "[I") (List.mem_of_getElem? (i := 1) (by decide +kernel))) (fun _ h9 => h9) rfl dX9_bringBack_9 ?_
  refine lv_iload_n hx hb dX9_bringBack_12 rfl (lv_at hl 0 rfl) ?_
  refine lv_aload_n hx hb dX9_bringBack_13 rfl (lv_at hl 1 rfl) ?_
  refine va_get (D := D) (cl := vwCl) (ci := 9) (v := .ref a1) (C := RX9) (T := TX9) (N := 64) hx hb hts in_X9_bringBack_X9 hown hK hP 0 rfl rfl 38 (by decide) (hts (.fieldLink RX9 79 "EightReasonsModel" "kept" "[I") (List.mem_of_getElem? (i := 2) (by decide +kernel))) (fun _ h9 => h9) rfl dX9_bringBack_14 ?_
  refine lv_iload_n hx hb dX9_bringBack_17 rfl (lv_at hl 0 rfl) ?_
  refine va_iald hx hb hK hP 1 0 rfl rfl (vin (by decide)) dX9_bringBack_18 (tpi (v := 0) rfl ?_)
  refine va_iast hx hb hK hP hD hS 2 0 rfl rfl (vin (by decide)) dX9_bringBack_19 (fun H locs hP hD hS => ?_)
  generalize hhg16 : upd g15 (Int32.toNatClampNeg 15) 0 = g16 at hP hD
  have fg16_0 : g16 0 = 0 := by rw [← hhg16]; exact (pk_un (by decide)).trans fg15_0
  have fg16_1 : g16 1 = 0 := by rw [← hhg16]; exact (pk_un (by decide)).trans fg15_1
  have fg16_2 : g16 2 = 0 := by rw [← hhg16]; exact (pk_un (by decide)).trans fg15_2
  have fg16_3 : g16 3 = 0 := by rw [← hhg16]; exact (pk_un (by decide)).trans fg15_3
  have fg16_4 : g16 4 = 0 := by rw [← hhg16]; exact (pk_un (by decide)).trans fg15_4
  have fg16_5 : g16 5 = 0 := by rw [← hhg16]; exact (pk_un (by decide)).trans fg15_5
  have fg16_6 : g16 6 = 0 := by rw [← hhg16]; exact (pk_un (by decide)).trans fg15_6
  have fg16_7 : g16 7 = 0 := by rw [← hhg16]; exact (pk_un (by decide)).trans fg15_7
  have fg16_8 : g16 8 = 0 := by rw [← hhg16]; exact (pk_un (by decide)).trans fg15_8
  have fg16_9 : g16 9 = 0 := by rw [← hhg16]; exact (pk_un (by decide)).trans fg15_9
  have fg16_10 : g16 10 = 0 := by rw [← hhg16]; exact (pk_un (by decide)).trans fg15_10
  have fg16_11 : g16 11 = 0 := by rw [← hhg16]; exact (pk_un (by decide)).trans fg15_11
  have fg16_12 : g16 12 = 0 := by rw [← hhg16]; exact (pk_un (by decide)).trans fg15_12
  have fg16_13 : g16 13 = 0 := by rw [← hhg16]; exact (pk_un (by decide)).trans fg15_13
  have fg16_14 : g16 14 = 0 := by rw [← hhg16]; exact (pk_un (by decide)).trans fg15_14
  have fg16_15 : g16 15 = 0 := by rw [← hhg16]; exact pk_us
  have hP : va_P D vwCl [(a0, .inr (9, [v0_0, v0_1, v0_2, v0_3, v0_4, v0_5, v0_6, v0_7, v0_8, v0_9, v0_10, v0_11, v0_12, v0_13, v0_14, v0_15, v0_16, v0_17, v0_18, v0_19, v0_20, v0_21, v0_22, v0_23, v0_24, v0_25, v0_26, v0_27, v0_28, v0_29, v0_30, v0_31, v0_32, v0_33, v0_34, v0_35, v0_36, .ref a2, .ref a1, v0_39, v0_40, v0_41, v0_42, v0_43, v0_44, v0_45, v0_46, v0_47, v0_48, v0_49, v0_50, v0_51, v0_52, v0_53, v0_54, v0_55, v0_56, v0_57, v0_58, v0_59, v0_60, v0_61, v0_62, v0_63])), (a1, .inl (cy 0, 16, .inl zI)), (a2, .inl (cy 0, 16, .inl g16))] H := hP
  have hD : va_D A [(a0, .inr (9, [v0_0, v0_1, v0_2, v0_3, v0_4, v0_5, v0_6, v0_7, v0_8, v0_9, v0_10, v0_11, v0_12, v0_13, v0_14, v0_15, v0_16, v0_17, v0_18, v0_19, v0_20, v0_21, v0_22, v0_23, v0_24, v0_25, v0_26, v0_27, v0_28, v0_29, v0_30, v0_31, v0_32, v0_33, v0_34, v0_35, v0_36, .ref a2, .ref a1, v0_39, v0_40, v0_41, v0_42, v0_43, v0_44, v0_45, v0_46, v0_47, v0_48, v0_49, v0_50, v0_51, v0_52, v0_53, v0_54, v0_55, v0_56, v0_57, v0_58, v0_59, v0_60, v0_61, v0_62, v0_63])), (a1, .inl (cy 0, 16, .inl zI)), (a2, .inl (cy 0, 16, .inl g16))] := hD
  refine lv_iinc (v := 16) (lv' := [(1, .int 16), (0, .ref a0)]) hx hb dX9_bringBack_20 hl (k := 0) rfl (by decide) (by decide) rfl (fun ls hl => ?_)
  refine lv_goto (tgt := 2) hx hb dX9_bringBack_23 (by decide) ?_
  refine lv_iload_n hx hb dX9_bringBack_2 rfl (lv_at hl 0 rfl) ?_
  refine lv_bipush (v := 16) hx hb dX9_bringBack_3 (by decide) ?_
  refine lv_icmp_ge (tgt := 26) hx hb dX9_bringBack_5 (by decide) (fun _ => ?_) (fun c => absurd (by decide) c)
  exact rtV hx hb hr hlk hP hD hS (fun j => [g16].getD j zI) [0, 1, 2] rfl rfl trivial dX9_bringBack_26
