set_option maxHeartbeats 4000000 in
set_option maxRecDepth 100000 in
theorem k_X9_proof_0 (l : Launch) (D : va_G) (cy : Nat → ClassId) (a0 a1 : Nat) (v0_0 : Value) (v0_1 : Value) (v0_2 : Value) (v0_3 : Value) (v0_4 : Value) (v0_5 : Value) (v0_6 : Value) (v0_7 : Value) (v0_8 : Value) (v0_9 : Value) (v0_10 : Value) (v0_12 : Value) (v0_13 : Value) (v0_14 : Value) (v0_15 : Value) (v0_16 : Value) (v0_17 : Value) (v0_18 : Value) (v0_19 : Value) (v0_20 : Value) (v0_21 : Value) (v0_22 : Value) (v0_23 : Value) (v0_24 : Value) (v0_25 : Value) (v0_26 : Value) (v0_27 : Value) (v0_28 : Value) (v0_30 : Value) (v0_31 : Value) (v0_32 : Value) (v0_33 : Value) (v0_34 : Value) (v0_35 : Value) (v0_36 : Value) (v0_37 : Value) (v0_38 : Value) (v0_39 : Value) (v0_40 : Value) (v0_41 : Value) (v0_42 : Value) (v0_43 : Value) (v0_44 : Value) (v0_45 : Value) (v0_46 : Value) (v0_47 : Value) (v0_48 : Value) (v0_49 : Value) (v0_50 : Value) (v0_51 : Value) (v0_52 : Value) (v0_53 : Value) (v0_54 : Value) (v0_55 : Value) (v0_56 : Value) (v0_57 : Value) (v0_58 : Value) (v0_59 : Value) (v0_60 : Value) (v0_61 : Value) (v0_62 : Value) (v0_63 : Value) (p1 : Int32) (sz : Nat) : CtI l yX9_proof wsX9_proof 3 64 [.ref a0, .int p1] D cy [(a0, .inr (9, [v0_0, v0_1, v0_2, v0_3, v0_4, v0_5, v0_6, v0_7, v0_8, v0_9, v0_10, .ref a1, v0_12, v0_13, v0_14, v0_15, v0_16, v0_17, v0_18, v0_19, v0_20, v0_21, v0_22, v0_23, v0_24, v0_25, v0_26, v0_27, v0_28, .int 0, v0_30, v0_31, v0_32, v0_33, v0_34, v0_35, v0_36, v0_37, v0_38, v0_39, v0_40, v0_41, v0_42, v0_43, v0_44, v0_45, v0_46, v0_47, v0_48, v0_49, v0_50, v0_51, v0_52, v0_53, v0_54, v0_55, v0_56, v0_57, v0_58, v0_59, v0_60, v0_61, v0_62, v0_63])), (a1, .inl (cy 0, 2, .inl zI))] sz 0 0 (fun (r : Int32) (_ : Unit) => r = (-1)) (fun _ => []) := by
  refine CtI.of (cc := cX9_proof) (maxL := 6) (ty := .int) (own := RX9) (by decide) rfl (Nat.le_of_ble_eq_true rfl) rfl ?_
  intro p e s m below meth c A ls hx hb hr hml hts hown hlk hK hP hD hS hA hl
  have hl : lv_has ls 6 [(0, .ref a0), (1, .int p1)] := hl
  refine st0 (fun H locs hP hS => ?_) hP hS
  have hP : va_P D vwCl [(a0, .inr (9, [v0_0, v0_1, v0_2, v0_3, v0_4, v0_5, v0_6, v0_7, v0_8, v0_9, v0_10, .ref a1, v0_12, v0_13, v0_14, v0_15, v0_16, v0_17, v0_18, v0_19, v0_20, v0_21, v0_22, v0_23, v0_24, v0_25, v0_26, v0_27, v0_28, .int 0, v0_30, v0_31, v0_32, v0_33, v0_34, v0_35, v0_36, v0_37, v0_38, v0_39, v0_40, v0_41, v0_42, v0_43, v0_44, v0_45, v0_46, v0_47, v0_48, v0_49, v0_50, v0_51, v0_52, v0_53, v0_54, v0_55, v0_56, v0_57, v0_58, v0_59, v0_60, v0_61, v0_62, v0_63])), (a1, .inl (cy 0, 2, .inl zI))] H := hP
  have hD : va_D A [(a0, .inr (9, [v0_0, v0_1, v0_2, v0_3, v0_4, v0_5, v0_6, v0_7, v0_8, v0_9, v0_10, .ref a1, v0_12, v0_13, v0_14, v0_15, v0_16, v0_17, v0_18, v0_19, v0_20, v0_21, v0_22, v0_23, v0_24, v0_25, v0_26, v0_27, v0_28, .int 0, v0_30, v0_31, v0_32, v0_33, v0_34, v0_35, v0_36, v0_37, v0_38, v0_39, v0_40, v0_41, v0_42, v0_43, v0_44, v0_45, v0_46, v0_47, v0_48, v0_49, v0_50, v0_51, v0_52, v0_53, v0_54, v0_55, v0_56, v0_57, v0_58, v0_59, v0_60, v0_61, v0_62, v0_63])), (a1, .inl (cy 0, 2, .inl zI))] := hD
  refine lv_aload_n hx hb dX9_proof_0 rfl (lv_at hl 0 rfl) ?_
  refine lv_iconst (v := 0) hx hb dX9_proof_1 (by decide) ?_
  refine va_put (D := D) (cl := vwCl) (ci := 9) (v := .int 0) (ty := tyX9 48) (C := RX9) (T := TX9) (N := 64) hx hb hts in_X9_proof_X9 tyX9 tyX9_ok nmX9 hown hK hP hD hS 0 rfl rfl 48 (by decide) (hts (.fieldLink RX9 377 "EightReasonsModel" "laid" "I") (List.mem_of_getElem? (i := 1) (by decide +kernel))) (fun _ h9 => h9) rfl (tyX9_ok 48 (by decide)) rfl rfl (Nat.le_of_ble_eq_true rfl) dX9_proof_2 (fun H locs hP hD hS => ?_)
  have hP : va_P D vwCl [(a0, .inr (9, [v0_0, v0_1, v0_2, v0_3, v0_4, v0_5, v0_6, v0_7, v0_8, v0_9, v0_10, .ref a1, v0_12, v0_13, v0_14, v0_15, v0_16, v0_17, v0_18, v0_19, v0_20, v0_21, v0_22, v0_23, v0_24, v0_25, v0_26, v0_27, v0_28, .int 0, v0_30, v0_31, v0_32, v0_33, v0_34, v0_35, v0_36, v0_37, v0_38, v0_39, v0_40, v0_41, v0_42, v0_43, v0_44, v0_45, v0_46, v0_47, .int 0, v0_49, v0_50, v0_51, v0_52, v0_53, v0_54, v0_55, v0_56, v0_57, v0_58, v0_59, v0_60, v0_61, v0_62, v0_63])), (a1, .inl (cy 0, 2, .inl zI))] H := hP
  have hD : va_D A [(a0, .inr (9, [v0_0, v0_1, v0_2, v0_3, v0_4, v0_5, v0_6, v0_7, v0_8, v0_9, v0_10, .ref a1, v0_12, v0_13, v0_14, v0_15, v0_16, v0_17, v0_18, v0_19, v0_20, v0_21, v0_22, v0_23, v0_24, v0_25, v0_26, v0_27, v0_28, .int 0, v0_30, v0_31, v0_32, v0_33, v0_34, v0_35, v0_36, v0_37, v0_38, v0_39, v0_40, v0_41, v0_42, v0_43, v0_44, v0_45, v0_46, v0_47, .int 0, v0_49, v0_50, v0_51, v0_52, v0_53, v0_54, v0_55, v0_56, v0_57, v0_58, v0_59, v0_60, v0_61, v0_62, v0_63])), (a1, .inl (cy 0, 2, .inl zI))] := hD
  refine lv_aload_n hx hb dX9_proof_5 rfl (lv_at hl 0 rfl) ?_
  refine lv_iload_n hx hb dX9_proof_6 rfl (lv_at hl 1 rfl) ?_
  refine clVI (As := [.int p1]) (rest := []) (wr := []) ⟨hx, hb, hml, hown, hts⟩ hK hP hD hS hA (k_X9_isClaim_0 l D cy a0 a1 (v0_0) (v0_1) (v0_2) (v0_3) (v0_4) (v0_5) (v0_6) (v0_7) (v0_8) (v0_9) (v0_10) (v0_12) (v0_13) (v0_14) (v0_15) (v0_16) (v0_17) (v0_18) (v0_19) (v0_20) (v0_21) (v0_22) (v0_23) (v0_24) (v0_25) (v0_26) (v0_27) (v0_28) (v0_30) (v0_31) (v0_32) (v0_33) (v0_34) (v0_35) (v0_36) (v0_37) (v0_38) (v0_39) (v0_40) (v0_41) (v0_42) (v0_43) (v0_44) (v0_45) (v0_46) (v0_47) (.int 0) (v0_49) (v0_50) (v0_51) (v0_52) (v0_53) (v0_54) (v0_55) (v0_56) (v0_57) (v0_58) (v0_59) (v0_60) (v0_61) (v0_62) (v0_63) p1 _) (cwV 1 hts gX9_proof_X9_isClaim rfl rfl rfl (by decide +kernel) ⟨Nat.le_of_ble_eq_true rfl, Nat.le_of_ble_eq_true rfl⟩) 0 9 rfl rfl [0, 1] [] rfl rfl rfl rfl (by decide) rfl hl.1 rfl (Nat.le_of_ble_eq_true rfl) dX9_proof_7 ⟨Nat.le_of_ble_eq_true rfl, Nat.le_of_ble_eq_true rfl⟩ rfl rfl (fun r _ H locs hw hP hD hS => ?_)
  have hP : va_P D vwCl [(a0, .inr (9, [v0_0, v0_1, v0_2, v0_3, v0_4, v0_5, v0_6, v0_7, v0_8, v0_9, v0_10, .ref a1, v0_12, v0_13, v0_14, v0_15, v0_16, v0_17, v0_18, v0_19, v0_20, v0_21, v0_22, v0_23, v0_24, v0_25, v0_26, v0_27, v0_28, .int 0, v0_30, v0_31, v0_32, v0_33, v0_34, v0_35, v0_36, v0_37, v0_38, v0_39, v0_40, v0_41, v0_42, v0_43, v0_44, v0_45, v0_46, v0_47, .int 0, v0_49, v0_50, v0_51, v0_52, v0_53, v0_54, v0_55, v0_56, v0_57, v0_58, v0_59, v0_60, v0_61, v0_62, v0_63])), (a1, .inl (cy 0, 2, .inl zI))] H := hP
  have hD : va_D A [(a0, .inr (9, [v0_0, v0_1, v0_2, v0_3, v0_4, v0_5, v0_6, v0_7, v0_8, v0_9, v0_10, .ref a1, v0_12, v0_13, v0_14, v0_15, v0_16, v0_17, v0_18, v0_19, v0_20, v0_21, v0_22, v0_23, v0_24, v0_25, v0_26, v0_27, v0_28, .int 0, v0_30, v0_31, v0_32, v0_33, v0_34, v0_35, v0_36, v0_37, v0_38, v0_39, v0_40, v0_41, v0_42, v0_43, v0_44, v0_45, v0_46, v0_47, .int 0, v0_49, v0_50, v0_51, v0_52, v0_53, v0_54, v0_55, v0_56, v0_57, v0_58, v0_59, v0_60, v0_61, v0_62, v0_63])), (a1, .inl (cy 0, 2, .inl zI))] := hD
  obtain rfl : r = 0 := hw
  refine lv_if_ne (tgt := 15) hx hb dX9_proof_10 (by decide) (fun c => absurd (by decide) c) (fun _ => ?_)
  refine lv_iconst (v := (-1)) hx hb dX9_proof_13 (by decide) ?_
  exact rtI hx hb hr hlk rfl hP hD hS () [] rfl rfl rfl dX9_proof_14
set_option maxHeartbeats 4000000 in
set_option maxRecDepth 100000 in
theorem k_X8_counsels_0 (l : Launch) (D : va_G) (cy : Nat → ClassId) (a0 a1 : Nat) (v0_0 : Value) (v0_2 : Value) (v0_3 : Value) (v0_4 : Value) (v0_5 : Value) (v0_6 : Value) (v0_7 : Value) (v0_8 : Value) (v0_9 : Value) (v0_10 : Value) (v0_11 : Value) (v0_12 : Value) (v1_1 : Value) (v1_2 : Value) (v1_3 : Value) (v1_4 : Value) (v1_5 : Value) (v1_6 : Value) (v1_7 : Value) (v1_8 : Value) (v1_9 : Value) (v1_10 : Value) (v1_11 : Value) (p1 : Int32) (p2 : Int32) (sz : Nat) : CtI l yX8_counsels wsX8_counsels 2 42 [.ref a0, .int p1, .int p2] D cy [(a0, .inr (8, [v0_0, .ref a1, v0_2, v0_3, v0_4, v0_5, v0_6, v0_7, v0_8, v0_9, v0_10, v0_11, v0_12])), (a1, .inr (5, [.int 0, v1_1, v1_2, v1_3, v1_4, v1_5, v1_6, v1_7, v1_8, v1_9, v1_10, v1_11]))] sz 0 0 (fun (r : Int32) (_ : Unit) => r = (-1)) (fun _ => []) := by
  refine CtI.of (cc := cX8_counsels) (maxL := 7) (ty := .int) (own := RX8) (by decide) rfl (Nat.le_of_ble_eq_true rfl) rfl ?_
  intro p e s m below meth c A ls hx hb hr hml hts hown hlk hK hP hD hS hA hl
  have hl : lv_has ls 7 [(0, .ref a0), (1, .int p1), (2, .int p2)] := hl
  refine st0 (fun H locs hP hS => ?_) hP hS
  have hP : va_P D vwCl [(a0, .inr (8, [v0_0, .ref a1, v0_2, v0_3, v0_4, v0_5, v0_6, v0_7, v0_8, v0_9, v0_10, v0_11, v0_12])), (a1, .inr (5, [.int 0, v1_1, v1_2, v1_3, v1_4, v1_5, v1_6, v1_7, v1_8, v1_9, v1_10, v1_11]))] H := hP
  have hD : va_D A [(a0, .inr (8, [v0_0, .ref a1, v0_2, v0_3, v0_4, v0_5, v0_6, v0_7, v0_8, v0_9, v0_10, v0_11, v0_12])), (a1, .inr (5, [.int 0, v1_1, v1_2, v1_3, v1_4, v1_5, v1_6, v1_7, v1_8, v1_9, v1_10, v1_11]))] := hD
  refine lv_aload_n hx hb dX8_counsels_0 rfl (lv_at hl 0 rfl) ?_
  refine lv_iconst (v := 0) hx hb dX8_counsels_1 (by decide) ?_
  refine va_put (D := D) (cl := vwCl) (ci := 8) (v := .int 0) (ty := tyX8 9) (C := RX8) (T := TX8) (N := 13) hx hb hts in_X8_counsels_X8 tyX8 tyX8_ok nmX8 hown hK hP hD hS 0 rfl rfl 9 (by decide) (hts (.fieldLink RX8 102 "EightReasons" "lyingCount" "I") (List.mem_of_getElem? (i := 1) (by decide +kernel))) (fun _ h9 => h9) rfl (tyX8_ok 9 (by decide)) rfl rfl (Nat.le_of_ble_eq_true rfl) dX8_counsels_2 (fun H locs hP hD hS => ?_)
  have hP : va_P D vwCl [(a0, .inr (8, [v0_0, .ref a1, v0_2, v0_3, v0_4, v0_5, v0_6, v0_7, v0_8, .int 0, v0_10, v0_11, v0_12])), (a1, .inr (5, [.int 0, v1_1, v1_2, v1_3, v1_4, v1_5, v1_6, v1_7, v1_8, v1_9, v1_10, v1_11]))] H := hP
  have hD : va_D A [(a0, .inr (8, [v0_0, .ref a1, v0_2, v0_3, v0_4, v0_5, v0_6, v0_7, v0_8, .int 0, v0_10, v0_11, v0_12])), (a1, .inr (5, [.int 0, v1_1, v1_2, v1_3, v1_4, v1_5, v1_6, v1_7, v1_8, v1_9, v1_10, v1_11]))] := hD
  refine lv_iload_n hx hb dX8_counsels_5 rfl (lv_at hl 1 rfl) ?_
  refine lv_iload_n hx hb dX8_counsels_6 rfl (lv_at hl 2 rfl) ?_
  refine lv_icmp_eq (tgt := 42) hx hb dX8_counsels_7 (by decide) (fun c1 => ?_) (fun c1 => ?_)
  · refine lv_iconst (v := (-1)) hx hb dX8_counsels_42 (by decide) ?_
    exact rtI hx hb hr hlk rfl hP hD hS () [] rfl rfl rfl dX8_counsels_43
  · refine lv_aload_n hx hb dX8_counsels_10 rfl (lv_at hl 0 rfl) ?_
    refine va_get (D := D) (cl := vwCl) (ci := 8) (v := .ref a1) (C := RX8) (T := TX8) (N := 13) hx hb hts in_X8_counsels_X8 hown hK hP 0 rfl rfl 1 (by decide) (hts (.fieldLink RX8 19 "EightReasons" "told" "LEightReasons$Suit;") (List.mem_of_getElem? (i := 2) (by decide +kernel))) (fun _ h9 => h9) rfl dX8_counsels_11 ?_
    refine lv_iload_n hx hb dX8_counsels_14 rfl (lv_at hl 1 rfl) ?_
    refine clVI (As := [.int p1]) (rest := []) (wr := [(a0, .inr (8, [v0_0, .ref a1, v0_2, v0_3, v0_4, v0_5, v0_6, v0_7, v0_8, .int 0, v0_10, v0_11, v0_12]))]) ⟨hx, hb, hml, hown, hts⟩ hK hP hD hS hA (k_X5_isClaim_0 l D cy a1 (v1_1) (v1_2) (v1_3) (v1_4) (v1_5) (v1_6) (v1_7) (v1_8) (v1_9) (v1_10) (v1_11) p1 _) (cwV 1 hts gX8_counsels_X5_isClaim rfl rfl rfl (by decide +kernel) ⟨Nat.le_of_ble_eq_true rfl, Nat.le_of_ble_eq_true rfl⟩) 1 5 rfl rfl [1] [0] rfl rfl rfl rfl (by decide) rfl hl.1 rfl (Nat.le_of_ble_eq_true rfl) dX8_counsels_15 ⟨Nat.le_of_ble_eq_true rfl, Nat.le_of_ble_eq_true rfl⟩ rfl rfl (fun r _ H locs hw hP hD hS => ?_)
    have hP : va_P D vwCl [(a0, .inr (8, [v0_0, .ref a1, v0_2, v0_3, v0_4, v0_5, v0_6, v0_7, v0_8, .int 0, v0_10, v0_11, v0_12])), (a1, .inr (5, [.int 0, v1_1, v1_2, v1_3, v1_4, v1_5, v1_6, v1_7, v1_8, v1_9, v1_10, v1_11]))] H := hP
    have hD : va_D A [(a0, .inr (8, [v0_0, .ref a1, v0_2, v0_3, v0_4, v0_5, v0_6, v0_7, v0_8, .int 0, v0_10, v0_11, v0_12])), (a1, .inr (5, [.int 0, v1_1, v1_2, v1_3, v1_4, v1_5, v1_6, v1_7, v1_8, v1_9, v1_10, v1_11]))] := hD
    obtain rfl : r = 0 := hw
    refine lv_if_eq (tgt := 42) hx hb dX8_counsels_18 (by decide) (fun _ => ?_) (fun c => absurd (by decide) c)
    refine lv_iconst (v := (-1)) hx hb dX8_counsels_42 (by decide) ?_
    exact rtI hx hb hr hlk rfl hP hD hS () [] rfl rfl rfl dX8_counsels_43
set_option maxHeartbeats 4000000 in
set_option maxRecDepth 100000 in
theorem k_X9_counsels_0 (l : Launch) (D : va_G) (cy : Nat → ClassId) (a0 a1 : Nat) (v0_0 : Value) (v0_1 : Value) (v0_2 : Value) (v0_3 : Value) (v0_4 : Value) (v0_5 : Value) (v0_6 : Value) (v0_7 : Value) (v0_8 : Value) (v0_9 : Value) (v0_10 : Value) (v0_12 : Value) (v0_13 : Value) (v0_14 : Value) (v0_15 : Value) (v0_16 : Value) (v0_17 : Value) (v0_18 : Value) (v0_19 : Value) (v0_20 : Value) (v0_21 : Value) (v0_22 : Value) (v0_23 : Value) (v0_24 : Value) (v0_25 : Value) (v0_26 : Value) (v0_27 : Value) (v0_28 : Value) (v0_30 : Value) (v0_31 : Value) (v0_32 : Value) (v0_33 : Value) (v0_34 : Value) (v0_35 : Value) (v0_36 : Value) (v0_37 : Value) (v0_38 : Value) (v0_39 : Value) (v0_40 : Value) (v0_41 : Value) (v0_42 : Value) (v0_43 : Value) (v0_44 : Value) (v0_45 : Value) (v0_46 : Value) (v0_47 : Value) (v0_48 : Value) (v0_49 : Value) (v0_50 : Value) (v0_51 : Value) (v0_52 : Value) (v0_53 : Value) (v0_54 : Value) (v0_55 : Value) (v0_56 : Value) (v0_57 : Value) (v0_58 : Value) (v0_59 : Value) (v0_60 : Value) (v0_61 : Value) (v0_62 : Value) (v0_63 : Value) (p1 : Int32) (p2 : Int32) (sz : Nat) : CtI l yX9_counsels wsX9_counsels 3 64 [.ref a0, .int p1, .int p2] D cy [(a0, .inr (9, [v0_0, v0_1, v0_2, v0_3, v0_4, v0_5, v0_6, v0_7, v0_8, v0_9, v0_10, .ref a1, v0_12, v0_13, v0_14, v0_15, v0_16, v0_17, v0_18, v0_19, v0_20, v0_21, v0_22, v0_23, v0_24, v0_25, v0_26, v0_27, v0_28, .int 0, v0_30, v0_31, v0_32, v0_33, v0_34, v0_35, v0_36, v0_37, v0_38, v0_39, v0_40, v0_41, v0_42, v0_43, v0_44, v0_45, v0_46, v0_47, v0_48, v0_49, v0_50, v0_51, v0_52, v0_53, v0_54, v0_55, v0_56, v0_57, v0_58, v0_59, v0_60, v0_61, v0_62, v0_63])), (a1, .inl (cy 0, 2, .inl zI))] sz 0 0 (fun (r : Int32) (_ : Unit) => r = (-1)) (fun _ => []) := by
  refine CtI.of (cc := cX9_counsels) (maxL := 5) (ty := .int) (own := RX9) (by decide) rfl (Nat.le_of_ble_eq_true rfl) rfl ?_
  intro p e s m below meth c A ls hx hb hr hml hts hown hlk hK hP hD hS hA hl
  have hl : lv_has ls 5 [(0, .ref a0), (1, .int p1), (2, .int p2)] := hl
  refine st0 (fun H locs hP hS => ?_) hP hS
  have hP : va_P D vwCl [(a0, .inr (9, [v0_0, v0_1, v0_2, v0_3, v0_4, v0_5, v0_6, v0_7, v0_8, v0_9, v0_10, .ref a1, v0_12, v0_13, v0_14, v0_15, v0_16, v0_17, v0_18, v0_19, v0_20, v0_21, v0_22, v0_23, v0_24, v0_25, v0_26, v0_27, v0_28, .int 0, v0_30, v0_31, v0_32, v0_33, v0_34, v0_35, v0_36, v0_37, v0_38, v0_39, v0_40, v0_41, v0_42, v0_43, v0_44, v0_45, v0_46, v0_47, v0_48, v0_49, v0_50, v0_51, v0_52, v0_53, v0_54, v0_55, v0_56, v0_57, v0_58, v0_59, v0_60, v0_61, v0_62, v0_63])), (a1, .inl (cy 0, 2, .inl zI))] H := hP
  have hD : va_D A [(a0, .inr (9, [v0_0, v0_1, v0_2, v0_3, v0_4, v0_5, v0_6, v0_7, v0_8, v0_9, v0_10, .ref a1, v0_12, v0_13, v0_14, v0_15, v0_16, v0_17, v0_18, v0_19, v0_20, v0_21, v0_22, v0_23, v0_24, v0_25, v0_26, v0_27, v0_28, .int 0, v0_30, v0_31, v0_32, v0_33, v0_34, v0_35, v0_36, v0_37, v0_38, v0_39, v0_40, v0_41, v0_42, v0_43, v0_44, v0_45, v0_46, v0_47, v0_48, v0_49, v0_50, v0_51, v0_52, v0_53, v0_54, v0_55, v0_56, v0_57, v0_58, v0_59, v0_60, v0_61, v0_62, v0_63])), (a1, .inl (cy 0, 2, .inl zI))] := hD
  refine lv_aload_n hx hb dX9_counsels_0 rfl (lv_at hl 0 rfl) ?_
  refine lv_iconst (v := 0) hx hb dX9_counsels_1 (by decide) ?_
  refine va_put (D := D) (cl := vwCl) (ci := 9) (v := .int 0) (ty := tyX9 48) (C := RX9) (T := TX9) (N := 64) hx hb hts in_X9_counsels_X9 tyX9 tyX9_ok nmX9 hown hK hP hD hS 0 rfl rfl 48 (by decide) (hts (.fieldLink RX9 377 "EightReasonsModel" "laid" "I") (List.mem_of_getElem? (i := 1) (by decide +kernel))) (fun _ h9 => h9) rfl (tyX9_ok 48 (by decide)) rfl rfl (Nat.le_of_ble_eq_true rfl) dX9_counsels_2 (fun H locs hP hD hS => ?_)
  have hP : va_P D vwCl [(a0, .inr (9, [v0_0, v0_1, v0_2, v0_3, v0_4, v0_5, v0_6, v0_7, v0_8, v0_9, v0_10, .ref a1, v0_12, v0_13, v0_14, v0_15, v0_16, v0_17, v0_18, v0_19, v0_20, v0_21, v0_22, v0_23, v0_24, v0_25, v0_26, v0_27, v0_28, .int 0, v0_30, v0_31, v0_32, v0_33, v0_34, v0_35, v0_36, v0_37, v0_38, v0_39, v0_40, v0_41, v0_42, v0_43, v0_44, v0_45, v0_46, v0_47, .int 0, v0_49, v0_50, v0_51, v0_52, v0_53, v0_54, v0_55, v0_56, v0_57, v0_58, v0_59, v0_60, v0_61, v0_62, v0_63])), (a1, .inl (cy 0, 2, .inl zI))] H := hP
  have hD : va_D A [(a0, .inr (9, [v0_0, v0_1, v0_2, v0_3, v0_4, v0_5, v0_6, v0_7, v0_8, v0_9, v0_10, .ref a1, v0_12, v0_13, v0_14, v0_15, v0_16, v0_17, v0_18, v0_19, v0_20, v0_21, v0_22, v0_23, v0_24, v0_25, v0_26, v0_27, v0_28, .int 0, v0_30, v0_31, v0_32, v0_33, v0_34, v0_35, v0_36, v0_37, v0_38, v0_39, v0_40, v0_41, v0_42, v0_43, v0_44, v0_45, v0_46, v0_47, .int 0, v0_49, v0_50, v0_51, v0_52, v0_53, v0_54, v0_55, v0_56, v0_57, v0_58, v0_59, v0_60, v0_61, v0_62, v0_63])), (a1, .inl (cy 0, 2, .inl zI))] := hD
  refine lv_aload_n hx hb dX9_counsels_5 rfl (lv_at hl 0 rfl) ?_
  refine lv_iload_n hx hb dX9_counsels_6 rfl (lv_at hl 1 rfl) ?_
  refine clVI (As := [.int p1]) (rest := []) (wr := []) ⟨hx, hb, hml, hown, hts⟩ hK hP hD hS hA (k_X9_isClaim_0 l D cy a0 a1 (v0_0) (v0_1) (v0_2) (v0_3) (v0_4) (v0_5) (v0_6) (v0_7) (v0_8) (v0_9) (v0_10) (v0_12) (v0_13) (v0_14) (v0_15) (v0_16) (v0_17) (v0_18) (v0_19) (v0_20) (v0_21) (v0_22) (v0_23) (v0_24) (v0_25) (v0_26) (v0_27) (v0_28) (v0_30) (v0_31) (v0_32) (v0_33) (v0_34) (v0_35) (v0_36) (v0_37) (v0_38) (v0_39) (v0_40) (v0_41) (v0_42) (v0_43) (v0_44) (v0_45) (v0_46) (v0_47) (.int 0) (v0_49) (v0_50) (v0_51) (v0_52) (v0_53) (v0_54) (v0_55) (v0_56) (v0_57) (v0_58) (v0_59) (v0_60) (v0_61) (v0_62) (v0_63) p1 _) (cwV 1 hts gX9_counsels_X9_isClaim rfl rfl rfl (by decide +kernel) ⟨Nat.le_of_ble_eq_true rfl, Nat.le_of_ble_eq_true rfl⟩) 0 9 rfl rfl [0, 1] [] rfl rfl rfl rfl (by decide) rfl hl.1 rfl (Nat.le_of_ble_eq_true rfl) dX9_counsels_7 ⟨Nat.le_of_ble_eq_true rfl, Nat.le_of_ble_eq_true rfl⟩ rfl rfl (fun r _ H locs hw hP hD hS => ?_)
  have hP : va_P D vwCl [(a0, .inr (9, [v0_0, v0_1, v0_2, v0_3, v0_4, v0_5, v0_6, v0_7, v0_8, v0_9, v0_10, .ref a1, v0_12, v0_13, v0_14, v0_15, v0_16, v0_17, v0_18, v0_19, v0_20, v0_21, v0_22, v0_23, v0_24, v0_25, v0_26, v0_27, v0_28, .int 0, v0_30, v0_31, v0_32, v0_33, v0_34, v0_35, v0_36, v0_37, v0_38, v0_39, v0_40, v0_41, v0_42, v0_43, v0_44, v0_45, v0_46, v0_47, .int 0, v0_49, v0_50, v0_51, v0_52, v0_53, v0_54, v0_55, v0_56, v0_57, v0_58, v0_59, v0_60, v0_61, v0_62, v0_63])), (a1, .inl (cy 0, 2, .inl zI))] H := hP
  have hD : va_D A [(a0, .inr (9, [v0_0, v0_1, v0_2, v0_3, v0_4, v0_5, v0_6, v0_7, v0_8, v0_9, v0_10, .ref a1, v0_12, v0_13, v0_14, v0_15, v0_16, v0_17, v0_18, v0_19, v0_20, v0_21, v0_22, v0_23, v0_24, v0_25, v0_26, v0_27, v0_28, .int 0, v0_30, v0_31, v0_32, v0_33, v0_34, v0_35, v0_36, v0_37, v0_38, v0_39, v0_40, v0_41, v0_42, v0_43, v0_44, v0_45, v0_46, v0_47, .int 0, v0_49, v0_50, v0_51, v0_52, v0_53, v0_54, v0_55, v0_56, v0_57, v0_58, v0_59, v0_60, v0_61, v0_62, v0_63])), (a1, .inl (cy 0, 2, .inl zI))] := hD
  obtain rfl : r = 0 := hw
  refine lv_if_eq (tgt := 35) hx hb dX9_counsels_10 (by decide) (fun _ => ?_) (fun c => absurd (by decide) c)
  refine lv_iconst (v := (-1)) hx hb dX9_counsels_35 (by decide) ?_
  exact rtI hx hb hr hlk rfl hP hD hS () [] rfl rfl rfl dX9_counsels_36
set_option maxHeartbeats 4000000 in
set_option maxRecDepth 100000 in
theorem k_X8_path_0 (l : Launch) (D : va_G) (cy : Nat → ClassId) (a0 a1 : Nat) (v0_0 : Value) (v0_2 : Value) (v0_3 : Value) (v0_4 : Value) (v0_5 : Value) (v0_6 : Value) (v0_7 : Value) (v0_8 : Value) (v0_9 : Value) (v0_10 : Value) (v0_11 : Value) (v0_12 : Value) (v1_1 : Value) (v1_2 : Value) (v1_3 : Value) (v1_4 : Value) (v1_5 : Value) (v1_6 : Value) (v1_7 : Value) (v1_8 : Value) (v1_9 : Value) (v1_10 : Value) (v1_11 : Value) (p1 : Int32) (p2 : Int32) (sz : Nat) : CtI l yX8_path wsX8_path 1 21 [.ref a0, .int p1, .int p2] D cy [(a0, .inr (8, [v0_0, .ref a1, v0_2, v0_3, v0_4, v0_5, v0_6, v0_7, v0_8, v0_9, v0_10, v0_11, v0_12])), (a1, .inr (5, [.int 0, v1_1, v1_2, v1_3, v1_4, v1_5, v1_6, v1_7, v1_8, v1_9, v1_10, v1_11]))] sz 0 0 (fun (r : Int32) (_ : Unit) => r = (-1)) (fun _ => []) := by
  refine CtI.of (cc := cX8_path) (maxL := 5) (ty := .int) (own := RX8) (by decide) rfl (Nat.le_of_ble_eq_true rfl) rfl ?_
  intro p e s m below meth c A ls hx hb hr hml hts hown hlk hK hP hD hS hA hl
  have hl : lv_has ls 5 [(0, .ref a0), (1, .int p1), (2, .int p2)] := hl
  refine st0 (fun H locs hP hS => ?_) hP hS
  have hP : va_P D vwCl [(a0, .inr (8, [v0_0, .ref a1, v0_2, v0_3, v0_4, v0_5, v0_6, v0_7, v0_8, v0_9, v0_10, v0_11, v0_12])), (a1, .inr (5, [.int 0, v1_1, v1_2, v1_3, v1_4, v1_5, v1_6, v1_7, v1_8, v1_9, v1_10, v1_11]))] H := hP
  have hD : va_D A [(a0, .inr (8, [v0_0, .ref a1, v0_2, v0_3, v0_4, v0_5, v0_6, v0_7, v0_8, v0_9, v0_10, v0_11, v0_12])), (a1, .inr (5, [.int 0, v1_1, v1_2, v1_3, v1_4, v1_5, v1_6, v1_7, v1_8, v1_9, v1_10, v1_11]))] := hD
  refine lv_aload_n hx hb dX8_path_0 rfl (lv_at hl 0 rfl) ?_
  refine va_get (D := D) (cl := vwCl) (ci := 8) (v := .ref a1) (C := RX8) (T := TX8) (N := 13) hx hb hts in_X8_path_X8 hown hK hP 0 rfl rfl 1 (by decide) (hts (.fieldLink RX8 19 "EightReasons" "told" "LEightReasons$Suit;") (List.mem_of_getElem? (i := 1) (by decide +kernel))) (fun _ h9 => h9) rfl dX8_path_1 ?_
  refine lv_iload_n hx hb dX8_path_4 rfl (lv_at hl 1 rfl) ?_
  refine clVI (As := [.int p1]) (rest := []) (wr := [(a0, .inr (8, [v0_0, .ref a1, v0_2, v0_3, v0_4, v0_5, v0_6, v0_7, v0_8, v0_9, v0_10, v0_11, v0_12]))]) ⟨hx, hb, hml, hown, hts⟩ hK hP hD hS hA (k_X5_isPoint_0 l D cy a1 (v1_1) (v1_2) (v1_3) (v1_4) (v1_5) (v1_6) (v1_7) (v1_8) (v1_9) (v1_10) (v1_11) p1 _) (cwV 1 hts gX8_path_X5_isPoint rfl rfl rfl (by decide +kernel) ⟨Nat.le_of_ble_eq_true rfl, Nat.le_of_ble_eq_true rfl⟩) 1 5 rfl rfl [1] [0] rfl rfl rfl rfl (by decide) rfl hl.1 rfl (Nat.le_of_ble_eq_true rfl) dX8_path_5 ⟨Nat.le_of_ble_eq_true rfl, Nat.le_of_ble_eq_true rfl⟩ rfl rfl (fun r _ H locs hw hP hD hS => ?_)
  have hP : va_P D vwCl [(a0, .inr (8, [v0_0, .ref a1, v0_2, v0_3, v0_4, v0_5, v0_6, v0_7, v0_8, v0_9, v0_10, v0_11, v0_12])), (a1, .inr (5, [.int 0, v1_1, v1_2, v1_3, v1_4, v1_5, v1_6, v1_7, v1_8, v1_9, v1_10, v1_11]))] H := hP
  have hD : va_D A [(a0, .inr (8, [v0_0, .ref a1, v0_2, v0_3, v0_4, v0_5, v0_6, v0_7, v0_8, v0_9, v0_10, v0_11, v0_12])), (a1, .inr (5, [.int 0, v1_1, v1_2, v1_3, v1_4, v1_5, v1_6, v1_7, v1_8, v1_9, v1_10, v1_11]))] := hD
  obtain rfl : r = 0 := hw
  refine lv_if_eq (tgt := 22) hx hb dX8_path_8 (by decide) (fun _ => ?_) (fun c => absurd (by decide) c)
  refine lv_iconst (v := (-1)) hx hb dX8_path_22 (by decide) ?_
  exact rtI hx hb hr hlk rfl hP hD hS () [] rfl rfl rfl dX8_path_23
set_option maxHeartbeats 4000000 in
set_option maxRecDepth 100000 in
theorem k_X9_path_0 (l : Launch) (D : va_G) (cy : Nat → ClassId) (a0 a1 : Nat) (v0_0 : Value) (v0_1 : Value) (v0_2 : Value) (v0_3 : Value) (v0_4 : Value) (v0_5 : Value) (v0_6 : Value) (v0_7 : Value) (v0_8 : Value) (v0_9 : Value) (v0_10 : Value) (v0_12 : Value) (v0_13 : Value) (v0_14 : Value) (v0_15 : Value) (v0_16 : Value) (v0_17 : Value) (v0_18 : Value) (v0_19 : Value) (v0_20 : Value) (v0_21 : Value) (v0_22 : Value) (v0_23 : Value) (v0_24 : Value) (v0_25 : Value) (v0_26 : Value) (v0_27 : Value) (v0_28 : Value) (v0_30 : Value) (v0_31 : Value) (v0_32 : Value) (v0_33 : Value) (v0_34 : Value) (v0_35 : Value) (v0_36 : Value) (v0_37 : Value) (v0_38 : Value) (v0_39 : Value) (v0_40 : Value) (v0_41 : Value) (v0_42 : Value) (v0_43 : Value) (v0_44 : Value) (v0_45 : Value) (v0_46 : Value) (v0_47 : Value) (v0_48 : Value) (v0_49 : Value) (v0_50 : Value) (v0_51 : Value) (v0_52 : Value) (v0_53 : Value) (v0_54 : Value) (v0_55 : Value) (v0_56 : Value) (v0_57 : Value) (v0_58 : Value) (v0_59 : Value) (v0_60 : Value) (v0_61 : Value) (v0_62 : Value) (v0_63 : Value) (p1 : Int32) (p2 : Int32) (sz : Nat) : CtI l yX9_path wsX9_path 2 43 [.ref a0, .int p1, .int p2] D cy [(a0, .inr (9, [v0_0, v0_1, v0_2, v0_3, v0_4, v0_5, v0_6, v0_7, v0_8, v0_9, v0_10, .ref a1, v0_12, v0_13, v0_14, v0_15, v0_16, v0_17, v0_18, v0_19, v0_20, v0_21, v0_22, v0_23, v0_24, v0_25, v0_26, v0_27, v0_28, .int 0, v0_30, v0_31, v0_32, v0_33, v0_34, v0_35, v0_36, v0_37, v0_38, v0_39, v0_40, v0_41, v0_42, v0_43, v0_44, v0_45, v0_46, v0_47, v0_48, v0_49, v0_50, v0_51, v0_52, v0_53, v0_54, v0_55, v0_56, v0_57, v0_58, v0_59, v0_60, v0_61, v0_62, v0_63])), (a1, .inl (cy 0, 2, .inl zI))] sz 0 0 (fun (r : Int32) (_ : Unit) => r = (-1)) (fun _ => []) := by
  refine CtI.of (cc := cX9_path) (maxL := 5) (ty := .int) (own := RX9) (by decide) rfl (Nat.le_of_ble_eq_true rfl) rfl ?_
  intro p e s m below meth c A ls hx hb hr hml hts hown hlk hK hP hD hS hA hl
  have hl : lv_has ls 5 [(0, .ref a0), (1, .int p1), (2, .int p2)] := hl
  refine st0 (fun H locs hP hS => ?_) hP hS
  have hP : va_P D vwCl [(a0, .inr (9, [v0_0, v0_1, v0_2, v0_3, v0_4, v0_5, v0_6, v0_7, v0_8, v0_9, v0_10, .ref a1, v0_12, v0_13, v0_14, v0_15, v0_16, v0_17, v0_18, v0_19, v0_20, v0_21, v0_22, v0_23, v0_24, v0_25, v0_26, v0_27, v0_28, .int 0, v0_30, v0_31, v0_32, v0_33, v0_34, v0_35, v0_36, v0_37, v0_38, v0_39, v0_40, v0_41, v0_42, v0_43, v0_44, v0_45, v0_46, v0_47, v0_48, v0_49, v0_50, v0_51, v0_52, v0_53, v0_54, v0_55, v0_56, v0_57, v0_58, v0_59, v0_60, v0_61, v0_62, v0_63])), (a1, .inl (cy 0, 2, .inl zI))] H := hP
  have hD : va_D A [(a0, .inr (9, [v0_0, v0_1, v0_2, v0_3, v0_4, v0_5, v0_6, v0_7, v0_8, v0_9, v0_10, .ref a1, v0_12, v0_13, v0_14, v0_15, v0_16, v0_17, v0_18, v0_19, v0_20, v0_21, v0_22, v0_23, v0_24, v0_25, v0_26, v0_27, v0_28, .int 0, v0_30, v0_31, v0_32, v0_33, v0_34, v0_35, v0_36, v0_37, v0_38, v0_39, v0_40, v0_41, v0_42, v0_43, v0_44, v0_45, v0_46, v0_47, v0_48, v0_49, v0_50, v0_51, v0_52, v0_53, v0_54, v0_55, v0_56, v0_57, v0_58, v0_59, v0_60, v0_61, v0_62, v0_63])), (a1, .inl (cy 0, 2, .inl zI))] := hD
  refine lv_aload_n hx hb dX9_path_0 rfl (lv_at hl 0 rfl) ?_
  refine lv_iload_n hx hb dX9_path_1 rfl (lv_at hl 1 rfl) ?_
  refine clVI (As := [.int p1]) (rest := []) (wr := []) ⟨hx, hb, hml, hown, hts⟩ hK hP hD hS hA (k_X9_isPoint_0 l D cy a0 a1 (v0_0) (v0_1) (v0_2) (v0_3) (v0_4) (v0_5) (v0_6) (v0_7) (v0_8) (v0_9) (v0_10) (v0_12) (v0_13) (v0_14) (v0_15) (v0_16) (v0_17) (v0_18) (v0_19) (v0_20) (v0_21) (v0_22) (v0_23) (v0_24) (v0_25) (v0_26) (v0_27) (v0_28) (v0_30) (v0_31) (v0_32) (v0_33) (v0_34) (v0_35) (v0_36) (v0_37) (v0_38) (v0_39) (v0_40) (v0_41) (v0_42) (v0_43) (v0_44) (v0_45) (v0_46) (v0_47) (v0_48) (v0_49) (v0_50) (v0_51) (v0_52) (v0_53) (v0_54) (v0_55) (v0_56) (v0_57) (v0_58) (v0_59) (v0_60) (v0_61) (v0_62) (v0_63) p1 _) (cwV 1 hts gX9_path_X9_isPoint rfl rfl rfl (by decide +kernel) ⟨Nat.le_of_ble_eq_true rfl, Nat.le_of_ble_eq_true rfl⟩) 0 9 rfl rfl [0, 1] [] rfl rfl rfl rfl (by decide) rfl hl.1 rfl (Nat.le_of_ble_eq_true rfl) dX9_path_2 ⟨Nat.le_of_ble_eq_true rfl, Nat.le_of_ble_eq_true rfl⟩ rfl rfl (fun r _ H locs hw hP hD hS => ?_)
  have hP : va_P D vwCl [(a0, .inr (9, [v0_0, v0_1, v0_2, v0_3, v0_4, v0_5, v0_6, v0_7, v0_8, v0_9, v0_10, .ref a1, v0_12, v0_13, v0_14, v0_15, v0_16, v0_17, v0_18, v0_19, v0_20, v0_21, v0_22, v0_23, v0_24, v0_25, v0_26, v0_27, v0_28, .int 0, v0_30, v0_31, v0_32, v0_33, v0_34, v0_35, v0_36, v0_37, v0_38, v0_39, v0_40, v0_41, v0_42, v0_43, v0_44, v0_45, v0_46, v0_47, v0_48, v0_49, v0_50, v0_51, v0_52, v0_53, v0_54, v0_55, v0_56, v0_57, v0_58, v0_59, v0_60, v0_61, v0_62, v0_63])), (a1, .inl (cy 0, 2, .inl zI))] H := hP
  have hD : va_D A [(a0, .inr (9, [v0_0, v0_1, v0_2, v0_3, v0_4, v0_5, v0_6, v0_7, v0_8, v0_9, v0_10, .ref a1, v0_12, v0_13, v0_14, v0_15, v0_16, v0_17, v0_18, v0_19, v0_20, v0_21, v0_22, v0_23, v0_24, v0_25, v0_26, v0_27, v0_28, .int 0, v0_30, v0_31, v0_32, v0_33, v0_34, v0_35, v0_36, v0_37, v0_38, v0_39, v0_40, v0_41, v0_42, v0_43, v0_44, v0_45, v0_46, v0_47, v0_48, v0_49, v0_50, v0_51, v0_52, v0_53, v0_54, v0_55, v0_56, v0_57, v0_58, v0_59, v0_60, v0_61, v0_62, v0_63])), (a1, .inl (cy 0, 2, .inl zI))] := hD
  obtain rfl : r = 0 := hw
  refine lv_if_eq (tgt := 16) hx hb dX9_path_5 (by decide) (fun _ => ?_) (fun c => absurd (by decide) c)
  refine lv_iconst (v := (-1)) hx hb dX9_path_16 (by decide) ?_
  exact rtI hx hb hr hlk rfl hP hD hS () [] rfl rfl rfl dX9_path_17
set_option maxHeartbeats 4000000 in
set_option maxRecDepth 100000 in
theorem k_X2_weaken_0 (l : Launch) (D : va_G) (cy : Nat → ClassId) (a0 a1 : Nat) (v0_0 : Value) (v0_1 : Value) (v0_2 : Value) (v0_3 : Value) (v0_4 : Value) (v0_5 : Value) (v0_7 : Value) (v0_8 : Value) (p1 : Int32) (sz : Nat) : CtV l yX2_weaken wsX2_weaken 1 40 [.ref a0, .int p1] D cy [(a0, .inr (2, [v0_0, v0_1, v0_2, v0_3, v0_4, v0_5, .ref a1, v0_7, v0_8, .int 1])), (a1, .inl (cy 0, 12, .inl zI))] sz 0 0 (fun (_ : Nat → Nat → Int32) => True) (fun u => [(a0, .inr (2, [v0_0, v0_1, v0_2, v0_3, v0_4, v0_5, .ref a1, v0_7, v0_8, .int 2])), (a1, .inl (cy 0, 12, .inl (u 0)))]) := by
  refine CtV.of (cc := cX2_weaken) (maxL := 3) (own := RX2) (by decide) rfl (Nat.le_of_ble_eq_true rfl) rfl ?_
  intro p e s m below meth c A ls hx hb hr hml hts hown hlk hK hP hD hS hA hl
  have hl : lv_has ls 3 [(0, .ref a0), (1, .int p1)] := hl
  refine st0 (fun H locs hP hS => ?_) hP hS
  have hP : va_P D vwCl [(a0, .inr (2, [v0_0, v0_1, v0_2, v0_3, v0_4, v0_5, .ref a1, v0_7, v0_8, .int 1])), (a1, .inl (cy 0, 12, .inl zI))] H := hP
  have hD : va_D A [(a0, .inr (2, [v0_0, v0_1, v0_2, v0_3, v0_4, v0_5, .ref a1, v0_7, v0_8, .int 1])), (a1, .inl (cy 0, 12, .inl zI))] := hD
  refine lv_iconst (v := 0) hx hb dX2_weaken_0 (by decide) ?_
  refine lv_istore_n (lv' := [(2, .int 0), (0, .ref a0), (1, .int p1)]) hx hb dX2_weaken_1 rfl hl (by decide) rfl (fun ls hl => ?_)
  refine lv_iload_n hx hb dX2_weaken_2 rfl (lv_at hl 0 rfl) ?_
  refine lv_bipush (v := 12) hx hb dX2_weaken_3 (by decide) ?_
  refine lv_icmp_ge (tgt := 32) hx hb dX2_weaken_5 (by decide) (fun c => absurd c (by decide)) (fun _ => ?_)
  refine lv_aload_n hx hb dX2_weaken_8 rfl (lv_at hl 1 rfl) ?_
  refine va_get (D := D) (cl := vwCl) (ci := 2) (v := .ref a1) (C := RX2) (T := TX2) (N := 10) hx hb hts in_X2_weaken_X2 hown hK hP 0 rfl rfl 6 (by decide) (hts (.fieldLink RX2 28 "EightReasons$Loom" "strong" "[I") (List.mem_of_getElem? (i := 1) (by decide +kernel))) (fun _ h9 => h9) rfl dX2_weaken_9 ?_
  refine lv_iload_n hx hb dX2_weaken_12 rfl (lv_at hl 0 rfl) ?_
  refine lv_iconst (v := 0) hx hb dX2_weaken_13 (by decide) ?_
  refine lv_aload_n hx hb dX2_weaken_14 rfl (lv_at hl 1 rfl) ?_
  refine va_get (D := D) (cl := vwCl) (ci := 2) (v := .ref a1) (C := RX2) (T := TX2) (N := 10) hx hb hts in_X2_weaken_X2 hown hK hP 0 rfl rfl 6 (by decide) (hts (.fieldLink RX2 28 "EightReasons$Loom" "strong" "[I") (List.mem_of_getElem? (i := 1) (by decide +kernel))) (fun _ h9 => h9) rfl dX2_weaken_15 ?_
  refine lv_iload_n hx hb dX2_weaken_18 rfl (lv_at hl 0 rfl) ?_
  refine va_iald hx hb hK hP 1 0 rfl rfl (vin (by decide)) dX2_weaken_19 (tpi (v := 0) rfl ?_)
  refine lv_iload_n hx hb dX2_weaken_20 rfl (lv_at hl 2 rfl) ?_
  refine lv_isub hx hb dX2_weaken_21 ?_
  refine va_mmax hx hb (hml.trans hl.1.symm) hown (hts (.methodLink RX2 68 Lib.Math.max.name) (List.mem_of_getElem? (i := 2) (by decide +kernel))) (hts (.static Lib.Math.max.name) (List.mem_of_getElem? (i := 3) (by decide +kernel))) (hts (.initialized "java/lang/Math") (List.mem_of_getElem? (i := 4) (by decide +kernel))) (hts (.code Lib.Math.max.name Lib.Math.max.code 2 (some .int)) (List.mem_of_getElem? (i := 5) (by decide +kernel))) (Nat.le_of_ble_eq_true rfl) (Nat.le_of_ble_eq_true rfl) (Nat.le_of_ble_eq_true rfl) (Nat.le_of_ble_eq_true rfl) dX2_weaken_22 ?_
  refine va_iast hx hb hK hP hD hS 1 0 rfl rfl (vin (by decide)) dX2_weaken_25 (fun H locs hP hD hS => ?_)
  generalize hhg1 : upd zI (Int32.toNatClampNeg 0) (if (0 : Int32) < ((0 : Int32) - p1) then ((0 : Int32) - p1) else 0) = g1 at hP hD
  have fg1_1 : g1 1 = 0 := by rw [← hhg1]; exact (pk_un (by decide)).trans (rfl : zI 1 = 0)
  have fg1_2 : g1 2 = 0 := by rw [← hhg1]; exact (pk_un (by decide)).trans (rfl : zI 2 = 0)
  have fg1_3 : g1 3 = 0 := by rw [← hhg1]; exact (pk_un (by decide)).trans (rfl : zI 3 = 0)
  have fg1_4 : g1 4 = 0 := by rw [← hhg1]; exact (pk_un (by decide)).trans (rfl : zI 4 = 0)
  have fg1_5 : g1 5 = 0 := by rw [← hhg1]; exact (pk_un (by decide)).trans (rfl : zI 5 = 0)
  have fg1_6 : g1 6 = 0 := by rw [← hhg1]; exact (pk_un (by decide)).trans (rfl : zI 6 = 0)
  have fg1_7 : g1 7 = 0 := by rw [← hhg1]; exact (pk_un (by decide)).trans (rfl : zI 7 = 0)
  have fg1_8 : g1 8 = 0 := by rw [← hhg1]; exact (pk_un (by decide)).trans (rfl : zI 8 = 0)
  have fg1_9 : g1 9 = 0 := by rw [← hhg1]; exact (pk_un (by decide)).trans (rfl : zI 9 = 0)
  have fg1_10 : g1 10 = 0 := by rw [← hhg1]; exact (pk_un (by decide)).trans (rfl : zI 10 = 0)
  have fg1_11 : g1 11 = 0 := by rw [← hhg1]; exact (pk_un (by decide)).trans (rfl : zI 11 = 0)
  have fg1_0 : g1 0 = (if (0 : Int32) < ((0 : Int32) - p1) then ((0 : Int32) - p1) else 0) := by rw [← hhg1]; exact pk_us
  have hP : va_P D vwCl [(a0, .inr (2, [v0_0, v0_1, v0_2, v0_3, v0_4, v0_5, .ref a1, v0_7, v0_8, .int 1])), (a1, .inl (cy 0, 12, .inl g1))] H := hP
  have hD : va_D A [(a0, .inr (2, [v0_0, v0_1, v0_2, v0_3, v0_4, v0_5, .ref a1, v0_7, v0_8, .int 1])), (a1, .inl (cy 0, 12, .inl g1))] := hD
  refine lv_iinc (v := 1) (lv' := [(2, .int 1), (0, .ref a0), (1, .int p1)]) hx hb dX2_weaken_26 hl (k := 0) rfl (by decide) (by decide) rfl (fun ls hl => ?_)
  refine lv_goto (tgt := 2) hx hb dX2_weaken_29 (by decide) ?_
  refine lv_iload_n hx hb dX2_weaken_2 rfl (lv_at hl 0 rfl) ?_
  refine lv_bipush (v := 12) hx hb dX2_weaken_3 (by decide) ?_
  refine lv_icmp_ge (tgt := 32) hx hb dX2_weaken_5 (by decide) (fun c => absurd c (by decide)) (fun _ => ?_)
  refine lv_aload_n hx hb dX2_weaken_8 rfl (lv_at hl 1 rfl) ?_
  refine va_get (D := D) (cl := vwCl) (ci := 2) (v := .ref a1) (C := RX2) (T := TX2) (N := 10) hx hb hts in_X2_weaken_X2 hown hK hP 0 rfl rfl 6 (by decide) (hts (.fieldLink RX2 28 "EightReasons$Loom" "strong" "[I") (List.mem_of_getElem? (i := 1) (by decide +kernel))) (fun _ h9 => h9) rfl dX2_weaken_9 ?_
  refine lv_iload_n hx hb dX2_weaken_12 rfl (lv_at hl 0 rfl) ?_
  refine lv_iconst (v := 0) hx hb dX2_weaken_13 (by decide) ?_
  refine lv_aload_n hx hb dX2_weaken_14 rfl (lv_at hl 1 rfl) ?_
  refine va_get (D := D) (cl := vwCl) (ci := 2) (v := .ref a1) (C := RX2) (T := TX2) (N := 10) hx hb hts in_X2_weaken_X2 hown hK hP 0 rfl rfl 6 (by decide) (hts (.fieldLink RX2 28 "EightReasons$Loom" "strong" "[I") (List.mem_of_getElem? (i := 1) (by decide +kernel))) (fun _ h9 => h9) rfl dX2_weaken_15 ?_
  refine lv_iload_n hx hb dX2_weaken_18 rfl (lv_at hl 0 rfl) ?_
  refine va_iald hx hb hK hP 1 0 rfl rfl (vin (by decide)) dX2_weaken_19 (tpi (v := 0) fg1_1 ?_)
  refine lv_iload_n hx hb dX2_weaken_20 rfl (lv_at hl 2 rfl) ?_
  refine lv_isub hx hb dX2_weaken_21 ?_
  refine va_mmax hx hb (hml.trans hl.1.symm) hown (hts (.methodLink RX2 68 Lib.Math.max.name) (List.mem_of_getElem? (i := 2) (by decide +kernel))) (hts (.static Lib.Math.max.name) (List.mem_of_getElem? (i := 3) (by decide +kernel))) (hts (.initialized "java/lang/Math") (List.mem_of_getElem? (i := 4) (by decide +kernel))) (hts (.code Lib.Math.max.name Lib.Math.max.code 2 (some .int)) (List.mem_of_getElem? (i := 5) (by decide +kernel))) (Nat.le_of_ble_eq_true rfl) (Nat.le_of_ble_eq_true rfl) (Nat.le_of_ble_eq_true rfl) (Nat.le_of_ble_eq_true rfl) dX2_weaken_22 ?_
  refine va_iast hx hb hK hP hD hS 1 0 rfl rfl (vin (by decide)) dX2_weaken_25 (fun H locs hP hD hS => ?_)
  generalize hhg2 : upd g1 (Int32.toNatClampNeg 1) (if (0 : Int32) < ((0 : Int32) - p1) then ((0 : Int32) - p1) else 0) = g2 at hP hD
  have fg2_0 : g2 0 = (if (0 : Int32) < ((0 : Int32) - p1) then ((0 : Int32) - p1) else 0) := by rw [← hhg2]; exact (pk_un (by decide)).trans fg1_0
  have fg2_2 : g2 2 = 0 := by rw [← hhg2]; exact (pk_un (by decide)).trans fg1_2
  have fg2_3 : g2 3 = 0 := by rw [← hhg2]; exact (pk_un (by decide)).trans fg1_3
  have fg2_4 : g2 4 = 0 := by rw [← hhg2]; exact (pk_un (by decide)).trans fg1_4
  have fg2_5 : g2 5 = 0 := by rw [← hhg2]; exact (pk_un (by decide)).trans fg1_5
  have fg2_6 : g2 6 = 0 := by rw [← hhg2]; exact (pk_un (by decide)).trans fg1_6
  have fg2_7 : g2 7 = 0 := by rw [← hhg2]; exact (pk_un (by decide)).trans fg1_7
  have fg2_8 : g2 8 = 0 := by rw [← hhg2]; exact (pk_un (by decide)).trans fg1_8
  have fg2_9 : g2 9 = 0 := by rw [← hhg2]; exact (pk_un (by decide)).trans fg1_9
  have fg2_10 : g2 10 = 0 := by rw [← hhg2]; exact (pk_un (by decide)).trans fg1_10
  have fg2_11 : g2 11 = 0 := by rw [← hhg2]; exact (pk_un (by decide)).trans fg1_11
  have fg2_1 : g2 1 = (if (0 : Int32) < ((0 : Int32) - p1) then ((0 : Int32) - p1) else 0) := by rw [← hhg2]; exact pk_us
  have hP : va_P D vwCl [(a0, .inr (2, [v0_0, v0_1, v0_2, v0_3, v0_4, v0_5, .ref a1, v0_7, v0_8, .int 1])), (a1, .inl (cy 0, 12, .inl g2))] H := hP
  have hD : va_D A [(a0, .inr (2, [v0_0, v0_1, v0_2, v0_3, v0_4, v0_5, .ref a1, v0_7, v0_8, .int 1])), (a1, .inl (cy 0, 12, .inl g2))] := hD
  refine lv_iinc (v := 2) (lv' := [(2, .int 2), (0, .ref a0), (1, .int p1)]) hx hb dX2_weaken_26 hl (k := 0) rfl (by decide) (by decide) rfl (fun ls hl => ?_)
  refine lv_goto (tgt := 2) hx hb dX2_weaken_29 (by decide) ?_
  refine lv_iload_n hx hb dX2_weaken_2 rfl (lv_at hl 0 rfl) ?_
  refine lv_bipush (v := 12) hx hb dX2_weaken_3 (by decide) ?_
  refine lv_icmp_ge (tgt := 32) hx hb dX2_weaken_5 (by decide) (fun c => absurd c (by decide)) (fun _ => ?_)
  refine lv_aload_n hx hb dX2_weaken_8 rfl (lv_at hl 1 rfl) ?_
  refine va_get (D := D) (cl := vwCl) (ci := 2) (v := .ref a1) (C := RX2) (T := TX2) (N := 10) hx hb hts in_X2_weaken_X2 hown hK hP 0 rfl rfl 6 (by decide) (hts (.fieldLink RX2 28 "EightReasons$Loom" "strong" "[I") (List.mem_of_getElem? (i := 1) (by decide +kernel))) (fun _ h9 => h9) rfl dX2_weaken_9 ?_
  refine lv_iload_n hx hb dX2_weaken_12 rfl (lv_at hl 0 rfl) ?_
  refine lv_iconst (v := 0) hx hb dX2_weaken_13 (by decide) ?_
  refine lv_aload_n hx hb dX2_weaken_14 rfl (lv_at hl 1 rfl) ?_
  refine va_get (D := D) (cl := vwCl) (ci := 2) (v := .ref a1) (C := RX2) (T := TX2) (N := 10) hx hb hts in_X2_weaken_X2 hown hK hP 0 rfl rfl 6 (by decide) (hts (.fieldLink RX2 28 "EightReasons$Loom" "strong" "[I") (List.mem_of_getElem? (i := 1) (by decide +kernel))) (fun _ h9 => h9) rfl dX2_weaken_15 ?_
  refine lv_iload_n hx hb dX2_weaken_18 rfl (lv_at hl 0 rfl) ?_
  refine va_iald hx hb hK hP 1 0 rfl rfl (vin (by decide)) dX2_weaken_19 (tpi (v := 0) fg2_2 ?_)
  refine lv_iload_n hx hb dX2_weaken_20 rfl (lv_at hl 2 rfl) ?_
  refine lv_isub hx hb dX2_weaken_21 ?_
  refine va_mmax hx hb (hml.trans hl.1.symm) hown (hts (.methodLink RX2 68 Lib.Math.max.name) (List.mem_of_getElem? (i := 2) (by decide +kernel))) (hts (.static Lib.Math.max.name) (List.mem_of_getElem? (i := 3) (by decide +kernel))) (hts (.initialized "java/lang/Math") (List.mem_of_getElem? (i := 4) (by decide +kernel))) (hts (.code Lib.Math.max.name Lib.Math.max.code 2 (some .int)) (List.mem_of_getElem? (i := 5) (by decide +kernel))) (Nat.le_of_ble_eq_true rfl) (Nat.le_of_ble_eq_true rfl) (Nat.le_of_ble_eq_true rfl) (Nat.le_of_ble_eq_true rfl) dX2_weaken_22 ?_
  refine va_iast hx hb hK hP hD hS 1 0 rfl rfl (vin (by decide)) dX2_weaken_25 (fun H locs hP hD hS => ?_)
  generalize hhg3 : upd g2 (Int32.toNatClampNeg 2) (if (0 : Int32) < ((0 : Int32) - p1) then ((0 : Int32) - p1) else 0) = g3 at hP hD
  have fg3_0 : g3 0 = (if (0 : Int32) < ((0 : Int32) - p1) then ((0 : Int32) - p1) else 0) := by rw [← hhg3]; exact (pk_un (by decide)).trans fg2_0
  have fg3_1 : g3 1 = (if (0 : Int32) < ((0 : Int32) - p1) then ((0 : Int32) - p1) else 0) := by rw [← hhg3]; exact (pk_un (by decide)).trans fg2_1
  have fg3_3 : g3 3 = 0 := by rw [← hhg3]; exact (pk_un (by decide)).trans fg2_3
  have fg3_4 : g3 4 = 0 := by rw [← hhg3]; exact (pk_un (by decide)).trans fg2_4
  have fg3_5 : g3 5 = 0 := by rw [← hhg3]; exact (pk_un (by decide)).trans fg2_5
  have fg3_6 : g3 6 = 0 := by rw [← hhg3]; exact (pk_un (by decide)).trans fg2_6
  have fg3_7 : g3 7 = 0 := by rw [← hhg3]; exact (pk_un (by decide)).trans fg2_7
  have fg3_8 : g3 8 = 0 := by rw [← hhg3]; exact (pk_un (by decide)).trans fg2_8
  have fg3_9 : g3 9 = 0 := by rw [← hhg3]; exact (pk_un (by decide)).trans fg2_9
  have fg3_10 : g3 10 = 0 := by rw [← hhg3]; exact (pk_un (by decide)).trans fg2_10
  have fg3_11 : g3 11 = 0 := by rw [← hhg3]; exact (pk_un (by decide)).trans fg2_11
  have fg3_2 : g3 2 = (if (0 : Int32) < ((0 : Int32) - p1) then ((0 : Int32) - p1) else 0) := by rw [← hhg3]; exact pk_us
  have hP : va_P D vwCl [(a0, .inr (2, [v0_0, v0_1, v0_2, v0_3, v0_4, v0_5, .ref a1, v0_7, v0_8, .int 1])), (a1, .inl (cy 0, 12, .inl g3))] H := hP
  have hD : va_D A [(a0, .inr (2, [v0_0, v0_1, v0_2, v0_3, v0_4, v0_5, .ref a1, v0_7, v0_8, .int 1])), (a1, .inl (cy 0, 12, .inl g3))] := hD
  refine lv_iinc (v := 3) (lv' := [(2, .int 3), (0, .ref a0), (1, .int p1)]) hx hb dX2_weaken_26 hl (k := 0) rfl (by decide) (by decide) rfl (fun ls hl => ?_)
  refine lv_goto (tgt := 2) hx hb dX2_weaken_29 (by decide) ?_
  refine lv_iload_n hx hb dX2_weaken_2 rfl (lv_at hl 0 rfl) ?_
  refine lv_bipush (v := 12) hx hb dX2_weaken_3 (by decide) ?_
  refine lv_icmp_ge (tgt := 32) hx hb dX2_weaken_5 (by decide) (fun c => absurd c (by decide)) (fun _ => ?_)
  refine lv_aload_n hx hb dX2_weaken_8 rfl (lv_at hl 1 rfl) ?_
  refine va_get (D := D) (cl := vwCl) (ci := 2) (v := .ref a1) (C := RX2) (T := TX2) (N := 10) hx hb hts in_X2_weaken_X2 hown hK hP 0 rfl rfl 6 (by decide) (hts (.fieldLink RX2 28 "EightReasons$Loom" "strong" "[I") (List.mem_of_getElem? (i := 1) (by decide +kernel))) (fun _ h9 => h9) rfl dX2_weaken_9 ?_
  refine lv_iload_n hx hb dX2_weaken_12 rfl (lv_at hl 0 rfl) ?_
  refine lv_iconst (v := 0) hx hb dX2_weaken_13 (by decide) ?_
  refine lv_aload_n hx hb dX2_weaken_14 rfl (lv_at hl 1 rfl) ?_
  refine va_get (D := D) (cl := vwCl) (ci := 2) (v := .ref a1) (C := RX2) (T := TX2) (N := 10) hx hb hts in_X2_weaken_X2 hown hK hP 0 rfl rfl 6 (by decide) (hts (.fieldLink RX2 28 "EightReasons$Loom" "strong" "[I") (List.mem_of_getElem? (i := 1) (by decide +kernel))) (fun _ h9 => h9) rfl dX2_weaken_15 ?_
  refine lv_iload_n hx hb dX2_weaken_18 rfl (lv_at hl 0 rfl) ?_
  refine va_iald hx hb hK hP 1 0 rfl rfl (vin (by decide)) dX2_weaken_19 (tpi (v := 0) fg3_3 ?_)
  refine lv_iload_n hx hb dX2_weaken_20 rfl (lv_at hl 2 rfl) ?_
  refine lv_isub hx hb dX2_weaken_21 ?_
  refine va_mmax hx hb (hml.trans hl.1.symm) hown (hts (.methodLink RX2 68 Lib.Math.max.name) (List.mem_of_getElem? (i := 2) (by decide +kernel))) (hts (.static Lib.Math.max.name) (List.mem_of_getElem? (i := 3) (by decide +kernel))) (hts (.initialized "java/lang/Math") (List.mem_of_getElem? (i := 4) (by decide +kernel))) (hts (.code Lib.Math.max.name Lib.Math.max.code 2 (some .int)) (List.mem_of_getElem? (i := 5) (by decide +kernel))) (Nat.le_of_ble_eq_true rfl) (Nat.le_of_ble_eq_true rfl) (Nat.le_of_ble_eq_true rfl) (Nat.le_of_ble_eq_true rfl) dX2_weaken_22 ?_
  refine va_iast hx hb hK hP hD hS 1 0 rfl rfl (vin (by decide)) dX2_weaken_25 (fun H locs hP hD hS => ?_)
  generalize hhg4 : upd g3 (Int32.toNatClampNeg 3) (if (0 : Int32) < ((0 : Int32) - p1) then ((0 : Int32) - p1) else 0) = g4 at hP hD
  have fg4_0 : g4 0 = (if (0 : Int32) < ((0 : Int32) - p1) then ((0 : Int32) - p1) else 0) := by rw [← hhg4]; exact (pk_un (by decide)).trans fg3_0
  have fg4_1 : g4 1 = (if (0 : Int32) < ((0 : Int32) - p1) then ((0 : Int32) - p1) else 0) := by rw [← hhg4]; exact (pk_un (by decide)).trans fg3_1
  have fg4_2 : g4 2 = (if (0 : Int32) < ((0 : Int32) - p1) then ((0 : Int32) - p1) else 0) := by rw [← hhg4]; exact (pk_un (by decide)).trans fg3_2
  have fg4_4 : g4 4 = 0 := by rw [← hhg4]; exact (pk_un (by decide)).trans fg3_4
  have fg4_5 : g4 5 = 0 := by rw [← hhg4]; exact (pk_un (by decide)).trans fg3_5
  have fg4_6 : g4 6 = 0 := by rw [← hhg4]; exact (pk_un (by decide)).trans fg3_6
  have fg4_7 : g4 7 = 0 := by rw [← hhg4]; exact (pk_un (by decide)).trans fg3_7
  have fg4_8 : g4 8 = 0 := by rw [← hhg4]; exact (pk_un (by decide)).trans fg3_8
  have fg4_9 : g4 9 = 0 := by rw [← hhg4]; exact (pk_un (by decide)).trans fg3_9
  have fg4_10 : g4 10 = 0 := by rw [← hhg4]; exact (pk_un (by decide)).trans fg3_10
  have fg4_11 : g4 11 = 0 := by rw [← hhg4]; exact (pk_un (by decide)).trans fg3_11
  have fg4_3 : g4 3 = (if (0 : Int32) < ((0 : Int32) - p1) then ((0 : Int32) - p1) else 0) := by rw [← hhg4]; exact pk_us
  have hP : va_P D vwCl [(a0, .inr (2, [v0_0, v0_1, v0_2, v0_3, v0_4, v0_5, .ref a1, v0_7, v0_8, .int 1])), (a1, .inl (cy 0, 12, .inl g4))] H := hP
  have hD : va_D A [(a0, .inr (2, [v0_0, v0_1, v0_2, v0_3, v0_4, v0_5, .ref a1, v0_7, v0_8, .int 1])), (a1, .inl (cy 0, 12, .inl g4))] := hD
  refine lv_iinc (v := 4) (lv' := [(2, .int 4), (0, .ref a0), (1, .int p1)]) hx hb dX2_weaken_26 hl (k := 0) rfl (by decide) (by decide) rfl (fun ls hl => ?_)
  refine lv_goto (tgt := 2) hx hb dX2_weaken_29 (by decide) ?_
  refine lv_iload_n hx hb dX2_weaken_2 rfl (lv_at hl 0 rfl) ?_
  refine lv_bipush (v := 12) hx hb dX2_weaken_3 (by decide) ?_
  refine lv_icmp_ge (tgt := 32) hx hb dX2_weaken_5 (by decide) (fun c => absurd c (by decide)) (fun _ => ?_)
  refine lv_aload_n hx hb dX2_weaken_8 rfl (lv_at hl 1 rfl) ?_
  refine va_get (D := D) (cl := vwCl) (ci := 2) (v := .ref a1) (C := RX2) (T := TX2) (N := 10) hx hb hts in_X2_weaken_X2 hown hK hP 0 rfl rfl 6 (by decide) (hts (.fieldLink RX2 28 "EightReasons$Loom" "strong" "[I") (List.mem_of_getElem? (i := 1) (by decide +kernel))) (fun _ h9 => h9) rfl dX2_weaken_9 ?_
  refine lv_iload_n hx hb dX2_weaken_12 rfl (lv_at hl 0 rfl) ?_
  refine lv_iconst (v := 0) hx hb dX2_weaken_13 (by decide) ?_
  refine lv_aload_n hx hb dX2_weaken_14 rfl (lv_at hl 1 rfl) ?_
  refine va_get (D := D) (cl := vwCl) (ci := 2) (v := .ref a1) (C := RX2) (T := TX2) (N := 10) hx hb hts in_X2_weaken_X2 hown hK hP 0 rfl rfl 6 (by decide) (hts (.fieldLink RX2 28 "EightReasons$Loom" "strong" "[I") (List.mem_of_getElem? (i := 1) (by decide +kernel))) (fun _ h9 => h9) rfl dX2_weaken_15 ?_
  refine lv_iload_n hx hb dX2_weaken_18 rfl (lv_at hl 0 rfl) ?_
  refine va_iald hx hb hK hP 1 0 rfl rfl (vin (by decide)) dX2_weaken_19 (tpi (v := 0) fg4_4 ?_)
  refine lv_iload_n hx hb dX2_weaken_20 rfl (lv_at hl 2 rfl) ?_
  refine lv_isub hx hb dX2_weaken_21 ?_
  refine va_mmax hx hb (hml.trans hl.1.symm) hown (hts (.methodLink RX2 68 Lib.Math.max.name) (List.mem_of_getElem? (i := 2) (by decide +kernel))) (hts (.static Lib.Math.max.name) (List.mem_of_getElem? (i := 3) (by decide +kernel))) (hts (.initialized "java/lang/Math") (List.mem_of_getElem? (i := 4) (by decide +kernel))) (hts (.code Lib.Math.max.name Lib.Math.max.code 2 (some .int)) (List.mem_of_getElem? (i := 5) (by decide +kernel))) (Nat.le_of_ble_eq_true rfl) (Nat.le_of_ble_eq_true rfl) (Nat.le_of_ble_eq_true rfl) (Nat.le_of_ble_eq_true rfl) dX2_weaken_22 ?_
  refine va_iast hx hb hK hP hD hS 1 0 rfl rfl (vin (by decide)) dX2_weaken_25 (fun H locs hP hD hS => ?_)
  generalize hhg5 : upd g4 (Int32.toNatClampNeg 4) (if (0 : Int32) < ((0 : Int32) - p1) then ((0 : Int32) - p1) else 0) = g5 at hP hD
  have fg5_0 : g5 0 = (if (0 : Int32) < ((0 : Int32) - p1) then ((0 : Int32) - p1) else 0) := by rw [← hhg5]; exact (pk_un (by decide)).trans fg4_0
  have fg5_1 : g5 1 = (if (0 : Int32) < ((0 : Int32) - p1) then ((0 : Int32) - p1) else 0) := by rw [← hhg5]; exact (pk_un (by decide)).trans fg4_1
  have fg5_2 : g5 2 = (if (0 : Int32) < ((0 : Int32) - p1) then ((0 : Int32) - p1) else 0) := by rw [← hhg5]; exact (pk_un (by decide)).trans fg4_2
  have fg5_3 : g5 3 = (if (0 : Int32) < ((0 : Int32) - p1) then ((0 : Int32) - p1) else 0) := by rw [← hhg5]; exact (pk_un (by decide)).trans fg4_3
  have fg5_5 : g5 5 = 0 := by rw [← hhg5]; exact (pk_un (by decide)).trans fg4_5
  have fg5_6 : g5 6 = 0 := by rw [← hhg5]; exact (pk_un (by decide)).trans fg4_6
  have fg5_7 : g5 7 = 0 := by rw [← hhg5]; exact (pk_un (by decide)).trans fg4_7
  have fg5_8 : g5 8 = 0 := by rw [← hhg5]; exact (pk_un (by decide)).trans fg4_8
  have fg5_9 : g5 9 = 0 := by rw [← hhg5]; exact (pk_un (by decide)).trans fg4_9
  have fg5_10 : g5 10 = 0 := by rw [← hhg5]; exact (pk_un (by decide)).trans fg4_10
  have fg5_11 : g5 11 = 0 := by rw [← hhg5]; exact (pk_un (by decide)).trans fg4_11
  have fg5_4 : g5 4 = (if (0 : Int32) < ((0 : Int32) - p1) then ((0 : Int32) - p1) else 0) := by rw [← hhg5]; exact pk_us
  have hP : va_P D vwCl [(a0, .inr (2, [v0_0, v0_1, v0_2, v0_3, v0_4, v0_5, .ref a1, v0_7, v0_8, .int 1])), (a1, .inl (cy 0, 12, .inl g5))] H := hP
  have hD : va_D A [(a0, .inr (2, [v0_0, v0_1, v0_2, v0_3, v0_4, v0_5, .ref a1, v0_7, v0_8, .int 1])), (a1, .inl (cy 0, 12, .inl g5))] := hD
  refine lv_iinc (v := 5) (lv' := [(2, .int 5), (0, .ref a0), (1, .int p1)]) hx hb dX2_weaken_26 hl (k := 0) rfl (by decide) (by decide) rfl (fun ls hl => ?_)
  refine lv_goto (tgt := 2) hx hb dX2_weaken_29 (by decide) ?_
  refine lv_iload_n hx hb dX2_weaken_2 rfl (lv_at hl 0 rfl) ?_
  refine lv_bipush (v := 12) hx hb dX2_weaken_3 (by decide) ?_
  refine lv_icmp_ge (tgt := 32) hx hb dX2_weaken_5 (by decide) (fun c => absurd c (by decide)) (fun _ => ?_)
  refine lv_aload_n hx hb dX2_weaken_8 rfl (lv_at hl 1 rfl) ?_
  refine va_get (D := D) (cl := vwCl) (ci := 2) (v := .ref a1) (C := RX2) (T := TX2) (N := 10) hx hb hts in_X2_weaken_X2 hown hK hP 0 rfl rfl 6 (by decide) (hts (.fieldLink RX2 28 "EightReasons$Loom" "strong" "[I") (List.mem_of_getElem? (i := 1) (by decide +kernel))) (fun _ h9 => h9) rfl dX2_weaken_9 ?_
  refine lv_iload_n hx hb dX2_weaken_12 rfl (lv_at hl 0 rfl) ?_
  refine lv_iconst (v := 0) hx hb dX2_weaken_13 (by decide) ?_
  refine lv_aload_n hx hb dX2_weaken_14 rfl (lv_at hl 1 rfl) ?_
  refine va_get (D := D) (cl := vwCl) (ci := 2) (v := .ref a1) (C := RX2) (T := TX2) (N := 10) hx hb hts in_X2_weaken_X2 hown hK hP 0 rfl rfl 6 (by decide) (hts (.fieldLink RX2 28 "EightReasons$Loom" "strong" "[I") (List.mem_of_getElem? (i := 1) (by decide +kernel))) (fun _ h9 => h9) rfl dX2_weaken_15 ?_
  refine lv_iload_n hx hb dX2_weaken_18 rfl (lv_at hl 0 rfl) ?_
  refine va_iald hx hb hK hP 1 0 rfl rfl (vin (by decide)) dX2_weaken_19 (tpi (v := 0) fg5_5 ?_)
  refine lv_iload_n hx hb dX2_weaken_20 rfl (lv_at hl 2 rfl) ?_
  refine lv_isub hx hb dX2_weaken_21 ?_
  refine va_mmax hx hb (hml.trans hl.1.symm) hown (hts (.methodLink RX2 68 Lib.Math.max.name) (List.mem_of_getElem? (i := 2) (by decide +kernel))) (hts (.static Lib.Math.max.name) (List.mem_of_getElem? (i := 3) (by decide +kernel))) (hts (.initialized "java/lang/Math") (List.mem_of_getElem? (i := 4) (by decide +kernel))) (hts (.code Lib.Math.max.name Lib.Math.max.code 2 (some .int)) (List.mem_of_getElem? (i := 5) (by decide +kernel))) (Nat.le_of_ble_eq_true rfl) (Nat.le_of_ble_eq_true rfl) (Nat.le_of_ble_eq_true rfl) (Nat.le_of_ble_eq_true rfl) dX2_weaken_22 ?_
  refine va_iast hx hb hK hP hD hS 1 0 rfl rfl (vin (by decide)) dX2_weaken_25 (fun H locs hP hD hS => ?_)
  generalize hhg6 : upd g5 (Int32.toNatClampNeg 5) (if (0 : Int32) < ((0 : Int32) - p1) then ((0 : Int32) - p1) else 0) = g6 at hP hD
  have fg6_0 : g6 0 = (if (0 : Int32) < ((0 : Int32) - p1) then ((0 : Int32) - p1) else 0) := by rw [← hhg6]; exact (pk_un (by decide)).trans fg5_0
  have fg6_1 : g6 1 = (if (0 : Int32) < ((0 : Int32) - p1) then ((0 : Int32) - p1) else 0) := by rw [← hhg6]; exact (pk_un (by decide)).trans fg5_1
  have fg6_2 : g6 2 = (if (0 : Int32) < ((0 : Int32) - p1) then ((0 : Int32) - p1) else 0) := by rw [← hhg6]; exact (pk_un (by decide)).trans fg5_2
  have fg6_3 : g6 3 = (if (0 : Int32) < ((0 : Int32) - p1) then ((0 : Int32) - p1) else 0) := by rw [← hhg6]; exact (pk_un (by decide)).trans fg5_3
  have fg6_4 : g6 4 = (if (0 : Int32) < ((0 : Int32) - p1) then ((0 : Int32) - p1) else 0) := by rw [← hhg6]; exact (pk_un (by decide)).trans fg5_4
  have fg6_6 : g6 6 = 0 := by rw [← hhg6]; exact (pk_un (by decide)).trans fg5_6
  have fg6_7 : g6 7 = 0 := by rw [← hhg6]; exact (pk_un (by decide)).trans fg5_7
  have fg6_8 : g6 8 = 0 := by rw [← hhg6]; exact (pk_un (by decide)).trans fg5_8
  have fg6_9 : g6 9 = 0 := by rw [← hhg6]; exact (pk_un (by decide)).trans fg5_9
  have fg6_10 : g6 10 = 0 := by rw [← hhg6]; exact (pk_un (by decide)).trans fg5_10
  have fg6_11 : g6 11 = 0 := by rw [← hhg6]; exact (pk_un (by decide)).trans fg5_11
  have fg6_5 : g6 5 = (if (0 : Int32) < ((0 : Int32) - p1) then ((0 : Int32) - p1) else 0) := by rw [← hhg6]; exact pk_us
  have hP : va_P D vwCl [(a0, .inr (2, [v0_0, v0_1, v0_2, v0_3, v0_4, v0_5, .ref a1, v0_7, v0_8, .int 1])), (a1, .inl (cy 0, 12, .inl g6))] H := hP
  have hD : va_D A [(a0, .inr (2, [v0_0, v0_1, v0_2, v0_3, v0_4, v0_5, .ref a1, v0_7, v0_8, .int 1])), (a1, .inl (cy 0, 12, .inl g6))] := hD
  refine lv_iinc (v := 6) (lv' := [(2, .int 6), (0, .ref a0), (1, .int p1)]) hx hb dX2_weaken_26 hl (k := 0) rfl (by decide) (by decide) rfl (fun ls hl => ?_)
  refine lv_goto (tgt := 2) hx hb dX2_weaken_29 (by decide) ?_
  refine lv_iload_n hx hb dX2_weaken_2 rfl (lv_at hl 0 rfl) ?_
  refine lv_bipush (v := 12) hx hb dX2_weaken_3 (by decide) ?_
  refine lv_icmp_ge (tgt := 32) hx hb dX2_weaken_5 (by decide) (fun c => absurd c (by decide)) (fun _ => ?_)
  refine lv_aload_n hx hb dX2_weaken_8 rfl (lv_at hl 1 rfl) ?_
  refine va_get (D := D) (cl := vwCl) (ci := 2) (v := .ref a1) (C := RX2) (T := TX2) (N := 10) hx hb hts in_X2_weaken_X2 hown hK hP 0 rfl rfl 6 (by decide) (hts (.fieldLink RX2 28 "EightReasons$Loom" "strong" "[I") (List.mem_of_getElem? (i := 1) (by decide +kernel))) (fun _ h9 => h9) rfl dX2_weaken_9 ?_
  refine lv_iload_n hx hb dX2_weaken_12 rfl (lv_at hl 0 rfl) ?_
  refine lv_iconst (v := 0) hx hb dX2_weaken_13 (by decide) ?_
  refine lv_aload_n hx hb dX2_weaken_14 rfl (lv_at hl 1 rfl) ?_
  refine va_get (D := D) (cl := vwCl) (ci := 2) (v := .ref a1) (C := RX2) (T := TX2) (N := 10) hx hb hts in_X2_weaken_X2 hown hK hP 0 rfl rfl 6 (by decide) (hts (.fieldLink RX2 28 "EightReasons$Loom" "strong" "[I") (List.mem_of_getElem? (i := 1) (by decide +kernel))) (fun _ h9 => h9) rfl dX2_weaken_15 ?_
  refine lv_iload_n hx hb dX2_weaken_18 rfl (lv_at hl 0 rfl) ?_
  refine va_iald hx hb hK hP 1 0 rfl rfl (vin (by decide)) dX2_weaken_19 (tpi (v := 0) fg6_6 ?_)
  refine lv_iload_n hx hb dX2_weaken_20 rfl (lv_at hl 2 rfl) ?_
  refine lv_isub hx hb dX2_weaken_21 ?_
  refine va_mmax hx hb (hml.trans hl.1.symm) hown (hts (.methodLink RX2 68 Lib.Math.max.name) (List.mem_of_getElem? (i := 2) (by decide +kernel))) (hts (.static Lib.Math.max.name) (List.mem_of_getElem? (i := 3) (by decide +kernel))) (hts (.initialized "java/lang/Math") (List.mem_of_getElem? (i := 4) (by decide +kernel))) (hts (.code Lib.Math.max.name Lib.Math.max.code 2 (some .int)) (List.mem_of_getElem? (i := 5) (by decide +kernel))) (Nat.le_of_ble_eq_true rfl) (Nat.le_of_ble_eq_true rfl) (Nat.le_of_ble_eq_true rfl) (Nat.le_of_ble_eq_true rfl) dX2_weaken_22 ?_
  refine va_iast hx hb hK hP hD hS 1 0 rfl rfl (vin (by decide)) dX2_weaken_25 (fun H locs hP hD hS => ?_)
  generalize hhg7 : upd g6 (Int32.toNatClampNeg 6) (if (0 : Int32) < ((0 : Int32) - p1) then ((0 : Int32) - p1) else 0) = g7 at hP hD
  have fg7_0 : g7 0 = (if (0 : Int32) < ((0 : Int32) - p1) then ((0 : Int32) - p1) else 0) := by rw [← hhg7]; exact (pk_un (by decide)).trans fg6_0
  have fg7_1 : g7 1 = (if (0 : Int32) < ((0 : Int32) - p1) then ((0 : Int32) - p1) else 0) := by rw [← hhg7]; exact (pk_un (by decide)).trans fg6_1
  have fg7_2 : g7 2 = (if (0 : Int32) < ((0 : Int32) - p1) then ((0 : Int32) - p1) else 0) := by rw [← hhg7]; exact (pk_un (by decide)).trans fg6_2
  have fg7_3 : g7 3 = (if (0 : Int32) < ((0 : Int32) - p1) then ((0 : Int32) - p1) else 0) := by rw [← hhg7]; exact (pk_un (by decide)).trans fg6_3
  have fg7_4 : g7 4 = (if (0 : Int32) < ((0 : Int32) - p1) then ((0 : Int32) - p1) else 0) := by rw [← hhg7]; exact (pk_un (by decide)).trans fg6_4
  have fg7_5 : g7 5 = (if (0 : Int32) < ((0 : Int32) - p1) then ((0 : Int32) - p1) else 0) := by rw [← hhg7]; exact (pk_un (by decide)).trans fg6_5
  have fg7_7 : g7 7 = 0 := by rw [← hhg7]; exact (pk_un (by decide)).trans fg6_7
  have fg7_8 : g7 8 = 0 := by rw [← hhg7]; exact (pk_un (by decide)).trans fg6_8
  have fg7_9 : g7 9 = 0 := by rw [← hhg7]; exact (pk_un (by decide)).trans fg6_9
  have fg7_10 : g7 10 = 0 := by rw [← hhg7]; exact (pk_un (by decide)).trans fg6_10
  have fg7_11 : g7 11 = 0 := by rw [← hhg7]; exact (pk_un (by decide)).trans fg6_11
  have fg7_6 : g7 6 = (if (0 : Int32) < ((0 : Int32) - p1) then ((0 : Int32) - p1) else 0) := by rw [← hhg7]; exact pk_us
  have hP : va_P D vwCl [(a0, .inr (2, [v0_0, v0_1, v0_2, v0_3, v0_4, v0_5, .ref a1, v0_7, v0_8, .int 1])), (a1, .inl (cy 0, 12, .inl g7))] H := hP
  have hD : va_D A [(a0, .inr (2, [v0_0, v0_1, v0_2, v0_3, v0_4, v0_5, .ref a1, v0_7, v0_8, .int 1])), (a1, .inl (cy 0, 12, .inl g7))] := hD
  refine lv_iinc (v := 7) (lv' := [(2, .int 7), (0, .ref a0), (1, .int p1)]) hx hb dX2_weaken_26 hl (k := 0) rfl (by decide) (by decide) rfl (fun ls hl => ?_)
  refine lv_goto (tgt := 2) hx hb dX2_weaken_29 (by decide) ?_
  refine lv_iload_n hx hb dX2_weaken_2 rfl (lv_at hl 0 rfl) ?_
  refine lv_bipush (v := 12) hx hb dX2_weaken_3 (by decide) ?_
  refine lv_icmp_ge (tgt := 32) hx hb dX2_weaken_5 (by decide) (fun c => absurd c (by decide)) (fun _ => ?_)
  refine lv_aload_n hx hb dX2_weaken_8 rfl (lv_at hl 1 rfl) ?_
  refine va_get (D := D) (cl := vwCl) (ci := 2) (v := .ref a1) (C := RX2) (T := TX2) (N := 10) hx hb hts in_X2_weaken_X2 hown hK hP 0 rfl rfl 6 (by decide) (hts (.fieldLink RX2 28 "EightReasons$Loom" "strong" "[I") (List.mem_of_getElem? (i := 1) (by decide +kernel))) (fun _ h9 => h9) rfl dX2_weaken_9 ?_
  refine lv_iload_n hx hb dX2_weaken_12 rfl (lv_at hl 0 rfl) ?_
  refine lv_iconst (v := 0) hx hb dX2_weaken_13 (by decide) ?_
  refine lv_aload_n hx hb dX2_weaken_14 rfl (lv_at hl 1 rfl) ?_
  refine va_get (D := D) (cl := vwCl) (ci := 2) (v := .ref a1) (C := RX2) (T := TX2) (N := 10) hx hb hts in_X2_weaken_X2 hown hK hP 0 rfl rfl 6 (by decide) (hts (.fieldLink RX2 28 "EightReasons$Loom" "strong" "[I") (List.mem_of_getElem? (i := 1) (by decide +kernel))) (fun _ h9 => h9) rfl dX2_weaken_15 ?_
  refine lv_iload_n hx hb dX2_weaken_18 rfl (lv_at hl 0 rfl) ?_
  refine va_iald hx hb hK hP 1 0 rfl rfl (vin (by decide)) dX2_weaken_19 (tpi (v := 0) fg7_7 ?_)
  refine lv_iload_n hx hb dX2_weaken_20 rfl (lv_at hl 2 rfl) ?_
  refine lv_isub hx hb dX2_weaken_21 ?_
  refine va_mmax hx hb (hml.trans hl.1.symm) hown (hts (.methodLink RX2 68 Lib.Math.max.name) (List.mem_of_getElem? (i := 2) (by decide +kernel))) (hts (.static Lib.Math.max.name) (List.mem_of_getElem? (i := 3) (by decide +kernel))) (hts (.initialized "java/lang/Math") (List.mem_of_getElem? (i := 4) (by decide +kernel))) (hts (.code Lib.Math.max.name Lib.Math.max.code 2 (some .int)) (List.mem_of_getElem? (i := 5) (by decide +kernel))) (Nat.le_of_ble_eq_true rfl) (Nat.le_of_ble_eq_true rfl) (Nat.le_of_ble_eq_true rfl) (Nat.le_of_ble_eq_true rfl) dX2_weaken_22 ?_
  refine va_iast hx hb hK hP hD hS 1 0 rfl rfl (vin (by decide)) dX2_weaken_25 (fun H locs hP hD hS => ?_)
  generalize hhg8 : upd g7 (Int32.toNatClampNeg 7) (if (0 : Int32) < ((0 : Int32) - p1) then ((0 : Int32) - p1) else 0) = g8 at hP hD
  have fg8_0 : g8 0 = (if (0 : Int32) < ((0 : Int32) - p1) then ((0 : Int32) - p1) else 0) := by rw [← hhg8]; exact (pk_un (by decide)).trans fg7_0
  have fg8_1 : g8 1 = (if (0 : Int32) < ((0 : Int32) - p1) then ((0 : Int32) - p1) else 0) := by rw [← hhg8]; exact (pk_un (by decide)).trans fg7_1
  have fg8_2 : g8 2 = (if (0 : Int32) < ((0 : Int32) - p1) then ((0 : Int32) - p1) else 0) := by rw [← hhg8]; exact (pk_un (by decide)).trans fg7_2
  have fg8_3 : g8 3 = (if (0 : Int32) < ((0 : Int32) - p1) then ((0 : Int32) - p1) else 0) := by rw [← hhg8]; exact (pk_un (by decide)).trans fg7_3
  have fg8_4 : g8 4 = (if (0 : Int32) < ((0 : Int32) - p1) then ((0 : Int32) - p1) else 0) := by rw [← hhg8]; exact (pk_un (by decide)).trans fg7_4
  have fg8_5 : g8 5 = (if (0 : Int32) < ((0 : Int32) - p1) then ((0 : Int32) - p1) else 0) := by rw [← hhg8]; exact (pk_un (by decide)).trans fg7_5
  have fg8_6 : g8 6 = (if (0 : Int32) < ((0 : Int32) - p1) then ((0 : Int32) - p1) else 0) := by rw [← hhg8]; exact (pk_un (by decide)).trans fg7_6
  have fg8_8 : g8 8 = 0 := by rw [← hhg8]; exact (pk_un (by decide)).trans fg7_8
  have fg8_9 : g8 9 = 0 := by rw [← hhg8]; exact (pk_un (by decide)).trans fg7_9
  have fg8_10 : g8 10 = 0 := by rw [← hhg8]; exact (pk_un (by decide)).trans fg7_10
  have fg8_11 : g8 11 = 0 := by rw [← hhg8]; exact (pk_un (by decide)).trans fg7_11
  have fg8_7 : g8 7 = (if (0 : Int32) < ((0 : Int32) - p1) then ((0 : Int32) - p1) else 0) := by rw [← hhg8]; exact pk_us
  have hP : va_P D vwCl [(a0, .inr (2, [v0_0, v0_1, v0_2, v0_3, v0_4, v0_5, .ref a1, v0_7, v0_8, .int 1])), (a1, .inl (cy 0, 12, .inl g8))] H := hP
  have hD : va_D A [(a0, .inr (2, [v0_0, v0_1, v0_2, v0_3, v0_4, v0_5, .ref a1, v0_7, v0_8, .int 1])), (a1, .inl (cy 0, 12, .inl g8))] := hD
  refine lv_iinc (v := 8) (lv' := [(2, .int 8), (0, .ref a0), (1, .int p1)]) hx hb dX2_weaken_26 hl (k := 0) rfl (by decide) (by decide) rfl (fun ls hl => ?_)
  refine lv_goto (tgt := 2) hx hb dX2_weaken_29 (by decide) ?_
  refine lv_iload_n hx hb dX2_weaken_2 rfl (lv_at hl 0 rfl) ?_
  refine lv_bipush (v := 12) hx hb dX2_weaken_3 (by decide) ?_
  refine lv_icmp_ge (tgt := 32) hx hb dX2_weaken_5 (by decide) (fun c => absurd c (by decide)) (fun _ => ?_)
  refine lv_aload_n hx hb dX2_weaken_8 rfl (lv_at hl 1 rfl) ?_
  refine va_get (D := D) (cl := vwCl) (ci := 2) (v := .ref a1) (C := RX2) (T := TX2) (N := 10) hx hb hts in_X2_weaken_X2 hown hK hP 0 rfl rfl 6 (by decide) (hts (.fieldLink RX2 28 "EightReasons$Loom" "strong" "[I") (List.mem_of_getElem? (i := 1) (by decide +kernel))) (fun _ h9 => h9) rfl dX2_weaken_9 ?_
  refine lv_iload_n hx hb dX2_weaken_12 rfl (lv_at hl 0 rfl) ?_
  refine lv_iconst (v := 0) hx hb dX2_weaken_13 (by decide) ?_
  refine lv_aload_n hx hb dX2_weaken_14 rfl (lv_at hl 1 rfl) ?_
  refine va_get (D := D) (cl := vwCl) (ci := 2) (v := .ref a1) (C := RX2) (T := TX2) (N := 10) hx hb hts in_X2_weaken_X2 hown hK hP 0 rfl rfl 6 (by decide) (hts (.fieldLink RX2 28 "EightReasons$Loom" "strong" "[I") (List.mem_of_getElem? (i := 1) (by decide +kernel))) (fun _ h9 => h9) rfl dX2_weaken_15 ?_
  refine lv_iload_n hx hb dX2_weaken_18 rfl (lv_at hl 0 rfl) ?_
  refine va_iald hx hb hK hP 1 0 rfl rfl (vin (by decide)) dX2_weaken_19 (tpi (v := 0) fg8_8 ?_)
  refine lv_iload_n hx hb dX2_weaken_20 rfl (lv_at hl 2 rfl) ?_
  refine lv_isub hx hb dX2_weaken_21 ?_
  refine va_mmax hx hb (hml.trans hl.1.symm) hown (hts (.methodLink RX2 68 Lib.Math.max.name) (List.mem_of_getElem? (i := 2) (by decide +kernel))) (hts (.static Lib.Math.max.name) (List.mem_of_getElem? (i := 3) (by decide +kernel))) (hts (.initialized "java/lang/Math") (List.mem_of_getElem? (i := 4) (by decide +kernel))) (hts (.code Lib.Math.max.name Lib.Math.max.code 2 (some .int)) (List.mem_of_getElem? (i := 5) (by decide +kernel))) (Nat.le_of_ble_eq_true rfl) (Nat.le_of_ble_eq_true rfl) (Nat.le_of_ble_eq_true rfl) (Nat.le_of_ble_eq_true rfl) dX2_weaken_22 ?_
  refine va_iast hx hb hK hP hD hS 1 0 rfl rfl (vin (by decide)) dX2_weaken_25 (fun H locs hP hD hS => ?_)
  generalize hhg9 : upd g8 (Int32.toNatClampNeg 8) (if (0 : Int32) < ((0 : Int32) - p1) then ((0 : Int32) - p1) else 0) = g9 at hP hD
  have fg9_0 : g9 0 = (if (0 : Int32) < ((0 : Int32) - p1) then ((0 : Int32) - p1) else 0) := by rw [← hhg9]; exact (pk_un (by decide)).trans fg8_0
  have fg9_1 : g9 1 = (if (0 : Int32) < ((0 : Int32) - p1) then ((0 : Int32) - p1) else 0) := by rw [← hhg9]; exact (pk_un (by decide)).trans fg8_1
  have fg9_2 : g9 2 = (if (0 : Int32) < ((0 : Int32) - p1) then ((0 : Int32) - p1) else 0) := by rw [← hhg9]; exact (pk_un (by decide)).trans fg8_2
  have fg9_3 : g9 3 = (if (0 : Int32) < ((0 : Int32) - p1) then ((0 : Int32) - p1) else 0) := by rw [← hhg9]; exact (pk_un (by decide)).trans fg8_3
  have fg9_4 : g9 4 = (if (0 : Int32) < ((0 : Int32) - p1) then ((0 : Int32) - p1) else 0) := by rw [← hhg9]; exact (pk_un (by decide)).trans fg8_4
  have fg9_5 : g9 5 = (if (0 : Int32) < ((0 : Int32) - p1) then ((0 : Int32) - p1) else 0) := by rw [← hhg9]; exact (pk_un (by decide)).trans fg8_5
  have fg9_6 : g9 6 = (if (0 : Int32) < ((0 : Int32) - p1) then ((0 : Int32) - p1) else 0) := by rw [← hhg9]; exact (pk_un (by decide)).trans fg8_6
  have fg9_7 : g9 7 = (if (0 : Int32) < ((0 : Int32) - p1) then ((0 : Int32) - p1) else 0) := by rw [← hhg9]; exact (pk_un (by decide)).trans fg8_7
  have fg9_9 : g9 9 = 0 := by rw [← hhg9]; exact (pk_un (by decide)).trans fg8_9
  have fg9_10 : g9 10 = 0 := by rw [← hhg9]; exact (pk_un (by decide)).trans fg8_10
  have fg9_11 : g9 11 = 0 := by rw [← hhg9]; exact (pk_un (by decide)).trans fg8_11
  have fg9_8 : g9 8 = (if (0 : Int32) < ((0 : Int32) - p1) then ((0 : Int32) - p1) else 0) := by rw [← hhg9]; exact pk_us
  have hP : va_P D vwCl [(a0, .inr (2, [v0_0, v0_1, v0_2, v0_3, v0_4, v0_5, .ref a1, v0_7, v0_8, .int 1])), (a1, .inl (cy 0, 12, .inl g9))] H := hP
  have hD : va_D A [(a0, .inr (2, [v0_0, v0_1, v0_2, v0_3, v0_4, v0_5, .ref a1, v0_7, v0_8, .int 1])), (a1, .inl (cy 0, 12, .inl g9))] := hD
  refine lv_iinc (v := 9) (lv' := [(2, .int 9), (0, .ref a0), (1, .int p1)]) hx hb dX2_weaken_26 hl (k := 0) rfl (by decide) (by decide) rfl (fun ls hl => ?_)
  refine lv_goto (tgt := 2) hx hb dX2_weaken_29 (by decide) ?_
  refine lv_iload_n hx hb dX2_weaken_2 rfl (lv_at hl 0 rfl) ?_
  refine lv_bipush (v := 12) hx hb dX2_weaken_3 (by decide) ?_
  refine lv_icmp_ge (tgt := 32) hx hb dX2_weaken_5 (by decide) (fun c => absurd c (by decide)) (fun _ => ?_)
  refine lv_aload_n hx hb dX2_weaken_8 rfl (lv_at hl 1 rfl) ?_
  refine va_get (D := D) (cl := vwCl) (ci := 2) (v := .ref a1) (C := RX2) (T := TX2) (N := 10) hx hb hts in_X2_weaken_X2 hown hK hP 0 rfl rfl 6 (by decide) (hts (.fieldLink RX2 28 "EightReasons$Loom" "strong" "[I") (List.mem_of_getElem? (i := 1) (by decide +kernel))) (fun _ h9 => h9) rfl dX2_weaken_9 ?_
  refine lv_iload_n hx hb dX2_weaken_12 rfl (lv_at hl 0 rfl) ?_
  refine lv_iconst (v := 0) hx hb dX2_weaken_13 (by decide) ?_
  refine lv_aload_n hx hb dX2_weaken_14 rfl (lv_at hl 1 rfl) ?_
  refine va_get (D := D) (cl := vwCl) (ci := 2) (v := .ref a1) (C := RX2) (T := TX2) (N := 10) hx hb hts in_X2_weaken_X2 hown hK hP 0 rfl rfl 6 (by decide) (hts (.fieldLink RX2 28 "EightReasons$Loom" "strong" "[I") (List.mem_of_getElem? (i := 1) (by decide +kernel))) (fun _ h9 => h9) rfl dX2_weaken_15 ?_
  refine lv_iload_n hx hb dX2_weaken_18 rfl (lv_at hl 0 rfl) ?_
  refine va_iald hx hb hK hP 1 0 rfl rfl (vin (by decide)) dX2_weaken_19 (tpi (v := 0) fg9_9 ?_)
  refine lv_iload_n hx hb dX2_weaken_20 rfl (lv_at hl 2 rfl) ?_
  refine lv_isub hx hb dX2_weaken_21 ?_
  refine va_mmax hx hb (hml.trans hl.1.symm) hown (hts (.methodLink RX2 68 Lib.Math.max.name) (List.mem_of_getElem? (i := 2) (by decide +kernel))) (hts (.static Lib.Math.max.name) (List.mem_of_getElem? (i := 3) (by decide +kernel))) (hts (.initialized "java/lang/Math") (List.mem_of_getElem? (i := 4) (by decide +kernel))) (hts (.code Lib.Math.max.name Lib.Math.max.code 2 (some .int)) (List.mem_of_getElem? (i := 5) (by decide +kernel))) (Nat.le_of_ble_eq_true rfl) (Nat.le_of_ble_eq_true rfl) (Nat.le_of_ble_eq_true rfl) (Nat.le_of_ble_eq_true rfl) dX2_weaken_22 ?_
  refine va_iast hx hb hK hP hD hS 1 0 rfl rfl (vin (by decide)) dX2_weaken_25 (fun H locs hP hD hS => ?_)
  generalize hhg10 : upd g9 (Int32.toNatClampNeg 9) (if (0 : Int32) < ((0 : Int32) - p1) then ((0 : Int32) - p1) else 0) = g10 at hP hD
  have fg10_0 : g10 0 = (if (0 : Int32) < ((0 : Int32) - p1) then ((0 : Int32) - p1) else 0) := by rw [← hhg10]; exact (pk_un (by decide)).trans fg9_0
  have fg10_1 : g10 1 = (if (0 : Int32) < ((0 : Int32) - p1) then ((0 : Int32) - p1) else 0) := by rw [← hhg10]; exact (pk_un (by decide)).trans fg9_1
  have fg10_2 : g10 2 = (if (0 : Int32) < ((0 : Int32) - p1) then ((0 : Int32) - p1) else 0) := by rw [← hhg10]; exact (pk_un (by decide)).trans fg9_2
  have fg10_3 : g10 3 = (if (0 : Int32) < ((0 : Int32) - p1) then ((0 : Int32) - p1) else 0) := by rw [← hhg10]; exact (pk_un (by decide)).trans fg9_3
  have fg10_4 : g10 4 = (if (0 : Int32) < ((0 : Int32) - p1) then ((0 : Int32) - p1) else 0) := by rw [← hhg10]; exact (pk_un (by decide)).trans fg9_4
  have fg10_5 : g10 5 = (if (0 : Int32) < ((0 : Int32) - p1) then ((0 : Int32) - p1) else 0) := by rw [← hhg10]; exact (pk_un (by decide)).trans fg9_5
  have fg10_6 : g10 6 = (if (0 : Int32) < ((0 : Int32) - p1) then ((0 : Int32) - p1) else 0) := by rw [← hhg10]; exact (pk_un (by decide)).trans fg9_6
  have fg10_7 : g10 7 = (if (0 : Int32) < ((0 : Int32) - p1) then ((0 : Int32) - p1) else 0) := by rw [← hhg10]; exact (pk_un (by decide)).trans fg9_7
  have fg10_8 : g10 8 = (if (0 : Int32) < ((0 : Int32) - p1) then ((0 : Int32) - p1) else 0) := by rw [← hhg10]; exact (pk_un (by decide)).trans fg9_8
  have fg10_10 : g10 10 = 0 := by rw [← hhg10]; exact (pk_un (by decide)).trans fg9_10
  have fg10_11 : g10 11 = 0 := by rw [← hhg10]; exact (pk_un (by decide)).trans fg9_11
  have fg10_9 : g10 9 = (if (0 : Int32) < ((0 : Int32) - p1) then ((0 : Int32) - p1) else 0) := by rw [← hhg10]; exact pk_us
  have hP : va_P D vwCl [(a0, .inr (2, [v0_0, v0_1, v0_2, v0_3, v0_4, v0_5, .ref a1, v0_7, v0_8, .int 1])), (a1, .inl (cy 0, 12, .inl g10))] H := hP
  have hD : va_D A [(a0, .inr (2, [v0_0, v0_1, v0_2, v0_3, v0_4, v0_5, .ref a1, v0_7, v0_8, .int 1])), (a1, .inl (cy 0, 12, .inl g10))] := hD
  refine lv_iinc (v := 10) (lv' := [(2, .int 10), (0, .ref a0), (1, .int p1)]) hx hb dX2_weaken_26 hl (k := 0) rfl (by decide) (by decide) rfl (fun ls hl => ?_)
  refine lv_goto (tgt := 2) hx hb dX2_weaken_29 (by decide) ?_
  refine lv_iload_n hx hb dX2_weaken_2 rfl (lv_at hl 0 rfl) ?_
  refine lv_bipush (v := 12) hx hb dX2_weaken_3 (by decide) ?_
  refine lv_icmp_ge (tgt := 32) hx hb dX2_weaken_5 (by decide) (fun c => absurd c (by decide)) (fun _ => ?_)
  refine lv_aload_n hx hb dX2_weaken_8 rfl (lv_at hl 1 rfl) ?_
  refine va_get (D := D) (cl := vwCl) (ci := 2) (v := .ref a1) (C := RX2) (T := TX2) (N := 10) hx hb hts in_X2_weaken_X2 hown hK hP 0 rfl rfl 6 (by decide) (hts (.fieldLink RX2 28 "EightReasons$Loom" "strong" "[I") (List.mem_of_getElem? (i := 1) (by decide +kernel))) (fun _ h9 => h9) rfl dX2_weaken_9 ?_
  refine lv_iload_n hx hb dX2_weaken_12 rfl (lv_at hl 0 rfl) ?_
  refine lv_iconst (v := 0) hx hb dX2_weaken_13 (by decide) ?_
  refine lv_aload_n hx hb dX2_weaken_14 rfl (lv_at hl 1 rfl) ?_
  refine va_get (D := D) (cl := vwCl) (ci := 2) (v := .ref a1) (C := RX2) (T := TX2) (N := 10) hx hb hts in_X2_weaken_X2 hown hK hP 0 rfl rfl 6 (by decide) (hts (.fieldLink RX2 28 "EightReasons$Loom" "strong" "[I") (List.mem_of_getElem? (i := 1) (by decide +kernel))) (fun _ h9 => h9) rfl dX2_weaken_15 ?_
  refine lv_iload_n hx hb dX2_weaken_18 rfl (lv_at hl 0 rfl) ?_
  refine va_iald hx hb hK hP 1 0 rfl rfl (vin (by decide)) dX2_weaken_19 (tpi (v := 0) fg10_10 ?_)
  refine lv_iload_n hx hb dX2_weaken_20 rfl (lv_at hl 2 rfl) ?_
  refine lv_isub hx hb dX2_weaken_21 ?_
  refine va_mmax hx hb (hml.trans hl.1.symm) hown (hts (.methodLink RX2 68 Lib.Math.max.name) (List.mem_of_getElem? (i := 2) (by decide +kernel))) (hts (.static Lib.Math.max.name) (List.mem_of_getElem? (i := 3) (by decide +kernel))) (hts (.initialized "java/lang/Math") (List.mem_of_getElem? (i := 4) (by decide +kernel))) (hts (.code Lib.Math.max.name Lib.Math.max.code 2 (some .int)) (List.mem_of_getElem? (i := 5) (by decide +kernel))) (Nat.le_of_ble_eq_true rfl) (Nat.le_of_ble_eq_true rfl) (Nat.le_of_ble_eq_true rfl) (Nat.le_of_ble_eq_true rfl) dX2_weaken_22 ?_
  refine va_iast hx hb hK hP hD hS 1 0 rfl rfl (vin (by decide)) dX2_weaken_25 (fun H locs hP hD hS => ?_)
  generalize hhg11 : upd g10 (Int32.toNatClampNeg 10) (if (0 : Int32) < ((0 : Int32) - p1) then ((0 : Int32) - p1) else 0) = g11 at hP hD
  have fg11_0 : g11 0 = (if (0 : Int32) < ((0 : Int32) - p1) then ((0 : Int32) - p1) else 0) := by rw [← hhg11]; exact (pk_un (by decide)).trans fg10_0
  have fg11_1 : g11 1 = (if (0 : Int32) < ((0 : Int32) - p1) then ((0 : Int32) - p1) else 0) := by rw [← hhg11]; exact (pk_un (by decide)).trans fg10_1
  have fg11_2 : g11 2 = (if (0 : Int32) < ((0 : Int32) - p1) then ((0 : Int32) - p1) else 0) := by rw [← hhg11]; exact (pk_un (by decide)).trans fg10_2
  have fg11_3 : g11 3 = (if (0 : Int32) < ((0 : Int32) - p1) then ((0 : Int32) - p1) else 0) := by rw [← hhg11]; exact (pk_un (by decide)).trans fg10_3
  have fg11_4 : g11 4 = (if (0 : Int32) < ((0 : Int32) - p1) then ((0 : Int32) - p1) else 0) := by rw [← hhg11]; exact (pk_un (by decide)).trans fg10_4
  have fg11_5 : g11 5 = (if (0 : Int32) < ((0 : Int32) - p1) then ((0 : Int32) - p1) else 0) := by rw [← hhg11]; exact (pk_un (by decide)).trans fg10_5
  have fg11_6 : g11 6 = (if (0 : Int32) < ((0 : Int32) - p1) then ((0 : Int32) - p1) else 0) := by rw [← hhg11]; exact (pk_un (by decide)).trans fg10_6
  have fg11_7 : g11 7 = (if (0 : Int32) < ((0 : Int32) - p1) then ((0 : Int32) - p1) else 0) := by rw [← hhg11]; exact (pk_un (by decide)).trans fg10_7
  have fg11_8 : g11 8 = (if (0 : Int32) < ((0 : Int32) - p1) then ((0 : Int32) - p1) else 0) := by rw [← hhg11]; exact (pk_un (by decide)).trans fg10_8
  have fg11_9 : g11 9 = (if (0 : Int32) < ((0 : Int32) - p1) then ((0 : Int32) - p1) else 0) := by rw [← hhg11]; exact (pk_un (by decide)).trans fg10_9
  have fg11_11 : g11 11 = 0 := by rw [← hhg11]; exact (pk_un (by decide)).trans fg10_11
  have fg11_10 : g11 10 = (if (0 : Int32) < ((0 : Int32) - p1) then ((0 : Int32) - p1) else 0) := by rw [← hhg11]; exact pk_us
  have hP : va_P D vwCl [(a0, .inr (2, [v0_0, v0_1, v0_2, v0_3, v0_4, v0_5, .ref a1, v0_7, v0_8, .int 1])), (a1, .inl (cy 0, 12, .inl g11))] H := hP
  have hD : va_D A [(a0, .inr (2, [v0_0, v0_1, v0_2, v0_3, v0_4, v0_5, .ref a1, v0_7, v0_8, .int 1])), (a1, .inl (cy 0, 12, .inl g11))] := hD
  refine lv_iinc (v := 11) (lv' := [(2, .int 11), (0, .ref a0), (1, .int p1)]) hx hb dX2_weaken_26 hl (k := 0) rfl (by decide) (by decide) rfl (fun ls hl => ?_)
  refine lv_goto (tgt := 2) hx hb dX2_weaken_29 (by decide) ?_
  refine lv_iload_n hx hb dX2_weaken_2 rfl (lv_at hl 0 rfl) ?_
  refine lv_bipush (v := 12) hx hb dX2_weaken_3 (by decide) ?_
  refine lv_icmp_ge (tgt := 32) hx hb dX2_weaken_5 (by decide) (fun c => absurd c (by decide)) (fun _ => ?_)
  refine lv_aload_n hx hb dX2_weaken_8 rfl (lv_at hl 1 rfl) ?_
  refine va_get (D := D) (cl := vwCl) (ci := 2) (v := .ref a1) (C := RX2) (T := TX2) (N := 10) hx hb hts in_X2_weaken_X2 hown hK hP 0 rfl rfl 6 (by decide) (hts (.fieldLink RX2 28 "EightReasons$Loom" "strong" "[I") (List.mem_of_getElem? (i := 1) (by decide +kernel))) (fun _ h9 => h9) rfl dX2_weaken_9 ?_
  refine lv_iload_n hx hb dX2_weaken_12 rfl (lv_at hl 0 rfl) ?_
  refine lv_iconst (v := 0) hx hb dX2_weaken_13 (by decide) ?_
  refine lv_aload_n hx hb dX2_weaken_14 rfl (lv_at hl 1 rfl) ?_
  refine va_get (D := D) (cl := vwCl) (ci := 2) (v := .ref a1) (C := RX2) (T := TX2) (N := 10) hx hb hts in_X2_weaken_X2 hown hK hP 0 rfl rfl 6 (by decide) (hts (.fieldLink RX2 28 "EightReasons$Loom" "strong" "[I") (List.mem_of_getElem? (i := 1) (by decide +kernel))) (fun _ h9 => h9) rfl dX2_weaken_15 ?_
  refine lv_iload_n hx hb dX2_weaken_18 rfl (lv_at hl 0 rfl) ?_
  refine va_iald hx hb hK hP 1 0 rfl rfl (vin (by decide)) dX2_weaken_19 (tpi (v := 0) fg11_11 ?_)
  refine lv_iload_n hx hb dX2_weaken_20 rfl (lv_at hl 2 rfl) ?_
  refine lv_isub hx hb dX2_weaken_21 ?_
  refine va_mmax hx hb (hml.trans hl.1.symm) hown (hts (.methodLink RX2 68 Lib.Math.max.name) (List.mem_of_getElem? (i := 2) (by decide +kernel))) (hts (.static Lib.Math.max.name) (List.mem_of_getElem? (i := 3) (by decide +kernel))) (hts (.initialized "java/lang/Math") (List.mem_of_getElem? (i := 4) (by decide +kernel))) (hts (.code Lib.Math.max.name Lib.Math.max.code 2 (some .int)) (List.mem_of_getElem? (i := 5) (by decide +kernel))) (Nat.le_of_ble_eq_true rfl) (Nat.le_of_ble_eq_true rfl) (Nat.le_of_ble_eq_true rfl) (Nat.le_of_ble_eq_true rfl) dX2_weaken_22 ?_
  refine va_iast hx hb hK hP hD hS 1 0 rfl rfl (vin (by decide)) dX2_weaken_25 (fun H locs hP hD hS => ?_)
  generalize hhg12 : upd g11 (Int32.toNatClampNeg 11) (if (0 : Int32) < ((0 : Int32) - p1) then ((0 : Int32) - p1) else 0) = g12 at hP hD
  have fg12_0 : g12 0 = (if (0 : Int32) < ((0 : Int32) - p1) then ((0 : Int32) - p1) else 0) := by rw [← hhg12]; exact (pk_un (by decide)).trans fg11_0
  have fg12_1 : g12 1 = (if (0 : Int32) < ((0 : Int32) - p1) then ((0 : Int32) - p1) else 0) := by rw [← hhg12]; exact (pk_un (by decide)).trans fg11_1
  have fg12_2 : g12 2 = (if (0 : Int32) < ((0 : Int32) - p1) then ((0 : Int32) - p1) else 0) := by rw [← hhg12]; exact (pk_un (by decide)).trans fg11_2
  have fg12_3 : g12 3 = (if (0 : Int32) < ((0 : Int32) - p1) then ((0 : Int32) - p1) else 0) := by rw [← hhg12]; exact (pk_un (by decide)).trans fg11_3
  have fg12_4 : g12 4 = (if (0 : Int32) < ((0 : Int32) - p1) then ((0 : Int32) - p1) else 0) := by rw [← hhg12]; exact (pk_un (by decide)).trans fg11_4
  have fg12_5 : g12 5 = (if (0 : Int32) < ((0 : Int32) - p1) then ((0 : Int32) - p1) else 0) := by rw [← hhg12]; exact (pk_un (by decide)).trans fg11_5
  have fg12_6 : g12 6 = (if (0 : Int32) < ((0 : Int32) - p1) then ((0 : Int32) - p1) else 0) := by rw [← hhg12]; exact (pk_un (by decide)).trans fg11_6
  have fg12_7 : g12 7 = (if (0 : Int32) < ((0 : Int32) - p1) then ((0 : Int32) - p1) else 0) := by rw [← hhg12]; exact (pk_un (by decide)).trans fg11_7
  have fg12_8 : g12 8 = (if (0 : Int32) < ((0 : Int32) - p1) then ((0 : Int32) - p1) else 0) := by rw [← hhg12]; exact (pk_un (by decide)).trans fg11_8
  have fg12_9 : g12 9 = (if (0 : Int32) < ((0 : Int32) - p1) then ((0 : Int32) - p1) else 0) := by rw [← hhg12]; exact (pk_un (by decide)).trans fg11_9
  have fg12_10 : g12 10 = (if (0 : Int32) < ((0 : Int32) - p1) then ((0 : Int32) - p1) else 0) := by rw [← hhg12]; exact (pk_un (by decide)).trans fg11_10
  have fg12_11 : g12 11 = (if (0 : Int32) < ((0 : Int32) - p1) then ((0 : Int32) - p1) else 0) := by rw [← hhg12]; exact pk_us
  have hP : va_P D vwCl [(a0, .inr (2, [v0_0, v0_1, v0_2, v0_3, v0_4, v0_5, .ref a1, v0_7, v0_8, .int 1])), (a1, .inl (cy 0, 12, .inl g12))] H := hP
  have hD : va_D A [(a0, .inr (2, [v0_0, v0_1, v0_2, v0_3, v0_4, v0_5, .ref a1, v0_7, v0_8, .int 1])), (a1, .inl (cy 0, 12, .inl g12))] := hD
  refine lv_iinc (v := 12) (lv' := [(2, .int 12), (0, .ref a0), (1, .int p1)]) hx hb dX2_weaken_26 hl (k := 0) rfl (by decide) (by decide) rfl (fun ls hl => ?_)
  refine lv_goto (tgt := 2) hx hb dX2_weaken_29 (by decide) ?_
  refine lv_iload_n hx hb dX2_weaken_2 rfl (lv_at hl 0 rfl) ?_
  refine lv_bipush (v := 12) hx hb dX2_weaken_3 (by decide) ?_
  refine lv_icmp_ge (tgt := 32) hx hb dX2_weaken_5 (by decide) (fun _ => ?_) (fun c => absurd (by decide) c)
  refine lv_aload_n hx hb dX2_weaken_32 rfl (lv_at hl 1 rfl) ?_
  refine lv_dup hx hb dX2_weaken_33 rfl ?_
  refine va_get (D := D) (cl := vwCl) (ci := 2) (v := .int 1) (C := RX2) (T := TX2) (N := 10) hx hb hts in_X2_weaken_X2 hown hK hP 0 rfl rfl 9 (by decide) (hts (.fieldLink RX2 61 "EightReasons$Loom" "era" "I") (List.mem_of_getElem? (i := 6) (by decide +kernel))) (fun _ h9 => h9) rfl dX2_weaken_34 ?_
  refine lv_iconst (v := 1) hx hb dX2_weaken_37 (by decide) ?_
  refine lv_iadd hx hb dX2_weaken_38 (tpi (v := 2) (by decide) ?_)
  refine va_put (D := D) (cl := vwCl) (ci := 2) (v := .int 2) (ty := tyX2 9) (C := RX2) (T := TX2) (N := 10) hx hb hts in_X2_weaken_X2 tyX2 tyX2_ok nmX2 hown hK hP hD hS 0 rfl rfl 9 (by decide) (hts (.fieldLink RX2 61 "EightReasons$Loom" "era" "I") (List.mem_of_getElem? (i := 6) (by decide +kernel))) (fun _ h9 => h9) rfl (tyX2_ok 9 (by decide)) rfl rfl (Nat.le_of_ble_eq_true rfl) dX2_weaken_39 (fun H locs hP hD hS => ?_)
  have hP : va_P D vwCl [(a0, .inr (2, [v0_0, v0_1, v0_2, v0_3, v0_4, v0_5, .ref a1, v0_7, v0_8, .int 2])), (a1, .inl (cy 0, 12, .inl g12))] H := hP
  have hD : va_D A [(a0, .inr (2, [v0_0, v0_1, v0_2, v0_3, v0_4, v0_5, .ref a1, v0_7, v0_8, .int 2])), (a1, .inl (cy 0, 12, .inl g12))] := hD
  exact rtV hx hb hr hlk hP hD hS (fun j => [g12].getD j zI) [0, 1] rfl rfl trivial dX2_weaken_42
set_option maxHeartbeats 4000000 in
set_option maxRecDepth 100000 in
theorem k_X8_shock_0 (l : Launch) (D : va_G) (cy : Nat → ClassId) (a0 a1 a2 a3 a4 a5 a6 a7 a8 a9 a10 r0 : Nat) (v0_0 : Value) (v0_3 : Value) (v0_4 : Value) (v0_5 : Value) (v0_7 : Value) (v0_8 : Value) (v0_9 : Value) (v0_10 : Value) (v0_11 : Value) (v0_12 : Value) (v1_2 : Value) (v1_3 : Value) (g2_ : Nat → Option Nat) (x3_0 : Int32) (v3_1 : Value) (v3_3 : Value) (v3_5 : Value) (v3_8 : Value) (v4_3 : Value) (v4_4 : Value) (v4_6 : Value) (v4_7 : Value) (v4_8 : Value) (v4_9 : Value) (v4_10 : Value) (v4_11 : Value) (x5_1 : Int32) (x5_3 : Int32) (v5_4 : Value) (p1 : Int32) (sz : Nat) (hf2_0 : g2_ 0 = some a5) : CtI l yX8_shock wsX8_shock 3 102 [.ref a0, .int p1] D cy [(a0, .inr (8, [v0_0, .ref a4, .ref a1, v0_3, v0_4, v0_5, .ref a3, v0_7, v0_8, v0_9, v0_10, v0_11, v0_12])), (a1, .inr (0, [.ref a2, .int 0, v1_2, v1_3])), (a2, .inl (cy 4, 41, .inr (.inr (.inr (.inr g2_))))), (a3, .inr (2, [.int x3_0, v3_1, .ref a10, v3_3, .ref r0, v3_5, .ref a7, .ref a9, v3_8, .int 0])), (a4, .inr (5, [.int 0, .int 0, .int 0, v4_3, v4_4, .ref a8, v4_6, v4_7, v4_8, v4_9, v4_10, v4_11])), (a5, .inr (4, [.ref a6, .int x5_1, .int 0, .int x5_3, v5_4])), (a6, .inl (cy 0, 12, .inl zI)), (a7, .inl (cy 0, 12, .inl zI)), (a8, .inl (cy 0, 10, .inl zI)), (a9, .inl (cy 0, 10, .inl zI)), (a10, .inl (cy 0, 10, .inl zI))] sz 0 0 (fun (r : Int32) (_ : Unit) => (r = (-1) ∧ (((p1 < 0)) ∨ ((¬ p1 < 0) ∧ (¬ p1 ≤ 20)))) ∨ (r = 0 ∧ (((¬ p1 < 0) ∧ (p1 ≤ 20))))) (fun _ => []) := by
  refine CtI.of (cc := cX8_shock) (maxL := 2) (ty := .int) (own := RX8) (by decide) rfl (Nat.le_of_ble_eq_true rfl) rfl ?_
  intro p e s m below meth c A ls hx hb hr hml hts hown hlk hK hP hD hS hA hl
  have hl : lv_has ls 2 [(0, .ref a0), (1, .int p1)] := hl
  refine st0 (fun H locs hP hS => ?_) hP hS
  have hP : va_P D vwCl [(a0, .inr (8, [v0_0, .ref a4, .ref a1, v0_3, v0_4, v0_5, .ref a3, v0_7, v0_8, v0_9, v0_10, v0_11, v0_12])), (a1, .inr (0, [.ref a2, .int 0, v1_2, v1_3])), (a2, .inl (cy 4, 41, .inr (.inr (.inr (.inr g2_))))), (a3, .inr (2, [.int x3_0, v3_1, .ref a10, v3_3, .ref r0, v3_5, .ref a7, .ref a9, v3_8, .int 0])), (a4, .inr (5, [.int 0, .int 0, .int 0, v4_3, v4_4, .ref a8, v4_6, v4_7, v4_8, v4_9, v4_10, v4_11])), (a5, .inr (4, [.ref a6, .int x5_1, .int 0, .int x5_3, v5_4])), (a6, .inl (cy 0, 12, .inl zI)), (a7, .inl (cy 0, 12, .inl zI)), (a8, .inl (cy 0, 10, .inl zI)), (a9, .inl (cy 0, 10, .inl zI)), (a10, .inl (cy 0, 10, .inl zI))] H := hP
  have hD : va_D A [(a0, .inr (8, [v0_0, .ref a4, .ref a1, v0_3, v0_4, v0_5, .ref a3, v0_7, v0_8, v0_9, v0_10, v0_11, v0_12])), (a1, .inr (0, [.ref a2, .int 0, v1_2, v1_3])), (a2, .inl (cy 4, 41, .inr (.inr (.inr (.inr g2_))))), (a3, .inr (2, [.int x3_0, v3_1, .ref a10, v3_3, .ref r0, v3_5, .ref a7, .ref a9, v3_8, .int 0])), (a4, .inr (5, [.int 0, .int 0, .int 0, v4_3, v4_4, .ref a8, v4_6, v4_7, v4_8, v4_9, v4_10, v4_11])), (a5, .inr (4, [.ref a6, .int x5_1, .int 0, .int x5_3, v5_4])), (a6, .inl (cy 0, 12, .inl zI)), (a7, .inl (cy 0, 12, .inl zI)), (a8, .inl (cy 0, 10, .inl zI)), (a9, .inl (cy 0, 10, .inl zI)), (a10, .inl (cy 0, 10, .inl zI))] := hD
  refine lv_iload_n hx hb dX8_shock_0 rfl (lv_at hl 1 rfl) ?_
  refine lv_if_lt (tgt := 10) hx hb dX8_shock_1 (by decide) (fun c1 => ?_) (fun c1 => ?_)
  · refine lv_iconst (v := (-1)) hx hb dX8_shock_10 (by decide) ?_
    exact rtI hx hb hr hlk rfl hP hD hS () [] rfl rfl (Or.inl ⟨rfl, (Or.inl c1)⟩) dX8_shock_11
  · refine lv_iload_n hx hb dX8_shock_4 rfl (lv_at hl 1 rfl) ?_
    refine lv_bipush (v := 20) hx hb dX8_shock_5 (by decide) ?_
    refine lv_icmp_le (tgt := 12) hx hb dX8_shock_7 (by decide) (fun c2 => ?_) (fun c2 => ?_)
    · refine lv_aload_n hx hb dX8_shock_12 rfl (lv_at hl 0 rfl) ?_
      refine clVV (As := []) (rest := []) (wr := [(a10, .inl (cy 0, 10, .inl zI))]) ⟨hx, hb, hml, hown, hts⟩ hK hP hD hS hA (k_X8_look_0 l D cy a0 a1 a2 a3 a4 a5 a6 a7 a8 a9 (v0_0) (v0_3) (v0_4) (v0_5) (v0_7) (v0_8) (v0_9) (v0_10) (v0_11) (v0_12) (v1_2) (v1_3) g2_ (.int x3_0) (v3_1) (.ref a10) (v3_3) (.ref r0) (v3_5) (v3_8) (.int 0) (.int 0) (v4_3) (v4_4) (v4_6) (v4_7) (v4_8) (v4_9) (v4_10) (v4_11) (.int x5_1) x5_3 (v5_4) _ hf2_0) (cwV 0 hts gX8_shock_X8_look rfl rfl rfl (by decide +kernel) ⟨Nat.le_of_ble_eq_true rfl, Nat.le_of_ble_eq_true rfl⟩) 0 8 rfl rfl [0, 1, 2, 3, 4, 5, 6, 7, 8, 9] [10] rfl rfl rfl rfl (by decide) rfl hl.1 rfl (Nat.le_of_ble_eq_true rfl) dX8_shock_13 ⟨Nat.le_of_ble_eq_true rfl, Nat.le_of_ble_eq_true rfl⟩ rfl rfl (fun _ H locs _ hP hD hS => ?_)
      have hP : va_P D vwCl [(a10, .inl (cy 0, 10, .inl zI)), (a0, .inr (8, [v0_0, .ref a4, .ref a1, v0_3, v0_4, v0_5, .ref a3, v0_7, v0_8, v0_9, v0_10, v0_11, v0_12])), (a1, .inr (0, [.ref a2, .int 0, v1_2, v1_3])), (a2, .inl (cy 4, 41, .inr (.inr (.inr (.inr g2_))))), (a3, .inr (2, [.int 0, v3_1, .ref a10, v3_3, .ref a4, .int x5_3, .ref a7, .ref a9, v3_8, .int 1])), (a4, .inr (5, [.int 0, .int 0, .int 0, v4_3, v4_4, .ref a8, v4_6, v4_7, v4_8, v4_9, v4_10, v4_11])), (a5, .inr (4, [.ref a6, .int x5_1, .int 0, .int x5_3, v5_4])), (a6, .inl (cy 0, 12, .inl zI)), (a7, .inl (cy 0, 12, .inl zI)), (a8, .inl (cy 0, 10, .inl zI)), (a9, .inl (cy 0, 10, .inl zI))] H := hP
      have hD : va_D A [(a10, .inl (cy 0, 10, .inl zI)), (a0, .inr (8, [v0_0, .ref a4, .ref a1, v0_3, v0_4, v0_5, .ref a3, v0_7, v0_8, v0_9, v0_10, v0_11, v0_12])), (a1, .inr (0, [.ref a2, .int 0, v1_2, v1_3])), (a2, .inl (cy 4, 41, .inr (.inr (.inr (.inr g2_))))), (a3, .inr (2, [.int 0, v3_1, .ref a10, v3_3, .ref a4, .int x5_3, .ref a7, .ref a9, v3_8, .int 1])), (a4, .inr (5, [.int 0, .int 0, .int 0, v4_3, v4_4, .ref a8, v4_6, v4_7, v4_8, v4_9, v4_10, v4_11])), (a5, .inr (4, [.ref a6, .int x5_1, .int 0, .int x5_3, v5_4])), (a6, .inl (cy 0, 12, .inl zI)), (a7, .inl (cy 0, 12, .inl zI)), (a8, .inl (cy 0, 10, .inl zI)), (a9, .inl (cy 0, 10, .inl zI))] := hD
      refine lv_aload_n hx hb dX8_shock_16 rfl (lv_at hl 0 rfl) ?_
      refine va_get (D := D) (cl := vwCl) (ci := 8) (v := .ref a3) (C := RX8) (T := TX8) (N := 13) hx hb hts in_X8_shock_X8 hown hK hP 1 rfl rfl 6 (by decide) (hts (.fieldLink RX8 44 "EightReasons" "loom" "LEightReasons$Loom;") (List.mem_of_getElem? (i := 1) (by decide +kernel))) (fun _ h9 => h9) rfl dX8_shock_17 ?_
      refine lv_iload_n hx hb dX8_shock_20 rfl (lv_at hl 1 rfl) ?_
      refine clVV (As := [.int p1]) (rest := []) (wr := [(a10, .inl (cy 0, 10, .inl zI)), (a0, .inr (8, [v0_0, .ref a4, .ref a1, v0_3, v0_4, v0_5, .ref a3, v0_7, v0_8, v0_9, v0_10, v0_11, v0_12])), (a1, .inr (0, [.ref a2, .int 0, v1_2, v1_3])), (a2, .inl (cy 4, 41, .inr (.inr (.inr (.inr g2_))))), (a4, .inr (5, [.int 0, .int 0, .int 0, v4_3, v4_4, .ref a8, v4_6, v4_7, v4_8, v4_9, v4_10, v4_11])), (a5, .inr (4, [.ref a6, .int x5_1, .int 0, .int x5_3, v5_4])), (a6, .inl (cy 0, 12, .inl zI)), (a8, .inl (cy 0, 10, .inl zI)), (a9, .inl (cy 0, 10, .inl zI))]) ⟨hx, hb, hml, hown, hts⟩ hK hP hD hS hA (k_X2_weaken_0 l D cy a3 a7 (.int 0) (v3_1) (.ref a10) (v3_3) (.ref a4) (.int x5_3) (.ref a9) (v3_8) p1 _) (cwV 1 hts gX8_shock_X2_weaken rfl rfl rfl (by decide +kernel) ⟨Nat.le_of_ble_eq_true rfl, Nat.le_of_ble_eq_true rfl⟩) 4 2 rfl rfl [4, 8] [0, 1, 2, 3, 5, 6, 7, 9, 10] rfl rfl rfl rfl (by decide) rfl hl.1 rfl (Nat.le_of_ble_eq_true rfl) dX8_shock_21 ⟨Nat.le_of_ble_eq_true rfl, Nat.le_of_ble_eq_true rfl⟩ rfl rfl (fun u4 H locs _ hP hD hS => ?_)
      have hP : va_P D vwCl [(a10, .inl (cy 0, 10, .inl zI)), (a0, .inr (8, [v0_0, .ref a4, .ref a1, v0_3, v0_4, v0_5, .ref a3, v0_7, v0_8, v0_9, v0_10, v0_11, v0_12])), (a1, .inr (0, [.ref a2, .int 0, v1_2, v1_3])), (a2, .inl (cy 4, 41, .inr (.inr (.inr (.inr g2_))))), (a4, .inr (5, [.int 0, .int 0, .int 0, v4_3, v4_4, .ref a8, v4_6, v4_7, v4_8, v4_9, v4_10, v4_11])), (a5, .inr (4, [.ref a6, .int x5_1, .int 0, .int x5_3, v5_4])), (a6, .inl (cy 0, 12, .inl zI)), (a8, .inl (cy 0, 10, .inl zI)), (a9, .inl (cy 0, 10, .inl zI)), (a3, .inr (2, [.int 0, v3_1, .ref a10, v3_3, .ref a4, .int x5_3, .ref a7, .ref a9, v3_8, .int 2])), (a7, .inl (cy 0, 12, .inl (u4 0)))] H := hP
      have hD : va_D A [(a10, .inl (cy 0, 10, .inl zI)), (a0, .inr (8, [v0_0, .ref a4, .ref a1, v0_3, v0_4, v0_5, .ref a3, v0_7, v0_8, v0_9, v0_10, v0_11, v0_12])), (a1, .inr (0, [.ref a2, .int 0, v1_2, v1_3])), (a2, .inl (cy 4, 41, .inr (.inr (.inr (.inr g2_))))), (a4, .inr (5, [.int 0, .int 0, .int 0, v4_3, v4_4, .ref a8, v4_6, v4_7, v4_8, v4_9, v4_10, v4_11])), (a5, .inr (4, [.ref a6, .int x5_1, .int 0, .int x5_3, v5_4])), (a6, .inl (cy 0, 12, .inl zI)), (a8, .inl (cy 0, 10, .inl zI)), (a9, .inl (cy 0, 10, .inl zI)), (a3, .inr (2, [.int 0, v3_1, .ref a10, v3_3, .ref a4, .int x5_3, .ref a7, .ref a9, v3_8, .int 2])), (a7, .inl (cy 0, 12, .inl (u4 0)))] := hD
      refine lv_aload_n hx hb dX8_shock_24 rfl (lv_at hl 0 rfl) ?_
      refine lv_aload_n hx hb dX8_shock_25 rfl (lv_at hl 0 rfl) ?_
      refine clVR (As := []) (rest := [.ref a0]) (wr := [(a10, .inl (cy 0, 10, .inl zI)), (a4, .inr (5, [.int 0, .int 0, .int 0, v4_3, v4_4, .ref a8, v4_6, v4_7, v4_8, v4_9, v4_10, v4_11])), (a5, .inr (4, [.ref a6, .int x5_1, .int 0, .int x5_3, v5_4])), (a6, .inl (cy 0, 12, .inl zI)), (a8, .inl (cy 0, 10, .inl zI)), (a9, .inl (cy 0, 10, .inl zI)), (a3, .inr (2, [.int 0, v3_1, .ref a10, v3_3, .ref a4, .int x5_3, .ref a7, .ref a9, v3_8, .int 2])), (a7, .inl (cy 0, 12, .inl (u4 0)))]) ⟨hx, hb, hml, hown, hts⟩ hK hP hD hS hA (k_X8_now_0 l D cy a0 a1 a2 a5 (v0_0) (.ref a4) (v0_3) (v0_4) (v0_5) (.ref a3) (v0_7) (v0_8) (v0_9) (v0_10) (v0_11) (v0_12) (v1_2) (v1_3) g2_ _ hf2_0) (cwV 0 hts gX8_shock_X8_now rfl rfl rfl (by decide +kernel) ⟨Nat.le_of_ble_eq_true rfl, Nat.le_of_ble_eq_true rfl⟩) 1 8 rfl rfl [1, 2, 3] [0, 4, 5, 6, 7, 8, 9, 10] rfl rfl rfl rfl (by decide) rfl hl.1 rfl (Nat.le_of_ble_eq_true rfl) dX8_shock_26 ⟨Nat.le_of_ble_eq_true rfl, Nat.le_of_ble_eq_true rfl⟩ rfl rfl (fun _ H locs _ hP hD hS => ?_)
      have hP : va_P D vwCl [(a10, .inl (cy 0, 10, .inl zI)), (a4, .inr (5, [.int 0, .int 0, .int 0, v4_3, v4_4, .ref a8, v4_6, v4_7, v4_8, v4_9, v4_10, v4_11])), (a5, .inr (4, [.ref a6, .int x5_1, .int 0, .int x5_3, v5_4])), (a6, .inl (cy 0, 12, .inl zI)), (a8, .inl (cy 0, 10, .inl zI)), (a9, .inl (cy 0, 10, .inl zI)), (a3, .inr (2, [.int 0, v3_1, .ref a10, v3_3, .ref a4, .int x5_3, .ref a7, .ref a9, v3_8, .int 2])), (a7, .inl (cy 0, 12, .inl (u4 0))), (a0, .inr (8, [v0_0, .ref a4, .ref a1, v0_3, v0_4, v0_5, .ref a3, v0_7, v0_8, v0_9, v0_10, v0_11, v0_12])), (a1, .inr (0, [.ref a2, .int 0, v1_2, v1_3])), (a2, .inl (cy 4, 41, .inr (.inr (.inr (.inr g2_)))))] H := hP
      have hD : va_D A [(a10, .inl (cy 0, 10, .inl zI)), (a4, .inr (5, [.int 0, .int 0, .int 0, v4_3, v4_4, .ref a8, v4_6, v4_7, v4_8, v4_9, v4_10, v4_11])), (a5, .inr (4, [.ref a6, .int x5_1, .int 0, .int x5_3, v5_4])), (a6, .inl (cy 0, 12, .inl zI)), (a8, .inl (cy 0, 10, .inl zI)), (a9, .inl (cy 0, 10, .inl zI)), (a3, .inr (2, [.int 0, v3_1, .ref a10, v3_3, .ref a4, .int x5_3, .ref a7, .ref a9, v3_8, .int 2])), (a7, .inl (cy 0, 12, .inl (u4 0))), (a0, .inr (8, [v0_0, .ref a4, .ref a1, v0_3, v0_4, v0_5, .ref a3, v0_7, v0_8, v0_9, v0_10, v0_11, v0_12])), (a1, .inr (0, [.ref a2, .int 0, v1_2, v1_3])), (a2, .inl (cy 4, 41, .inr (.inr (.inr (.inr g2_)))))] := hD
      refine W.eq (g2 := F0 m 29 ls (.ref a5 :: [.ref a0])) rfl ?_
      refine va_get (D := D) (cl := vwCl) (ci := 4) (v := .int x5_1) (C := RX4) (T := TX4) (N := 5) hx hb hts in_X8_shock_X4 hown hK hP 2 rfl rfl 1 (by decide) (hts (.fieldLink RX8 145 "EightReasons$State" "tied" "I") (List.mem_of_getElem? (i := 2) (by decide +kernel))) (fun _ h9 => h9) rfl dX8_shock_29 ?_
      refine clVI (As := [.int x5_1]) (rest := []) (wr := [(a5, .inr (4, [.ref a6, .int x5_1, .int 0, .int x5_3, v5_4])), (a6, .inl (cy 0, 12, .inl zI)), (a8, .inl (cy 0, 10, .inl zI)), (a9, .inl (cy 0, 10, .inl zI)), (a7, .inl (cy 0, 12, .inl (u4 0))), (a1, .inr (0, [.ref a2, .int 0, v1_2, v1_3])), (a2, .inl (cy 4, 41, .inr (.inr (.inr (.inr g2_)))))]) ⟨hx, hb, hml, hown, hts⟩ hK hP hD hS hA (k_X8_claimsWith_0 l D cy a0 a3 a4 a10 (v0_0) (.ref a1) (v0_3) (v0_4) (v0_5) (v0_7) (v0_8) (v0_9) (v0_10) (v0_11) (v0_12) (v3_1) (v3_3) (.int x5_3) (.ref a7) (.ref a9) (v3_8) (.int 2) (v4_3) (v4_4) (.ref a8) (v4_6) (v4_7) (v4_8) (v4_9) (v4_10) (v4_11) x5_1 _) (cwV 1 hts gX8_shock_X8_claimsWith rfl rfl rfl (by decide +kernel) ⟨Nat.le_of_ble_eq_true rfl, Nat.le_of_ble_eq_true rfl⟩) 8 8 rfl rfl [8, 6, 1, 0] [2, 3, 4, 5, 7, 9, 10] rfl rfl rfl rfl (by decide) rfl hl.1 rfl (Nat.le_of_ble_eq_true rfl) dX8_shock_32 ⟨Nat.le_of_ble_eq_true rfl, Nat.le_of_ble_eq_true rfl⟩ rfl rfl (fun r _ H locs hw hP hD hS => ?_)
      have hP : va_P D vwCl [(a5, .inr (4, [.ref a6, .int x5_1, .int 0, .int x5_3, v5_4])), (a6, .inl (cy 0, 12, .inl zI)), (a8, .inl (cy 0, 10, .inl zI)), (a9, .inl (cy 0, 10, .inl zI)), (a7, .inl (cy 0, 12, .inl (u4 0))), (a1, .inr (0, [.ref a2, .int 0, v1_2, v1_3])), (a2, .inl (cy 4, 41, .inr (.inr (.inr (.inr g2_))))), (a0, .inr (8, [v0_0, .ref a4, .ref a1, v0_3, v0_4, v0_5, .ref a3, v0_7, v0_8, v0_9, v0_10, v0_11, v0_12])), (a3, .inr (2, [.int 0, v3_1, .ref a10, v3_3, .ref a4, .int x5_3, .ref a7, .ref a9, v3_8, .int 2])), (a4, .inr (5, [.int 0, .int 0, .int 0, v4_3, v4_4, .ref a8, v4_6, v4_7, v4_8, v4_9, v4_10, v4_11])), (a10, .inl (cy 0, 10, .inl zI))] H := hP
      have hD : va_D A [(a5, .inr (4, [.ref a6, .int x5_1, .int 0, .int x5_3, v5_4])), (a6, .inl (cy 0, 12, .inl zI)), (a8, .inl (cy 0, 10, .inl zI)), (a9, .inl (cy 0, 10, .inl zI)), (a7, .inl (cy 0, 12, .inl (u4 0))), (a1, .inr (0, [.ref a2, .int 0, v1_2, v1_3])), (a2, .inl (cy 4, 41, .inr (.inr (.inr (.inr g2_))))), (a0, .inr (8, [v0_0, .ref a4, .ref a1, v0_3, v0_4, v0_5, .ref a3, v0_7, v0_8, v0_9, v0_10, v0_11, v0_12])), (a3, .inr (2, [.int 0, v3_1, .ref a10, v3_3, .ref a4, .int x5_3, .ref a7, .ref a9, v3_8, .int 2])), (a4, .inr (5, [.int 0, .int 0, .int 0, v4_3, v4_4, .ref a8, v4_6, v4_7, v4_8, v4_9, v4_10, v4_11])), (a10, .inl (cy 0, 10, .inl zI))] := hD
      obtain rfl : r = 0 := hw
      exact rtI hx hb hr hlk rfl hP hD hS () [] rfl rfl (Or.inr ⟨rfl, ⟨c1, c2⟩⟩) dX8_shock_35
    · refine lv_iconst (v := (-1)) hx hb dX8_shock_10 (by decide) ?_
      exact rtI hx hb hr hlk rfl hP hD hS () [] rfl rfl (Or.inl ⟨rfl, (Or.inr ⟨c1, c2⟩)⟩) dX8_shock_11
set_option maxHeartbeats 4000000 in
set_option maxRecDepth 100000 in
theorem k_X9_isIn_5 (l : Launch) (D : va_G) (cy : Nat → ClassId)  (p0 : Int32) (sz : Nat) : CtI l yX9_isIn wsX9_isIn 0 0 [.int p0, .int 0, .int 20] D cy [] sz 0 0 (fun (r : Int32) (_ : Unit) => (r = 0 ∧ (((p0 < 0)) ∨ ((¬ p0 < 0) ∧ (20 < p0)))) ∨ (r = 1 ∧ (((¬ p0 < 0) ∧ (¬ 20 < p0))))) (fun _ => []) := by
  refine CtI.of (cc := cX9_isIn) (maxL := 3) (ty := .boolean) (own := RX9) (by decide) rfl (Nat.le_of_ble_eq_true rfl) rfl ?_
  intro p e s m below meth c A ls hx hb hr hml hts hown hlk hK hP hD hS hA hl
  have hl : lv_has ls 3 [(0, .int p0), (1, .int 0), (2, .int 20)] := hl
  refine st0 (fun H locs hP hS => ?_) hP hS
  have hP : va_P D vwCl [] H := hP
  have hD : va_D A [] := hD
  refine lv_iload_n hx hb dX9_isIn_0 rfl (lv_at hl 0 rfl) ?_
  refine lv_iload_n hx hb dX9_isIn_1 rfl (lv_at hl 1 rfl) ?_
  refine lv_icmp_lt (tgt := 14) hx hb dX9_isIn_2 (by decide) (fun c1 => ?_) (fun c1 => ?_)
  · refine lv_iconst (v := 0) hx hb dX9_isIn_14 (by decide) ?_
    exact rtI hx hb hr hlk rfl hP hD hS () [] rfl rfl (Or.inl ⟨rfl, (Or.inl c1)⟩) dX9_isIn_15
  · refine lv_iload_n hx hb dX9_isIn_5 rfl (lv_at hl 0 rfl) ?_
    refine lv_iload_n hx hb dX9_isIn_6 rfl (lv_at hl 2 rfl) ?_
    refine lv_icmp_gt (tgt := 14) hx hb dX9_isIn_7 (by decide) (fun c2 => ?_) (fun c2 => ?_)
    · refine lv_iconst (v := 0) hx hb dX9_isIn_14 (by decide) ?_
      exact rtI hx hb hr hlk rfl hP hD hS () [] rfl rfl (Or.inl ⟨rfl, (Or.inr ⟨c1, c2⟩)⟩) dX9_isIn_15
    · refine lv_iconst (v := 1) hx hb dX9_isIn_10 (by decide) ?_
      refine lv_goto (tgt := 15) hx hb dX9_isIn_11 (by decide) ?_
      exact rtI hx hb hr hlk rfl hP hD hS () [] rfl rfl (Or.inr ⟨rfl, ⟨c1, c2⟩⟩) dX9_isIn_15
set_option maxHeartbeats 4000000 in
set_option maxRecDepth 100000 in
theorem k_X9_bringBack_1 (l : Launch) (D : va_G) (cy : Nat → ClassId) (a0 a1 a2 : Nat) (v0_0 : Value) (v0_1 : Value) (v0_2 : Value) (v0_3 : Value) (v0_4 : Value) (v0_5 : Value) (v0_6 : Value) (v0_7 : Value) (v0_8 : Value) (v0_9 : Value) (v0_10 : Value) (v0_11 : Value) (v0_12 : Value) (v0_13 : Value) (v0_14 : Value) (v0_15 : Value) (v0_16 : Value) (v0_17 : Value) (v0_18 : Value) (v0_19 : Value) (v0_20 : Value) (v0_21 : Value) (v0_22 : Value) (v0_23 : Value) (v0_24 : Value) (v0_25 : Value) (v0_26 : Value) (v0_27 : Value) (v0_28 : Value) (v0_29 : Value) (v0_30 : Value) (v0_31 : Value) (v0_32 : Value) (v0_33 : Value) (v0_34 : Value) (v0_35 : Value) (v0_36 : Value) (v0_39 : Value) (v0_40 : Value) (v0_41 : Value) (v0_42 : Value) (v0_43 : Value) (v0_44 : Value) (v0_45 : Value) (v0_46 : Value) (v0_47 : Value) (v0_48 : Value) (v0_49 : Value) (v0_50 : Value) (v0_51 : Value) (v0_52 : Value) (v0_53 : Value) (v0_54 : Value) (v0_55 : Value) (v0_56 : Value) (v0_57 : Value) (v0_58 : Value) (v0_59 : Value) (v0_60 : Value) (v0_61 : Value) (v0_62 : Value) (v0_63 : Value) (sz : Nat) : CtV l yX9_bringBack wsX9_bringBack 0 0 [.ref a0] D cy [(a0, .inr (9, [v0_0, v0_1, v0_2, v0_3, v0_4, v0_5, v0_6, v0_7, v0_8, v0_9, v0_10, v0_11, v0_12, v0_13, v0_14, v0_15, v0_16, v0_17, v0_18, v0_19, v0_20, v0_21, v0_22, v0_23, v0_24, v0_25, v0_26, v0_27, v0_28, v0_29, v0_30, v0_31, v0_32, v0_33, v0_34, v0_35, v0_36, .ref a2, .ref a1, v0_39, v0_40, v0_41, v0_42, v0_43, v0_44, v0_45, v0_46, v0_47, v0_48, v0_49, v0_50, v0_51, v0_52, v0_53, v0_54, v0_55, v0_56, v0_57, v0_58, v0_59, v0_60, v0_61, v0_62, v0_63])), (a1, .inl (cy 0, 16, .inl zI)), (a2, .inl (cy 0, 16, .inl zI))] sz 0 0 (fun (_ : Unit) => True) (fun _ => [(a0, .inr (9, [v0_0, v0_1, v0_2, v0_3, v0_4, v0_5, v0_6, v0_7, v0_8, v0_9, v0_10, v0_11, v0_12, v0_13, v0_14, v0_15, v0_16, v0_17, v0_18, v0_19, v0_20, v0_21, v0_22, v0_23, v0_24, v0_25, v0_26, v0_27, v0_28, v0_29, v0_30, v0_31, v0_32, v0_33, v0_34, v0_35, v0_36, .ref a2, .ref a1, v0_39, v0_40, v0_41, v0_42, v0_43, v0_44, v0_45, v0_46, v0_47, v0_48, v0_49, v0_50, v0_51, v0_52, v0_53, v0_54, v0_55, v0_56, v0_57, v0_58, v0_59, v0_60, v0_61, v0_62, v0_63])), (a1, .inl (cy 0, 16, .inl zI)), (a2, .inl (cy 0, 16, .inl zI))]) := by
  refine CtV.of (cc := cX9_bringBack) (maxL := 2) (own := RX9) (by decide) rfl (Nat.le_of_ble_eq_true rfl) rfl ?_
  intro p e s m below meth c A ls hx hb hr hml hts hown hlk hK hP hD hS hA hl
  have hl : lv_has ls 2 [(0, .ref a0)] := hl
  refine st0 (fun H locs hP hS => ?_) hP hS
  have hP : va_P D vwCl [(a0, .inr (9, [v0_0, v0_1, v0_2, v0_3, v0_4, v0_5, v0_6, v0_7, v0_8, v0_9, v0_10, v0_11, v0_12, v0_13, v0_14, v0_15, v0_16, v0_17, v0_18, v0_19, v0_20, v0_21, v0_22, v0_23, v0_24, v0_25, v0_26, v0_27, v0_28, v0_29, v0_30, v0_31, v0_32, v0_33, v0_34, v0_35, v0_36, .ref a2, .ref a1, v0_39, v0_40, v0_41, v0_42, v0_43, v0_44, v0_45, v0_46, v0_47, v0_48, v0_49, v0_50, v0_51, v0_52, v0_53, v0_54, v0_55, v0_56, v0_57, v0_58, v0_59, v0_60, v0_61, v0_62, v0_63])), (a1, .inl (cy 0, 16, .inl zI)), (a2, .inl (cy 0, 16, .inl zI))] H := hP
  have hD : va_D A [(a0, .inr (9, [v0_0, v0_1, v0_2, v0_3, v0_4, v0_5, v0_6, v0_7, v0_8, v0_9, v0_10, v0_11, v0_12, v0_13, v0_14, v0_15, v0_16, v0_17, v0_18, v0_19, v0_20, v0_21, v0_22, v0_23, v0_24, v0_25, v0_26, v0_27, v0_28, v0_29, v0_30, v0_31, v0_32, v0_33, v0_34, v0_35, v0_36, .ref a2, .ref a1, v0_39, v0_40, v0_41, v0_42, v0_43, v0_44, v0_45, v0_46, v0_47, v0_48, v0_49, v0_50, v0_51, v0_52, v0_53, v0_54, v0_55, v0_56, v0_57, v0_58, v0_59, v0_60, v0_61, v0_62, v0_63])), (a1, .inl (cy 0, 16, .inl zI)), (a2, .inl (cy 0, 16, .inl zI))] := hD
  refine lv_iconst (v := 0) hx hb dX9_bringBack_0 (by decide) ?_
  refine lv_istore_n (lv' := [(1, .int 0), (0, .ref a0)]) hx hb dX9_bringBack_1 rfl hl (by decide) rfl (fun ls hl => ?_)
  refine lv_iload_n hx hb dX9_bringBack_2 rfl (lv_at hl 0 rfl) ?_
  refine lv_bipush (v := 16) hx hb dX9_bringBack_3 (by decide) ?_
  refine lv_icmp_ge (tgt := 26) hx hb dX9_bringBack_5 (by decide) (fun c => absurd c (by decide)) (fun _ => ?_)
  refine lv_aload_n hx hb dX9_bringBack_8 rfl (lv_at hl 1 rfl) ?_
  refine va_get (D := D) (cl := vwCl) (ci := 9) (v := .ref a2) (C := RX9) (T := TX9) (N := 64) hx hb hts in_X9_bringBack_X9 hown hK hP 0 rfl rfl 37 (by decide) (hts (.fieldLink RX9 76 "EightReasonsModel" "all" "[I") (List.mem_of_getElem? (i := 1) (by decide +kernel))) (fun _ h9 => h9) rfl dX9_bringBack_9 ?_
  refine lv_iload_n hx hb dX9_bringBack_12 rfl (lv_at hl 0 rfl) ?_
  refine lv_aload_n hx hb dX9_bringBack_13 rfl (lv_at hl 1 rfl) ?_
  refine va_get (D := D) (cl := vwCl) (ci := 9) (v := .ref a1) (C := RX9) (T := TX9) (N := 64) hx hb hts in_X9_bringBack_X9 hown hK hP 0 rfl rfl 38 (by decide) (hts (.fieldLink RX9 79 "EightReasonsModel" "kept" "[I") (List.mem_of_getElem? (i := 2) (by decide +kernel))) (fun _ h9 => h9) rfl dX9_bringBack_14 ?_
  refine lv_iload_n hx hb dX9_bringBack_17 rfl (lv_at hl 0 rfl) ?_
  refine va_iald hx hb hK hP 1 0 rfl rfl (vin (by decide)) dX9_bringBack_18 (tpi (v := 0) rfl ?_)
  refine va_iast hx hb hK hP hD hS 2 0 rfl rfl (vin (by decide)) dX9_bringBack_19 (fun H locs hP hD hS => ?_)
  rw [zI_upd] at hP hD
  have hP : va_P D vwCl [(a0, .inr (9, [v0_0, v0_1, v0_2, v0_3, v0_4, v0_5, v0_6, v0_7, v0_8, v0_9, v0_10, v0_11, v0_12, v0_13, v0_14, v0_15, v0_16, v0_17, v0_18, v0_19, v0_20, v0_21, v0_22, v0_23, v0_24, v0_25, v0_26, v0_27, v0_28, v0_29, v0_30, v0_31, v0_32, v0_33, v0_34, v0_35, v0_36, .ref a2, .ref a1, v0_39, v0_40, v0_41, v0_42, v0_43, v0_44, v0_45, v0_46, v0_47, v0_48, v0_49, v0_50, v0_51, v0_52, v0_53, v0_54, v0_55, v0_56, v0_57, v0_58, v0_59, v0_60, v0_61, v0_62, v0_63])), (a1, .inl (cy 0, 16, .inl zI)), (a2, .inl (cy 0, 16, .inl zI))] H := hP
  have hD : va_D A [(a0, .inr (9, [v0_0, v0_1, v0_2, v0_3, v0_4, v0_5, v0_6, v0_7, v0_8, v0_9, v0_10, v0_11, v0_12, v0_13, v0_14, v0_15, v0_16, v0_17, v0_18, v0_19, v0_20, v0_21, v0_22, v0_23, v0_24, v0_25, v0_26, v0_27, v0_28, v0_29, v0_30, v0_31, v0_32, v0_33, v0_34, v0_35, v0_36, .ref a2, .ref a1, v0_39, v0_40, v0_41, v0_42, v0_43, v0_44, v0_45, v0_46, v0_47, v0_48, v0_49, v0_50, v0_51, v0_52, v0_53, v0_54, v0_55, v0_56, v0_57, v0_58, v0_59, v0_60, v0_61, v0_62, v0_63])), (a1, .inl (cy 0, 16, .inl zI)), (a2, .inl (cy 0, 16, .inl zI))] := hD
  refine lv_iinc (v := 1) (lv' := [(1, .int 1), (0, .ref a0)]) hx hb dX9_bringBack_20 hl (k := 0) rfl (by decide) (by decide) rfl (fun ls hl => ?_)
  refine lv_goto (tgt := 2) hx hb dX9_bringBack_23 (by decide) ?_
  refine lv_iload_n hx hb dX9_bringBack_2 rfl (lv_at hl 0 rfl) ?_
  refine lv_bipush (v := 16) hx hb dX9_bringBack_3 (by decide) ?_
  refine lv_icmp_ge (tgt := 26) hx hb dX9_bringBack_5 (by decide) (fun c => absurd c (by decide)) (fun _ => ?_)
  refine lv_aload_n hx hb dX9_bringBack_8 rfl (lv_at hl 1 rfl) ?_
  refine va_get (D := D) (cl := vwCl) (ci := 9) (v := .ref a2) (C := RX9) (T := TX9) (N := 64) hx hb hts in_X9_bringBack_X9 hown hK hP 0 rfl rfl 37 (by decide) (hts (.fieldLink RX9 76 "EightReasonsModel" "all" "[I") (List.mem_of_getElem? (i := 1) (by decide +kernel))) (fun _ h9 => h9) rfl dX9_bringBack_9 ?_
  refine lv_iload_n hx hb dX9_bringBack_12 rfl (lv_at hl 0 rfl) ?_
  refine lv_aload_n hx hb dX9_bringBack_13 rfl (lv_at hl 1 rfl) ?_
  refine va_get (D := D) (cl := vwCl) (ci := 9) (v := .ref a1) (C := RX9) (T := TX9) (N := 64) hx hb hts in_X9_bringBack_X9 hown hK hP 0 rfl rfl 38 (by decide) (hts (.fieldLink RX9 79 "EightReasonsModel" "kept" "[I") (List.mem_of_getElem? (i := 2) (by decide +kernel))) (fun _ h9 => h9) rfl dX9_bringBack_14 ?_
  refine lv_iload_n hx hb dX9_bringBack_17 rfl (lv_at hl 0 rfl) ?_
  refine va_iald hx hb hK hP 1 0 rfl rfl (vin (by decide)) dX9_bringBack_18 (tpi (v := 0) rfl ?_)
  refine va_iast hx hb hK hP hD hS 2 0 rfl rfl (vin (by decide)) dX9_bringBack_19 (fun H locs hP hD hS => ?_)
  rw [zI_upd] at hP hD
  have hP : va_P D vwCl [(a0, .inr (9, [v0_0, v0_1, v0_2, v0_3, v0_4, v0_5, v0_6, v0_7, v0_8, v0_9, v0_10, v0_11, v0_12, v0_13, v0_14, v0_15, v0_16, v0_17, v0_18, v0_19, v0_20, v0_21, v0_22, v0_23, v0_24, v0_25, v0_26, v0_27, v0_28, v0_29, v0_30, v0_31, v0_32, v0_33, v0_34, v0_35, v0_36, .ref a2, .ref a1, v0_39, v0_40, v0_41, v0_42, v0_43, v0_44, v0_45, v0_46, v0_47, v0_48, v0_49, v0_50, v0_51, v0_52, v0_53, v0_54, v0_55, v0_56, v0_57, v0_58, v0_59, v0_60, v0_61, v0_62, v0_63])), (a1, .inl (cy 0, 16, .inl zI)), (a2, .inl (cy 0, 16, .inl zI))] H := hP
  have hD : va_D A [(a0, .inr (9, [v0_0, v0_1, v0_2, v0_3, v0_4, v0_5, v0_6, v0_7, v0_8, v0_9, v0_10, v0_11, v0_12, v0_13, v0_14, v0_15, v0_16, v0_17, v0_18, v0_19, v0_20, v0_21, v0_22, v0_23, v0_24, v0_25, v0_26, v0_27, v0_28, v0_29, v0_30, v0_31, v0_32, v0_33, v0_34, v0_35, v0_36, .ref a2, .ref a1, v0_39, v0_40, v0_41, v0_42, v0_43, v0_44, v0_45, v0_46, v0_47, v0_48, v0_49, v0_50, v0_51, v0_52, v0_53, v0_54, v0_55, v0_56, v0_57, v0_58, v0_59, v0_60, v0_61, v0_62, v0_63])), (a1, .inl (cy 0, 16, .inl zI)), (a2, .inl (cy 0, 16, .inl zI))] := hD
  refine lv_iinc (v := 2) (lv' := [(1, .int 2), (0, .ref a0)]) hx hb dX9_bringBack_20 hl (k := 0) rfl (by decide) (by decide) rfl (fun ls hl => ?_)
  refine lv_goto (tgt := 2) hx hb dX9_bringBack_23 (by decide) ?_
  refine lv_iload_n hx hb dX9_bringBack_2 rfl (lv_at hl 0 rfl) ?_
  refine lv_bipush (v := 16) hx hb dX9_bringBack_3 (by decide) ?_
  refine lv_icmp_ge (tgt := 26) hx hb dX9_bringBack_5 (by decide) (fun c => absurd c (by decide)) (fun _ => ?_)
  refine lv_aload_n hx hb dX9_bringBack_8 rfl (lv_at hl 1 rfl) ?_
  refine va_get (D := D) (cl := vwCl) (ci := 9) (v := .ref a2) (C := RX9) (T := TX9) (N := 64) hx hb hts in_X9_bringBack_X9 hown hK hP 0 rfl rfl 37 (by decide) (hts (.fieldLink RX9 76 "EightReasonsModel" "all" "[I") (List.mem_of_getElem? (i := 1) (by decide +kernel))) (fun _ h9 => h9) rfl dX9_bringBack_9 ?_
  refine lv_iload_n hx hb dX9_bringBack_12 rfl (lv_at hl 0 rfl) ?_
  refine lv_aload_n hx hb dX9_bringBack_13 rfl (lv_at hl 1 rfl) ?_
  refine va_get (D := D) (cl := vwCl) (ci := 9) (v := .ref a1) (C := RX9) (T := TX9) (N := 64) hx hb hts in_X9_bringBack_X9 hown hK hP 0 rfl rfl 38 (by decide) (hts (.fieldLink RX9 79 "EightReasonsModel" "kept" "[I") (List.mem_of_getElem? (i := 2) (by decide +kernel))) (fun _ h9 => h9) rfl dX9_bringBack_14 ?_
  refine lv_iload_n hx hb dX9_bringBack_17 rfl (lv_at hl 0 rfl) ?_
  refine va_iald hx hb hK hP 1 0 rfl rfl (vin (by decide)) dX9_bringBack_18 (tpi (v := 0) rfl ?_)
  refine va_iast hx hb hK hP hD hS 2 0 rfl rfl (vin (by decide)) dX9_bringBack_19 (fun H locs hP hD hS => ?_)
  rw [zI_upd] at hP hD
  have hP : va_P D vwCl [(a0, .inr (9, [v0_0, v0_1, v0_2, v0_3, v0_4, v0_5, v0_6, v0_7, v0_8, v0_9, v0_10, v0_11, v0_12, v0_13, v0_14, v0_15, v0_16, v0_17, v0_18, v0_19, v0_20, v0_21, v0_22, v0_23, v0_24, v0_25, v0_26, v0_27, v0_28, v0_29, v0_30, v0_31, v0_32, v0_33, v0_34, v0_35, v0_36, .ref a2, .ref a1, v0_39, v0_40, v0_41, v0_42, v0_43, v0_44, v0_45, v0_46, v0_47, v0_48, v0_49, v0_50, v0_51, v0_52, v0_53, v0_54, v0_55, v0_56, v0_57, v0_58, v0_59, v0_60, v0_61, v0_62, v0_63])), (a1, .inl (cy 0, 16, .inl zI)), (a2, .inl (cy 0, 16, .inl zI))] H := hP
  have hD : va_D A [(a0, .inr (9, [v0_0, v0_1, v0_2, v0_3, v0_4, v0_5, v0_6, v0_7, v0_8, v0_9, v0_10, v0_11, v0_12, v0_13, v0_14, v0_15, v0_16, v0_17, v0_18, v0_19, v0_20, v0_21, v0_22, v0_23, v0_24, v0_25, v0_26, v0_27, v0_28, v0_29, v0_30, v0_31, v0_32, v0_33, v0_34, v0_35, v0_36, .ref a2, .ref a1, v0_39, v0_40, v0_41, v0_42, v0_43, v0_44, v0_45, v0_46, v0_47, v0_48, v0_49, v0_50, v0_51, v0_52, v0_53, v0_54, v0_55, v0_56, v0_57, v0_58, v0_59, v0_60, v0_61, v0_62, v0_63])), (a1, .inl (cy 0, 16, .inl zI)), (a2, .inl (cy 0, 16, .inl zI))] := hD
  refine lv_iinc (v := 3) (lv' := [(1, .int 3), (0, .ref a0)]) hx hb dX9_bringBack_20 hl (k := 0) rfl (by decide) (by decide) rfl (fun ls hl => ?_)
  refine lv_goto (tgt := 2) hx hb dX9_bringBack_23 (by decide) ?_
  refine lv_iload_n hx hb dX9_bringBack_2 rfl (lv_at hl 0 rfl) ?_
  refine lv_bipush (v := 16) hx hb dX9_bringBack_3 (by decide) ?_
  refine lv_icmp_ge (tgt := 26) hx hb dX9_bringBack_5 (by decide) (fun c => absurd c (by decide)) (fun _ => ?_)
  refine lv_aload_n hx hb dX9_bringBack_8 rfl (lv_at hl 1 rfl) ?_
  refine va_get (D := D) (cl := vwCl) (ci := 9) (v := .ref a2) (C := RX9) (T := TX9) (N := 64) hx hb hts in_X9_bringBack_X9 hown hK hP 0 rfl rfl 37 (by decide) (hts (.fieldLink RX9 76 "EightReasonsModel" "all" "[I") (List.mem_of_getElem? (i := 1) (by decide +kernel))) (fun _ h9 => h9) rfl dX9_bringBack_9 ?_
  refine lv_iload_n hx hb dX9_bringBack_12 rfl (lv_at hl 0 rfl) ?_
  refine lv_aload_n hx hb dX9_bringBack_13 rfl (lv_at hl 1 rfl) ?_
  refine va_get (D := D) (cl := vwCl) (ci := 9) (v := .ref a1) (C := RX9) (T := TX9) (N := 64) hx hb hts in_X9_bringBack_X9 hown hK hP 0 rfl rfl 38 (by decide) (hts (.fieldLink RX9 79 "EightReasonsModel" "kept" "[I") (List.mem_of_getElem? (i := 2) (by decide +kernel))) (fun _ h9 => h9) rfl dX9_bringBack_14 ?_
  refine lv_iload_n hx hb dX9_bringBack_17 rfl (lv_at hl 0 rfl) ?_
  refine va_iald hx hb hK hP 1 0 rfl rfl (vin (by decide)) dX9_bringBack_18 (tpi (v := 0) rfl ?_)
  refine va_iast hx hb hK hP hD hS 2 0 rfl rfl (vin (by decide)) dX9_bringBack_19 (fun H locs hP hD hS => ?_)
  rw [zI_upd] at hP hD
  have hP : va_P D vwCl [(a0, .inr (9, [v0_0, v0_1, v0_2, v0_3, v0_4, v0_5, v0_6, v0_7, v0_8, v0_9, v0_10, v0_11, v0_12, v0_13, v0_14, v0_15, v0_16, v0_17, v0_18, v0_19, v0_20, v0_21, v0_22, v0_23, v0_24, v0_25, v0_26, v0_27, v0_28, v0_29, v0_30, v0_31, v0_32, v0_33, v0_34, v0_35, v0_36, .ref a2, .ref a1, v0_39, v0_40, v0_41, v0_42, v0_43, v0_44, v0_45, v0_46, v0_47, v0_48, v0_49, v0_50, v0_51, v0_52, v0_53, v0_54, v0_55, v0_56, v0_57, v0_58, v0_59, v0_60, v0_61, v0_62, v0_63])), (a1, .inl (cy 0, 16, .inl zI)), (a2, .inl (cy 0, 16, .inl zI))] H := hP
  have hD : va_D A [(a0, .inr (9, [v0_0, v0_1, v0_2, v0_3, v0_4, v0_5, v0_6, v0_7, v0_8, v0_9, v0_10, v0_11, v0_12, v0_13, v0_14, v0_15, v0_16, v0_17, v0_18, v0_19, v0_20, v0_21, v0_22, v0_23, v0_24, v0_25, v0_26, v0_27, v0_28, v0_29, v0_30, v0_31, v0_32, v0_33, v0_34, v0_35, v0_36, .ref a2, .ref a1, v0_39, v0_40, v0_41, v0_42, v0_43, v0_44, v0_45, v0_46, v0_47, v0_48, v0_49, v0_50, v0_51, v0_52, v0_53, v0_54, v0_55, v0_56, v0_57, v0_58, v0_59, v0_60, v0_61, v0_62, v0_63])), (a1, .inl (cy 0, 16, .inl zI)), (a2, .inl (cy 0, 16, .inl zI))] := hD
  refine lv_iinc (v := 4) (lv' := [(1, .int 4), (0, .ref a0)]) hx hb dX9_bringBack_20 hl (k := 0) rfl (by decide) (by decide) rfl (fun ls hl => ?_)
  refine lv_goto (tgt := 2) hx hb dX9_bringBack_23 (by decide) ?_
  refine lv_iload_n hx hb dX9_bringBack_2 rfl (lv_at hl 0 rfl) ?_
  refine lv_bipush (v := 16) hx hb dX9_bringBack_3 (by decide) ?_
  refine lv_icmp_ge (tgt := 26) hx hb dX9_bringBack_5 (by decide) (fun c => absurd c (by decide)) (fun _ => ?_)
  refine lv_aload_n hx hb dX9_bringBack_8 rfl (lv_at hl 1 rfl) ?_
  refine va_get (D := D) (cl := vwCl) (ci := 9) (v := .ref a2) (C := RX9) (T := TX9) (N := 64) hx hb hts in_X9_bringBack_X9 hown hK hP 0 rfl rfl 37 (by decide) (hts (.fieldLink RX9 76 "EightReasonsModel" "all" "[I") (List.mem_of_getElem? (i := 1) (by decide +kernel))) (fun _ h9 => h9) rfl dX9_bringBack_9 ?_
  refine lv_iload_n hx hb dX9_bringBack_12 rfl (lv_at hl 0 rfl) ?_
  refine lv_aload_n hx hb dX9_bringBack_13 rfl (lv_at hl 1 rfl) ?_
  refine va_get (D := D) (cl := vwCl) (ci := 9) (v := .ref a1) (C := RX9) (T := TX9) (N := 64) hx hb hts in_X9_bringBack_X9 hown hK hP 0 rfl rfl 38 (by decide) (hts (.fieldLink RX9 79 "EightReasonsModel" "kept" "[I") (List.mem_of_getElem? (i := 2) (by decide +kernel))) (fun _ h9 => h9) rfl dX9_bringBack_14 ?_
  refine lv_iload_n hx hb dX9_bringBack_17 rfl (lv_at hl 0 rfl) ?_
  refine va_iald hx hb hK hP 1 0 rfl rfl (vin (by decide)) dX9_bringBack_18 (tpi (v := 0) rfl ?_)
  refine va_iast hx hb hK hP hD hS 2 0 rfl rfl (vin (by decide)) dX9_bringBack_19 (fun H locs hP hD hS => ?_)
  rw [zI_upd] at hP hD
  have hP : va_P D vwCl [(a0, .inr (9, [v0_0, v0_1, v0_2, v0_3, v0_4, v0_5, v0_6, v0_7, v0_8, v0_9, v0_10, v0_11, v0_12, v0_13, v0_14, v0_15, v0_16, v0_17, v0_18, v0_19, v0_20, v0_21, v0_22, v0_23, v0_24, v0_25, v0_26, v0_27, v0_28, v0_29, v0_30, v0_31, v0_32, v0_33, v0_34, v0_35, v0_36, .ref a2, .ref a1, v0_39, v0_40, v0_41, v0_42, v0_43, v0_44, v0_45, v0_46, v0_47, v0_48, v0_49, v0_50, v0_51, v0_52, v0_53, v0_54, v0_55, v0_56, v0_57, v0_58, v0_59, v0_60, v0_61, v0_62, v0_63])), (a1, .inl (cy 0, 16, .inl zI)), (a2, .inl (cy 0, 16, .inl zI))] H := hP
  have hD : va_D A [(a0, .inr (9, [v0_0, v0_1, v0_2, v0_3, v0_4, v0_5, v0_6, v0_7, v0_8, v0_9, v0_10, v0_11, v0_12, v0_13, v0_14, v0_15, v0_16, v0_17, v0_18, v0_19, v0_20, v0_21, v0_22, v0_23, v0_24, v0_25, v0_26, v0_27, v0_28, v0_29, v0_30, v0_31, v0_32, v0_33, v0_34, v0_35, v0_36, .ref a2, .ref a1, v0_39, v0_40, v0_41, v0_42, v0_43, v0_44, v0_45, v0_46, v0_47, v0_48, v0_49, v0_50, v0_51, v0_52, v0_53, v0_54, v0_55, v0_56, v0_57, v0_58, v0_59, v0_60, v0_61, v0_62, v0_63])), (a1, .inl (cy 0, 16, .inl zI)), (a2, .inl (cy 0, 16, .inl zI))] := hD
  refine lv_iinc (v := 5) (lv' := [(1, .int 5), (0, .ref a0)]) hx hb dX9_bringBack_20 hl (k := 0) rfl (by decide) (by decide) rfl (fun ls hl => ?_)
  refine lv_goto (tgt := 2) hx hb dX9_bringBack_23 (by decide) ?_
  refine lv_iload_n hx hb dX9_bringBack_2 rfl (lv_at hl 0 rfl) ?_
  refine lv_bipush (v := 16) hx hb dX9_bringBack_3 (by decide) ?_
  refine lv_icmp_ge (tgt := 26) hx hb dX9_bringBack_5 (by decide) (fun c => absurd c (by decide)) (fun _ => ?_)
  refine lv_aload_n hx hb dX9_bringBack_8 rfl (lv_at hl 1 rfl) ?_
  refine va_get (D := D) (cl := vwCl) (ci := 9) (v := .ref a2) (C := RX9) (T := TX9) (N := 64) hx hb hts in_X9_bringBack_X9 hown hK hP 0 rfl rfl 37 (by decide) (hts (.fieldLink RX9 76 "EightReasonsModel" "all" "[I") (List.mem_of_getElem? (i := 1) (by decide +kernel))) (fun _ h9 => h9) rfl dX9_bringBack_9 ?_
  refine lv_iload_n hx hb dX9_bringBack_12 rfl (lv_at hl 0 rfl) ?_
  refine lv_aload_n hx hb dX9_bringBack_13 rfl (lv_at hl 1 rfl) ?_
  refine va_get (D := D) (cl := vwCl) (ci := 9) (v := .ref a1) (C := RX9) (T := TX9) (N := 64) hx hb hts in_X9_bringBack_X9 hown hK hP 0 rfl rfl 38 (by decide) (hts (.fieldLink RX9 79 "EightReasonsModel" "kept" "[I") (List.mem_of_getElem? (i := 2) (by decide +kernel))) (fun _ h9 => h9) rfl dX9_bringBack_14 ?_
  refine lv_iload_n hx hb dX9_bringBack_17 rfl (lv_at hl 0 rfl) ?_
  refine va_iald hx hb hK hP 1 0 rfl rfl (vin (by decide)) dX9_bringBack_18 (tpi (v := 0) rfl ?_)
  refine va_iast hx hb hK hP hD hS 2 0 rfl rfl (vin (by decide)) dX9_bringBack_19 (fun H locs hP hD hS => ?_)
  rw [zI_upd] at hP hD
  have hP : va_P D vwCl [(a0, .inr (9, [v0_0, v0_1, v0_2, v0_3, v0_4, v0_5, v0_6, v0_7, v0_8, v0_9, v0_10, v0_11, v0_12, v0_13, v0_14, v0_15, v0_16, v0_17, v0_18, v0_19, v0_20, v0_21, v0_22, v0_23, v0_24, v0_25, v0_26, v0_27, v0_28, v0_29, v0_30, v0_31, v0_32, v0_33, v0_34, v0_35, v0_36, .ref a2, .ref a1, v0_39, v0_40, v0_41, v0_42, v0_43, v0_44, v0_45, v0_46, v0_47, v0_48, v0_49, v0_50, v0_51, v0_52, v0_53, v0_54, v0_55, v0_56, v0_57, v0_58, v0_59, v0_60, v0_61, v0_62, v0_63])), (a1, .inl (cy 0, 16, .inl zI)), (a2, .inl (cy 0, 16, .inl zI))] H := hP
  have hD : va_D A [(a0, .inr (9, [v0_0, v0_1, v0_2, v0_3, v0_4, v0_5, v0_6, v0_7, v0_8, v0_9, v0_10, v0_11, v0_12, v0_13, v0_14, v0_15, v0_16, v0_17, v0_18, v0_19, v0_20, v0_21, v0_22, v0_23, v0_24, v0_25, v0_26, v0_27, v0_28, v0_29, v0_30, v0_31, v0_32, v0_33, v0_34, v0_35, v0_36, .ref a2, .ref a1, v0_39, v0_40, v0_41, v0_42, v0_43, v0_44, v0_45, v0_46, v0_47, v0_48, v0_49, v0_50, v0_51, v0_52, v0_53, v0_54, v0_55, v0_56, v0_57, v0_58, v0_59, v0_60, v0_61, v0_62, v0_63])), (a1, .inl (cy 0, 16, .inl zI)), (a2, .inl (cy 0, 16, .inl zI))] := hD
  refine lv_iinc (v := 6) (lv' := [(1, .int 6), (0, .ref a0)]) hx hb dX9_bringBack_20 hl (k := 0) rfl (by decide) (by decide) rfl (fun ls hl => ?_)
  refine lv_goto (tgt := 2) hx hb dX9_bringBack_23 (by decide) ?_
  refine lv_iload_n hx hb dX9_bringBack_2 rfl (lv_at hl 0 rfl) ?_
  refine lv_bipush (v := 16) hx hb dX9_bringBack_3 (by decide) ?_
  refine lv_icmp_ge (tgt := 26) hx hb dX9_bringBack_5 (by decide) (fun c => absurd c (by decide)) (fun _ => ?_)
  refine lv_aload_n hx hb dX9_bringBack_8 rfl (lv_at hl 1 rfl) ?_
  refine va_get (D := D) (cl := vwCl) (ci := 9) (v := .ref a2) (C := RX9) (T := TX9) (N := 64) hx hb hts in_X9_bringBack_X9 hown hK hP 0 rfl rfl 37 (by decide) (hts (.fieldLink RX9 76 "EightReasonsModel" "all" "[I") (List.mem_of_getElem? (i := 1) (by decide +kernel))) (fun _ h9 => h9) rfl dX9_bringBack_9 ?_
  refine lv_iload_n hx hb dX9_bringBack_12 rfl (lv_at hl 0 rfl) ?_
  refine lv_aload_n hx hb dX9_bringBack_13 rfl (lv_at hl 1 rfl) ?_
  refine va_get (D := D) (cl := vwCl) (ci := 9) (v := .ref a1) (C := RX9) (T := TX9) (N := 64) hx hb hts in_X9_bringBack_X9 hown hK hP 0 rfl rfl 38 (by decide) (hts (.fieldLink RX9 79 "EightReasonsModel" "kept" "[I") (List.mem_of_getElem? (i := 2) (by decide +kernel))) (fun _ h9 => h9) rfl dX9_bringBack_14 ?_
  refine lv_iload_n hx hb dX9_bringBack_17 rfl (lv_at hl 0 rfl) ?_
  refine va_iald hx hb hK hP 1 0 rfl rfl (vin (by decide)) dX9_bringBack_18 (tpi (v := 0) rfl ?_)
  refine va_iast hx hb hK hP hD hS 2 0 rfl rfl (vin (by decide)) dX9_bringBack_19 (fun H locs hP hD hS => ?_)
  rw [zI_upd] at hP hD
  have hP : va_P D vwCl [(a0, .inr (9, [v0_0, v0_1, v0_2, v0_3, v0_4, v0_5, v0_6, v0_7, v0_8, v0_9, v0_10, v0_11, v0_12, v0_13, v0_14, v0_15, v0_16, v0_17, v0_18, v0_19, v0_20, v0_21, v0_22, v0_23, v0_24, v0_25, v0_26, v0_27, v0_28, v0_29, v0_30, v0_31, v0_32, v0_33, v0_34, v0_35, v0_36, .ref a2, .ref a1, v0_39, v0_40, v0_41, v0_42, v0_43, v0_44, v0_45, v0_46, v0_47, v0_48, v0_49, v0_50, v0_51, v0_52, v0_53, v0_54, v0_55, v0_56, v0_57, v0_58, v0_59, v0_60, v0_61, v0_62, v0_63])), (a1, .inl (cy 0, 16, .inl zI)), (a2, .inl (cy 0, 16, .inl zI))] H := hP
  have hD : va_D A [(a0, .inr (9, [v0_0, v0_1, v0_2, v0_3, v0_4, v0_5, v0_6, v0_7, v0_8, v0_9, v0_10, v0_11, v0_12, v0_13, v0_14, v0_15, v0_16, v0_17, v0_18, v0_19, v0_20, v0_21, v0_22, v0_23, v0_24, v0_25, v0_26, v0_27, v0_28, v0_29, v0_30, v0_31, v0_32, v0_33, v0_34, v0_35, v0_36, .ref a2, .ref a1, v0_39, v0_40, v0_41, v0_42, v0_43, v0_44, v0_45, v0_46, v0_47, v0_48, v0_49, v0_50, v0_51, v0_52, v0_53, v0_54, v0_55, v0_56, v0_57, v0_58, v0_59, v0_60, v0_61, v0_62, v0_63])), (a1, .inl (cy 0, 16, .inl zI)), (a2, .inl (cy 0, 16, .inl zI))] := hD
  refine lv_iinc (v := 7) (lv' := [(1, .int 7), (0, .ref a0)]) hx hb dX9_bringBack_20 hl (k := 0) rfl (by decide) (by decide) rfl (fun ls hl => ?_)
  refine lv_goto (tgt := 2) hx hb dX9_bringBack_23 (by decide) ?_
  refine lv_iload_n hx hb dX9_bringBack_2 rfl (lv_at hl 0 rfl) ?_
  refine lv_bipush (v := 16) hx hb dX9_bringBack_3 (by decide) ?_
  refine lv_icmp_ge (tgt := 26) hx hb dX9_bringBack_5 (by decide) (fun c => absurd c (by decide)) (fun _ => ?_)
  refine lv_aload_n hx hb dX9_bringBack_8 rfl (lv_at hl 1 rfl) ?_
  refine va_get (D := D) (cl := vwCl) (ci := 9) (v := .ref a2) (C := RX9) (T := TX9) (N := 64) hx hb hts in_X9_bringBack_X9 hown hK hP 0 rfl rfl 37 (by decide) (hts (.fieldLink RX9 76 "EightReasonsModel" "all" "[I") (List.mem_of_getElem? (i := 1) (by decide +kernel))) (fun _ h9 => h9) rfl dX9_bringBack_9 ?_
  refine lv_iload_n hx hb dX9_bringBack_12 rfl (lv_at hl 0 rfl) ?_
  refine lv_aload_n hx hb dX9_bringBack_13 rfl (lv_at hl 1 rfl) ?_
  refine va_get (D := D) (cl := vwCl) (ci := 9) (v := .ref a1) (C := RX9) (T := TX9) (N := 64) hx hb hts in_X9_bringBack_X9 hown hK hP 0 rfl rfl 38 (by decide) (hts (.fieldLink RX9 79 "EightReasonsModel" "kept" "[I") (List.mem_of_getElem? (i := 2) (by decide +kernel))) (fun _ h9 => h9) rfl dX9_bringBack_14 ?_
  refine lv_iload_n hx hb dX9_bringBack_17 rfl (lv_at hl 0 rfl) ?_
  refine va_iald hx hb hK hP 1 0 rfl rfl (vin (by decide)) dX9_bringBack_18 (tpi (v := 0) rfl ?_)
  refine va_iast hx hb hK hP hD hS 2 0 rfl rfl (vin (by decide)) dX9_bringBack_19 (fun H locs hP hD hS => ?_)
  rw [zI_upd] at hP hD
  have hP : va_P D vwCl [(a0, .inr (9, [v0_0, v0_1, v0_2, v0_3, v0_4, v0_5, v0_6, v0_7, v0_8, v0_9, v0_10, v0_11, v0_12, v0_13, v0_14, v0_15, v0_16, v0_17, v0_18, v0_19, v0_20, v0_21, v0_22, v0_23, v0_24, v0_25, v0_26, v0_27, v0_28, v0_29, v0_30, v0_31, v0_32, v0_33, v0_34, v0_35, v0_36, .ref a2, .ref a1, v0_39, v0_40, v0_41, v0_42, v0_43, v0_44, v0_45, v0_46, v0_47, v0_48, v0_49, v0_50, v0_51, v0_52, v0_53, v0_54, v0_55, v0_56, v0_57, v0_58, v0_59, v0_60, v0_61, v0_62, v0_63])), (a1, .inl (cy 0, 16, .inl zI)), (a2, .inl (cy 0, 16, .inl zI))] H := hP
  have hD : va_D A [(a0, .inr (9, [v0_0, v0_1, v0_2, v0_3, v0_4, v0_5, v0_6, v0_7, v0_8, v0_9, v0_10, v0_11, v0_12, v0_13, v0_14, v0_15, v0_16, v0_17, v0_18, v0_19, v0_20, v0_21, v0_22, v0_23, v0_24, v0_25, v0_26, v0_27, v0_28, v0_29, v0_30, v0_31, v0_32, v0_33, v0_34, v0_35, v0_36, .ref a2, .ref a1, v0_39, v0_40, v0_41, v0_42, v0_43, v0_44, v0_45, v0_46, v0_47, v0_48, v0_49, v0_50, v0_51, v0_52, v0_53, v0_54, v0_55, v0_56, v0_57, v0_58, v0_59, v0_60, v0_61, v0_62, v0_63])), (a1, .inl (cy 0, 16, .inl zI)), (a2, .inl (cy 0, 16, .inl zI))] := hD
  refine lv_iinc (v := 8) (lv' := [(1, .int 8), (0, .ref a0)]) hx hb dX9_bringBack_20 hl (k := 0) rfl (by decide) (by decide) rfl (fun ls hl => ?_)
  refine lv_goto (tgt := 2) hx hb dX9_bringBack_23 (by decide) ?_
  refine lv_iload_n hx hb dX9_bringBack_2 rfl (lv_at hl 0 rfl) ?_
  refine lv_bipush (v := 16) hx hb dX9_bringBack_3 (by decide) ?_
  refine lv_icmp_ge (tgt := 26) hx hb dX9_bringBack_5 (by decide) (fun c => absurd c (by decide)) (fun _ => ?_)
  refine lv_aload_n hx hb dX9_bringBack_8 rfl (lv_at hl 1 rfl) ?_
  refine va_get (D := D) (cl := vwCl) (ci := 9) (v := .ref a2) (C := RX9) (T := TX9) (N := 64) hx hb hts in_X9_bringBack_X9 hown hK hP 0 rfl rfl 37 (by decide) (hts (.fieldLink RX9 76 "EightReasonsModel" "all" "[I") (List.mem_of_getElem? (i := 1) (by decide +kernel))) (fun _ h9 => h9) rfl dX9_bringBack_9 ?_
  refine lv_iload_n hx hb dX9_bringBack_12 rfl (lv_at hl 0 rfl) ?_
  refine lv_aload_n hx hb dX9_bringBack_13 rfl (lv_at hl 1 rfl) ?_
  refine va_get (D := D) (cl := vwCl) (ci := 9) (v := .ref a1) (C := RX9) (T := TX9) (N := 64) hx hb hts in_X9_bringBack_X9 hown hK hP 0 rfl rfl 38 (by decide) (hts (.fieldLink RX9 79 "EightReasonsModel" "kept" "[I") (List.mem_of_getElem? (i := 2) (by decide +kernel))) (fun _ h9 => h9) rfl dX9_bringBack_14 ?_
  refine lv_iload_n hx hb dX9_bringBack_17 rfl (lv_at hl 0 rfl) ?_
  refine va_iald hx hb hK hP 1 0 rfl rfl (vin (by decide)) dX9_bringBack_18 (tpi (v := 0) rfl ?_)
  refine va_iast hx hb hK hP hD hS 2 0 rfl rfl (vin (by decide)) dX9_bringBack_19 (fun H locs hP hD hS => ?_)
  rw [zI_upd] at hP hD
  have hP : va_P D vwCl [(a0, .inr (9, [v0_0, v0_1, v0_2, v0_3, v0_4, v0_5, v0_6, v0_7, v0_8, v0_9, v0_10, v0_11, v0_12, v0_13, v0_14, v0_15, v0_16, v0_17, v0_18, v0_19, v0_20, v0_21, v0_22, v0_23, v0_24, v0_25, v0_26, v0_27, v0_28, v0_29, v0_30, v0_31, v0_32, v0_33, v0_34, v0_35, v0_36, .ref a2, .ref a1, v0_39, v0_40, v0_41, v0_42, v0_43, v0_44, v0_45, v0_46, v0_47, v0_48, v0_49, v0_50, v0_51, v0_52, v0_53, v0_54, v0_55, v0_56, v0_57, v0_58, v0_59, v0_60, v0_61, v0_62, v0_63])), (a1, .inl (cy 0, 16, .inl zI)), (a2, .inl (cy 0, 16, .inl zI))] H := hP
  have hD : va_D A [(a0, .inr (9, [v0_0, v0_1, v0_2, v0_3, v0_4, v0_5, v0_6, v0_7, v0_8, v0_9, v0_10, v0_11, v0_12, v0_13, v0_14, v0_15, v0_16, v0_17, v0_18, v0_19, v0_20, v0_21, v0_22, v0_23, v0_24, v0_25, v0_26, v0_27, v0_28, v0_29, v0_30, v0_31, v0_32, v0_33, v0_34, v0_35, v0_36, .ref a2, .ref a1, v0_39, v0_40, v0_41, v0_42, v0_43, v0_44, v0_45, v0_46, v0_47, v0_48, v0_49, v0_50, v0_51, v0_52, v0_53, v0_54, v0_55, v0_56, v0_57, v0_58, v0_59, v0_60, v0_61, v0_62, v0_63])), (a1, .inl (cy 0, 16, .inl zI)), (a2, .inl (cy 0, 16, .inl zI))] := hD
  refine lv_iinc (v := 9) (lv' := [(1, .int 9), (0, .ref a0)]) hx hb dX9_bringBack_20 hl (k := 0) rfl (by decide) (by decide) rfl (fun ls hl => ?_)
  refine lv_goto (tgt := 2) hx hb dX9_bringBack_23 (by decide) ?_
  refine lv_iload_n hx hb dX9_bringBack_2 rfl (lv_at hl 0 rfl) ?_
  refine lv_bipush (v := 16) hx hb dX9_bringBack_3 (by decide) ?_
  refine lv_icmp_ge (tgt := 26) hx hb dX9_bringBack_5 (by decide) (fun c => absurd c (by decide)) (fun _ => ?_)
  refine lv_aload_n hx hb dX9_bringBack_8 rfl (lv_at hl 1 rfl) ?_
  refine va_get (D := D) (cl := vwCl) (ci := 9) (v := .ref a2) (C := RX9) (T := TX9) (N := 64) hx hb hts in_X9_bringBack_X9 hown hK hP 0 rfl rfl 37 (by decide) (hts (.fieldLink RX9 76 "EightReasonsModel" "all" "[I") (List.mem_of_getElem? (i := 1) (by decide +kernel))) (fun _ h9 => h9) rfl dX9_bringBack_9 ?_
  refine lv_iload_n hx hb dX9_bringBack_12 rfl (lv_at hl 0 rfl) ?_
  refine lv_aload_n hx hb dX9_bringBack_13 rfl (lv_at hl 1 rfl) ?_
  refine va_get (D := D) (cl := vwCl) (ci := 9) (v := .ref a1) (C := RX9) (T := TX9) (N := 64) hx hb hts in_X9_bringBack_X9 hown hK hP 0 rfl rfl 38 (by decide) (hts (.fieldLink RX9 79 "EightReasonsModel" "kept" "[I") (List.mem_of_getElem? (i := 2) (by decide +kernel))) (fun _ h9 => h9) rfl dX9_bringBack_14 ?_
  refine lv_iload_n hx hb dX9_bringBack_17 rfl (lv_at hl 0 rfl) ?_
  refine va_iald hx hb hK hP 1 0 rfl rfl (vin (by decide)) dX9_bringBack_18 (tpi (v := 0) rfl ?_)
  refine va_iast hx hb hK hP hD hS 2 0 rfl rfl (vin (by decide)) dX9_bringBack_19 (fun H locs hP hD hS => ?_)
  rw [zI_upd] at hP hD
  have hP : va_P D vwCl [(a0, .inr (9, [v0_0, v0_1, v0_2, v0_3, v0_4, v0_5, v0_6, v0_7, v0_8, v0_9, v0_10, v0_11, v0_12, v0_13, v0_14, v0_15, v0_16, v0_17, v0_18, v0_19, v0_20, v0_21, v0_22, v0_23, v0_24, v0_25, v0_26, v0_27, v0_28, v0_29, v0_30, v0_31, v0_32, v0_33, v0_34, v0_35, v0_36, .ref a2, .ref a1, v0_39, v0_40, v0_41, v0_42, v0_43, v0_44, v0_45, v0_46, v0_47, v0_48, v0_49, v0_50, v0_51, v0_52, v0_53, v0_54, v0_55, v0_56, v0_57, v0_58, v0_59, v0_60, v0_61, v0_62, v0_63])), (a1, .inl (cy 0, 16, .inl zI)), (a2, .inl (cy 0, 16, .inl zI))] H := hP
  have hD : va_D A [(a0, .inr (9, [v0_0, v0_1, v0_2, v0_3, v0_4, v0_5, v0_6, v0_7, v0_8, v0_9, v0_10, v0_11, v0_12, v0_13, v0_14, v0_15, v0_16, v0_17, v0_18, v0_19, v0_20, v0_21, v0_22, v0_23, v0_24, v0_25, v0_26, v0_27, v0_28, v0_29, v0_30, v0_31, v0_32, v0_33, v0_34, v0_35, v0_36, .ref a2, .ref a1, v0_39, v0_40, v0_41, v0_42, v0_43, v0_44, v0_45, v0_46, v0_47, v0_48, v0_49, v0_50, v0_51, v0_52, v0_53, v0_54, v0_55, v0_56, v0_57, v0_58, v0_59, v0_60, v0_61, v0_62, v0_63])), (a1, .inl (cy 0, 16, .inl zI)), (a2, .inl (cy 0, 16, .inl zI))] := hD
  refine lv_iinc (v := 10) (lv' := [(1, .int 10), (0, .ref a0)]) hx hb dX9_bringBack_20 hl (k := 0) rfl (by decide) (by decide) rfl (fun ls hl => ?_)
  refine lv_goto (tgt := 2) hx hb dX9_bringBack_23 (by decide) ?_
  refine lv_iload_n hx hb dX9_bringBack_2 rfl (lv_at hl 0 rfl) ?_
  refine lv_bipush (v := 16) hx hb dX9_bringBack_3 (by decide) ?_
  refine lv_icmp_ge (tgt := 26) hx hb dX9_bringBack_5 (by decide) (fun c => absurd c (by decide)) (fun _ => ?_)
  refine lv_aload_n hx hb dX9_bringBack_8 rfl (lv_at hl 1 rfl) ?_
  refine va_get (D := D) (cl := vwCl) (ci := 9) (v := .ref a2) (C := RX9) (T := TX9) (N := 64) hx hb hts in_X9_bringBack_X9 hown hK hP 0 rfl rfl 37 (by decide) (hts (.fieldLink RX9 76 "EightReasonsModel" "all" "[I") (List.mem_of_getElem? (i := 1) (by decide +kernel))) (fun _ h9 => h9) rfl dX9_bringBack_9 ?_
  refine lv_iload_n hx hb dX9_bringBack_12 rfl (lv_at hl 0 rfl) ?_
  refine lv_aload_n hx hb dX9_bringBack_13 rfl (lv_at hl 1 rfl) ?_
  refine va_get (D := D) (cl := vwCl) (ci := 9) (v := .ref a1) (C := RX9) (T := TX9) (N := 64) hx hb hts in_X9_bringBack_X9 hown hK hP 0 rfl rfl 38 (by decide) (hts (.fieldLink RX9 79 "EightReasonsModel" "kept" "[I") (List.mem_of_getElem? (i := 2) (by decide +kernel))) (fun _ h9 => h9) rfl dX9_bringBack_14 ?_
  refine lv_iload_n hx hb dX9_bringBack_17 rfl (lv_at hl 0 rfl) ?_
  refine va_iald hx hb hK hP 1 0 rfl rfl (vin (by decide)) dX9_bringBack_18 (tpi (v := 0) rfl ?_)
  refine va_iast hx hb hK hP hD hS 2 0 rfl rfl (vin (by decide)) dX9_bringBack_19 (fun H locs hP hD hS => ?_)
  rw [zI_upd] at hP hD
  have hP : va_P D vwCl [(a0, .inr (9, [v0_0, v0_1, v0_2, v0_3, v0_4, v0_5, v0_6, v0_7, v0_8, v0_9, v0_10, v0_11, v0_12, v0_13, v0_14, v0_15, v0_16, v0_17, v0_18, v0_19, v0_20, v0_21, v0_22, v0_23, v0_24, v0_25, v0_26, v0_27, v0_28, v0_29, v0_30, v0_31, v0_32, v0_33, v0_34, v0_35, v0_36, .ref a2, .ref a1, v0_39, v0_40, v0_41, v0_42, v0_43, v0_44, v0_45, v0_46, v0_47, v0_48, v0_49, v0_50, v0_51, v0_52, v0_53, v0_54, v0_55, v0_56, v0_57, v0_58, v0_59, v0_60, v0_61, v0_62, v0_63])), (a1, .inl (cy 0, 16, .inl zI)), (a2, .inl (cy 0, 16, .inl zI))] H := hP
  have hD : va_D A [(a0, .inr (9, [v0_0, v0_1, v0_2, v0_3, v0_4, v0_5, v0_6, v0_7, v0_8, v0_9, v0_10, v0_11, v0_12, v0_13, v0_14, v0_15, v0_16, v0_17, v0_18, v0_19, v0_20, v0_21, v0_22, v0_23, v0_24, v0_25, v0_26, v0_27, v0_28, v0_29, v0_30, v0_31, v0_32, v0_33, v0_34, v0_35, v0_36, .ref a2, .ref a1, v0_39, v0_40, v0_41, v0_42, v0_43, v0_44, v0_45, v0_46, v0_47, v0_48, v0_49, v0_50, v0_51, v0_52, v0_53, v0_54, v0_55, v0_56, v0_57, v0_58, v0_59, v0_60, v0_61, v0_62, v0_63])), (a1, .inl (cy 0, 16, .inl zI)), (a2, .inl (cy 0, 16, .inl zI))] := hD
  refine lv_iinc (v := 11) (lv' := [(1, .int 11), (0, .ref a0)]) hx hb dX9_bringBack_20 hl (k := 0) rfl (by decide) (by decide) rfl (fun ls hl => ?_)
  refine lv_goto (tgt := 2) hx hb dX9_bringBack_23 (by decide) ?_
  refine lv_iload_n hx hb dX9_bringBack_2 rfl (lv_at hl 0 rfl) ?_
  refine lv_bipush (v := 16) hx hb dX9_bringBack_3 (by decide) ?_
  refine lv_icmp_ge (tgt := 26) hx hb dX9_bringBack_5 (by decide) (fun c => absurd c (by decide)) (fun _ => ?_)
  refine lv_aload_n hx hb dX9_bringBack_8 rfl (lv_at hl 1 rfl) ?_
  refine va_get (D := D) (cl := vwCl) (ci := 9) (v := .ref a2) (C := RX9) (T := TX9) (N := 64) hx hb hts in_X9_bringBack_X9 hown hK hP 0 rfl rfl 37 (by decide) (hts (.fieldLink RX9 76 "EightReasonsModel" "all" "[I") (List.mem_of_getElem? (i := 1) (by decide +kernel))) (fun _ h9 => h9) rfl dX9_bringBack_9 ?_
  refine lv_iload_n hx hb dX9_bringBack_12 rfl (lv_at hl 0 rfl) ?_
  refine lv_aload_n hx hb dX9_bringBack_13 rfl (lv_at hl 1 rfl) ?_
  refine va_get (D := D) (cl := vwCl) (ci := 9) (v := .ref a1) (C := RX9) (T := TX9) (N := 64) hx hb hts in_X9_bringBack_X9 hown hK hP 0 rfl rfl 38 (by decide) (hts (.fieldLink RX9 79 "EightReasonsModel" "kept" "[I") (List.mem_of_getElem? (i := 2) (by decide +kernel))) (fun _ h9 => h9) rfl dX9_bringBack_14 ?_
  refine lv_iload_n hx hb dX9_bringBack_17 rfl (lv_at hl 0 rfl) ?_
  refine va_iald hx hb hK hP 1 0 rfl rfl (vin (by decide)) dX9_bringBack_18 (tpi (v := 0) rfl ?_)
  refine va_iast hx hb hK hP hD hS 2 0 rfl rfl (vin (by decide)) dX9_bringBack_19 (fun H locs hP hD hS => ?_)
  rw [zI_upd] at hP hD
  have hP : va_P D vwCl [(a0, .inr (9, [v0_0, v0_1, v0_2, v0_3, v0_4, v0_5, v0_6, v0_7, v0_8, v0_9, v0_10, v0_11, v0_12, v0_13, v0_14, v0_15, v0_16, v0_17, v0_18, v0_19, v0_20, v0_21, v0_22, v0_23, v0_24, v0_25, v0_26, v0_27, v0_28, v0_29, v0_30, v0_31, v0_32, v0_33, v0_34, v0_35, v0_36, .ref a2, .ref a1, v0_39, v0_40, v0_41, v0_42, v0_43, v0_44, v0_45, v0_46, v0_47, v0_48, v0_49, v0_50, v0_51, v0_52, v0_53, v0_54, v0_55, v0_56, v0_57, v0_58, v0_59, v0_60, v0_61, v0_62, v0_63])), (a1, .inl (cy 0, 16, .inl zI)), (a2, .inl (cy 0, 16, .inl zI))] H := hP
  have hD : va_D A [(a0, .inr (9, [v0_0, v0_1, v0_2, v0_3, v0_4, v0_5, v0_6, v0_7, v0_8, v0_9, v0_10, v0_11, v0_12, v0_13, v0_14, v0_15, v0_16, v0_17, v0_18, v0_19, v0_20, v0_21, v0_22, v0_23, v0_24, v0_25, v0_26, v0_27, v0_28, v0_29, v0_30, v0_31, v0_32, v0_33, v0_34, v0_35, v0_36, .ref a2, .ref a1, v0_39, v0_40, v0_41, v0_42, v0_43, v0_44, v0_45, v0_46, v0_47, v0_48, v0_49, v0_50, v0_51, v0_52, v0_53, v0_54, v0_55, v0_56, v0_57, v0_58, v0_59, v0_60, v0_61, v0_62, v0_63])), (a1, .inl (cy 0, 16, .inl zI)), (a2, .inl (cy 0, 16, .inl zI))] := hD
  refine lv_iinc (v := 12) (lv' := [(1, .int 12), (0, .ref a0)]) hx hb dX9_bringBack_20 hl (k := 0) rfl (by decide) (by decide) rfl (fun ls hl => ?_)
  refine lv_goto (tgt := 2) hx hb dX9_bringBack_23 (by decide) ?_
  refine lv_iload_n hx hb dX9_bringBack_2 rfl (lv_at hl 0 rfl) ?_
  refine lv_bipush (v := 16) hx hb dX9_bringBack_3 (by decide) ?_
  refine lv_icmp_ge (tgt := 26) hx hb dX9_bringBack_5 (by decide) (fun c => absurd c (by decide)) (fun _ => ?_)
  refine lv_aload_n hx hb dX9_bringBack_8 rfl (lv_at hl 1 rfl) ?_
  refine va_get (D := D) (cl := vwCl) (ci := 9) (v := .ref a2) (C := RX9) (T := TX9) (N := 64) hx hb hts in_X9_bringBack_X9 hown hK hP 0 rfl rfl 37 (by decide) (hts (.fieldLink RX9 76 "EightReasonsModel" "all" "[I") (List.mem_of_getElem? (i := 1) (by decide +kernel))) (fun _ h9 => h9) rfl dX9_bringBack_9 ?_
  refine lv_iload_n hx hb dX9_bringBack_12 rfl (lv_at hl 0 rfl) ?_
  refine lv_aload_n hx hb dX9_bringBack_13 rfl (lv_at hl 1 rfl) ?_
  refine va_get (D := D) (cl := vwCl) (ci := 9) (v := .ref a1) (C := RX9) (T := TX9) (N := 64) hx hb hts in_X9_bringBack_X9 hown hK hP 0 rfl rfl 38 (by decide) (hts (.fieldLink RX9 79 "EightReasonsModel" "kept" "[I") (List.mem_of_getElem? (i := 2) (by decide +kernel))) (fun _ h9 => h9) rfl dX9_bringBack_14 ?_
  refine lv_iload_n hx hb dX9_bringBack_17 rfl (lv_at hl 0 rfl) ?_
  refine va_iald hx hb hK hP 1 0 rfl rfl (vin (by decide)) dX9_bringBack_18 (tpi (v := 0) rfl ?_)
  refine va_iast hx hb hK hP hD hS 2 0 rfl rfl (vin (by decide)) dX9_bringBack_19 (fun H locs hP hD hS => ?_)
  rw [zI_upd] at hP hD
  have hP : va_P D vwCl [(a0, .inr (9, [v0_0, v0_1, v0_2, v0_3, v0_4, v0_5, v0_6, v0_7, v0_8, v0_9, v0_10, v0_11, v0_12, v0_13, v0_14, v0_15, v0_16, v0_17, v0_18, v0_19, v0_20, v0_21, v0_22, v0_23, v0_24, v0_25, v0_26, v0_27, v0_28, v0_29, v0_30, v0_31, v0_32, v0_33, v0_34, v0_35, v0_36, .ref a2, .ref a1, v0_39, v0_40, v0_41, v0_42, v0_43, v0_44, v0_45, v0_46, v0_47, v0_48, v0_49, v0_50, v0_51, v0_52, v0_53, v0_54, v0_55, v0_56, v0_57, v0_58, v0_59, v0_60, v0_61, v0_62, v0_63])), (a1, .inl (cy 0, 16, .inl zI)), (a2, .inl (cy 0, 16, .inl zI))] H := hP
  have hD : va_D A [(a0, .inr (9, [v0_0, v0_1, v0_2, v0_3, v0_4, v0_5, v0_6, v0_7, v0_8, v0_9, v0_10, v0_11, v0_12, v0_13, v0_14, v0_15, v0_16, v0_17, v0_18, v0_19, v0_20, v0_21, v0_22, v0_23, v0_24, v0_25, v0_26, v0_27, v0_28, v0_29, v0_30, v0_31, v0_32, v0_33, v0_34, v0_35, v0_36, .ref a2, .ref a1, v0_39, v0_40, v0_41, v0_42, v0_43, v0_44, v0_45, v0_46, v0_47, v0_48, v0_49, v0_50, v0_51, v0_52, v0_53, v0_54, v0_55, v0_56, v0_57, v0_58, v0_59, v0_60, v0_61, v0_62, v0_63])), (a1, .inl (cy 0, 16, .inl zI)), (a2, .inl (cy 0, 16, .inl zI))] := hD
  refine lv_iinc (v := 13) (lv' := [(1, .int 13), (0, .ref a0)]) hx hb dX9_bringBack_20 hl (k := 0) rfl (by decide) (by decide) rfl (fun ls hl => ?_)
  refine lv_goto (tgt := 2) hx hb dX9_bringBack_23 (by decide) ?_
  refine lv_iload_n hx hb dX9_bringBack_2 rfl (lv_at hl 0 rfl) ?_
  refine lv_bipush (v := 16) hx hb dX9_bringBack_3 (by decide) ?_
  refine lv_icmp_ge (tgt := 26) hx hb dX9_bringBack_5 (by decide) (fun c => absurd c (by decide)) (fun _ => ?_)
  refine lv_aload_n hx hb dX9_bringBack_8 rfl (lv_at hl 1 rfl) ?_
  refine va_get (D := D) (cl := vwCl) (ci := 9) (v := .ref a2) (C := RX9) (T := TX9) (N := 64) hx hb hts in_X9_bringBack_X9 hown hK hP 0 rfl rfl 37 (by decide) (hts (.fieldLink RX9 76 "EightReasonsModel" "all" "[I") (List.mem_of_getElem? (i := 1) (by decide +kernel))) (fun _ h9 => h9) rfl dX9_bringBack_9 ?_
  refine lv_iload_n hx hb dX9_bringBack_12 rfl (lv_at hl 0 rfl) ?_
  refine lv_aload_n hx hb dX9_bringBack_13 rfl (lv_at hl 1 rfl) ?_
  refine va_get (D := D) (cl := vwCl) (ci := 9) (v := .ref a1) (C := RX9) (T := TX9) (N := 64) hx hb hts in_X9_bringBack_X9 hown hK hP 0 rfl rfl 38 (by decide) (hts (.fieldLink RX9 79 "EightReasonsModel" "kept" "[I") (List.mem_of_getElem? (i := 2) (by decide +kernel))) (fun _ h9 => h9) rfl dX9_bringBack_14 ?_
  refine lv_iload_n hx hb dX9_bringBack_17 rfl (lv_at hl 0 rfl) ?_
  refine va_iald hx hb hK hP 1 0 rfl rfl (vin (by decide)) dX9_bringBack_18 (tpi (v := 0) rfl ?_)
  refine va_iast hx hb hK hP hD hS 2 0 rfl rfl (vin (by decide)) dX9_bringBack_19 (fun H locs hP hD hS => ?_)
  rw [zI_upd] at hP hD
  have hP : va_P D vwCl [(a0, .inr (9, [v0_0, v0_1, v0_2, v0_3, v0_4, v0_5, v0_6, v0_7, v0_8, v0_9, v0_10, v0_11, v0_12, v0_13, v0_14, v0_15, v0_16, v0_17, v0_18, v0_19, v0_20, v0_21, v0_22, v0_23, v0_24, v0_25, v0_26, v0_27, v0_28, v0_29, v0_30, v0_31, v0_32, v0_33, v0_34, v0_35, v0_36, .ref a2, .ref a1, v0_39, v0_40, v0_41, v0_42, v0_43, v0_44, v0_45, v0_46, v0_47, v0_48, v0_49, v0_50, v0_51, v0_52, v0_53, v0_54, v0_55, v0_56, v0_57, v0_58, v0_59, v0_60, v0_61, v0_62, v0_63])), (a1, .inl (cy 0, 16, .inl zI)), (a2, .inl (cy 0, 16, .inl zI))] H := hP
  have hD : va_D A [(a0, .inr (9, [v0_0, v0_1, v0_2, v0_3, v0_4, v0_5, v0_6, v0_7, v0_8, v0_9, v0_10, v0_11, v0_12, v0_13, v0_14, v0_15, v0_16, v0_17, v0_18, v0_19, v0_20, v0_21, v0_22, v0_23, v0_24, v0_25, v0_26, v0_27, v0_28, v0_29, v0_30, v0_31, v0_32, v0_33, v0_34, v0_35, v0_36, .ref a2, .ref a1, v0_39, v0_40, v0_41, v0_42, v0_43, v0_44, v0_45, v0_46, v0_47, v0_48, v0_49, v0_50, v0_51, v0_52, v0_53, v0_54, v0_55, v0_56, v0_57, v0_58, v0_59, v0_60, v0_61, v0_62, v0_63])), (a1, .inl (cy 0, 16, .inl zI)), (a2, .inl (cy 0, 16, .inl zI))] := hD
  refine lv_iinc (v := 14) (lv' := [(1, .int 14), (0, .ref a0)]) hx hb dX9_bringBack_20 hl (k := 0) rfl (by decide) (by decide) rfl (fun ls hl => ?_)
  refine lv_goto (tgt := 2) hx hb dX9_bringBack_23 (by decide) ?_
  refine lv_iload_n hx hb dX9_bringBack_2 rfl (lv_at hl 0 rfl) ?_
  refine lv_bipush (v := 16) hx hb dX9_bringBack_3 (by decide) ?_
  refine lv_icmp_ge (tgt := 26) hx hb dX9_bringBack_5 (by decide) (fun c => absurd c (by decide)) (fun _ => ?_)
  refine lv_aload_n hx hb dX9_bringBack_8 rfl (lv_at hl 1 rfl) ?_
  refine va_get (D := D) (cl := vwCl) (ci := 9) (v := .ref a2) (C := RX9) (T := TX9) (N := 64) hx hb hts in_X9_bringBack_X9 hown hK hP 0 rfl rfl 37 (by decide) (hts (.fieldLink RX9 76 "EightReasonsModel" "all" "[I") (List.mem_of_getElem? (i := 1) (by decide +kernel))) (fun _ h9 => h9) rfl dX9_bringBack_9 ?_
  refine lv_iload_n hx hb dX9_bringBack_12 rfl (lv_at hl 0 rfl) ?_
  refine lv_aload_n hx hb dX9_bringBack_13 rfl (lv_at hl 1 rfl) ?_
  refine va_get (D := D) (cl := vwCl) (ci := 9) (v := .ref a1) (C := RX9) (T := TX9) (N := 64) hx hb hts in_X9_bringBack_X9 hown hK hP 0 rfl rfl 38 (by decide) (hts (.fieldLink RX9 79 "EightReasonsModel" "kept" "[I") (List.mem_of_getElem? (i := 2) (by decide +kernel))) (fun _ h9 => h9) rfl dX9_bringBack_14 ?_
  refine lv_iload_n hx hb dX9_bringBack_17 rfl (lv_at hl 0 rfl) ?_
  refine va_iald hx hb hK hP 1 0 rfl rfl (vin (by decide)) dX9_bringBack_18 (tpi (v := 0) rfl ?_)
  refine va_iast hx hb hK hP hD hS 2 0 rfl rfl (vin (by decide)) dX9_bringBack_19 (fun H locs hP hD hS => ?_)
  rw [zI_upd] at hP hD
  have hP : va_P D vwCl [(a0, .inr (9, [v0_0, v0_1, v0_2, v0_3, v0_4, v0_5, v0_6, v0_7, v0_8, v0_9, v0_10, v0_11, v0_12, v0_13, v0_14, v0_15, v0_16, v0_17, v0_18, v0_19, v0_20, v0_21, v0_22, v0_23, v0_24, v0_25, v0_26, v0_27, v0_28, v0_29, v0_30, v0_31, v0_32, v0_33, v0_34, v0_35, v0_36, .ref a2, .ref a1, v0_39, v0_40, v0_41, v0_42, v0_43, v0_44, v0_45, v0_46, v0_47, v0_48, v0_49, v0_50, v0_51, v0_52, v0_53, v0_54, v0_55, v0_56, v0_57, v0_58, v0_59, v0_60, v0_61, v0_62, v0_63])), (a1, .inl (cy 0, 16, .inl zI)), (a2, .inl (cy 0, 16, .inl zI))] H := hP
  have hD : va_D A [(a0, .inr (9, [v0_0, v0_1, v0_2, v0_3, v0_4, v0_5, v0_6, v0_7, v0_8, v0_9, v0_10, v0_11, v0_12, v0_13, v0_14, v0_15, v0_16, v0_17, v0_18, v0_19, v0_20, v0_21, v0_22, v0_23, v0_24, v0_25, v0_26, v0_27, v0_28, v0_29, v0_30, v0_31, v0_32, v0_33, v0_34, v0_35, v0_36, .ref a2, .ref a1, v0_39, v0_40, v0_41, v0_42, v0_43, v0_44, v0_45, v0_46, v0_47, v0_48, v0_49, v0_50, v0_51, v0_52, v0_53, v0_54, v0_55, v0_56, v0_57, v0_58, v0_59, v0_60, v0_61, v0_62, v0_63])), (a1, .inl (cy 0, 16, .inl zI)), (a2, .inl (cy 0, 16, .inl zI))] := hD
  refine lv_iinc (v := 15) (lv' := [(1, .int 15), (0, .ref a0)]) hx hb dX9_bringBack_20 hl (k := 0) rfl (by decide) (by decide) rfl (fun ls hl => ?_)
  refine lv_goto (tgt := 2) hx hb dX9_bringBack_23 (by decide) ?_
  refine lv_iload_n hx hb dX9_bringBack_2 rfl (lv_at hl 0 rfl) ?_
  refine lv_bipush (v := 16) hx hb dX9_bringBack_3 (by decide) ?_
  refine lv_icmp_ge (tgt := 26) hx hb dX9_bringBack_5 (by decide) (fun c => absurd c (by decide)) (fun _ => ?_)
  refine lv_aload_n hx hb dX9_bringBack_8 rfl (lv_at hl 1 rfl) ?_
  refine va_get (D := D) (cl := vwCl) (ci := 9) (v := .ref a2) (C := RX9) (T := TX9) (N := 64) hx hb hts in_X9_bringBack_X9 hown hK hP 0 rfl rfl 37 (by decide) (hts (.fieldLink RX9 76 "EightReasonsModel" "all" "[I") (List.mem_of_getElem? (i := 1) (by decide +kernel))) (fun _ h9 => h9) rfl dX9_bringBack_9 ?_
  refine lv_iload_n hx hb dX9_bringBack_12 rfl (lv_at hl 0 rfl) ?_
  refine lv_aload_n hx hb dX9_bringBack_13 rfl (lv_at hl 1 rfl) ?_
  refine va_get (D := D) (cl := vwCl) (ci := 9) (v := .ref a1) (C := RX9) (T := TX9) (N := 64) hx hb hts in_X9_bringBack_X9 hown hK hP 0 rfl rfl 38 (by decide) (hts (.fieldLink RX9 79 "EightReasonsModel" "kept" "[I") (List.mem_of_getElem? (i := 2) (by decide +kernel))) (fun _ h9 => h9) rfl dX9_bringBack_14 ?_
  refine lv_iload_n hx hb dX9_bringBack_17 rfl (lv_at hl 0 rfl) ?_
  refine va_iald hx hb hK hP 1 0 rfl rfl (vin (by decide)) dX9_bringBack_18 (tpi (v := 0) rfl ?_)
  refine va_iast hx hb hK hP hD hS 2 0 rfl rfl (vin (by decide)) dX9_bringBack_19 (fun H locs hP hD hS => ?_)
  rw [zI_upd] at hP hD
  have hP : va_P D vwCl [(a0, .inr (9, [v0_0, v0_1, v0_2, v0_3, v0_4, v0_5, v0_6, v0_7, v0_8, v0_9, v0_10, v0_11, v0_12, v0_13, v0_14, v0_15, v0_16, v0_17, v0_18, v0_19, v0_20, v0_21, v0_22, v0_23, v0_24, v0_25, v0_26, v0_27, v0_28, v0_29, v0_30, v0_31, v0_32, v0_33, v0_34, v0_35, v0_36, .ref a2, .ref a1, v0_39, v0_40, v0_41, v0_42, v0_43, v0_44, v0_45, v0_46, v0_47, v0_48, v0_49, v0_50, v0_51, v0_52, v0_53, v0_54, v0_55, v0_56, v0_57, v0_58, v0_59, v0_60, v0_61, v0_62, v0_63])), (a1, .inl (cy 0, 16, .inl zI)), (a2, .inl (cy 0, 16, .inl zI))] H := hP
  have hD : va_D A [(a0, .inr (9, [v0_0, v0_1, v0_2, v0_3, v0_4, v0_5, v0_6, v0_7, v0_8, v0_9, v0_10, v0_11, v0_12, v0_13, v0_14, v0_15, v0_16, v0_17, v0_18, v0_19, v0_20, v0_21, v0_22, v0_23, v0_24, v0_25, v0_26, v0_27, v0_28, v0_29, v0_30, v0_31, v0_32, v0_33, v0_34, v0_35, v0_36, .ref a2, .ref a1, v0_39, v0_40, v0_41, v0_42, v0_43, v0_44, v0_45, v0_46, v0_47, v0_48, v0_49, v0_50, v0_51, v0_52, v0_53, v0_54, v0_55, v0_56, v0_57, v0_58, v0_59, v0_60, v0_61, v0_62, v0_63])), (a1, .inl (cy 0, 16, .inl zI)), (a2, .inl (cy 0, 16, .inl zI))] := hD
  refine lv_iinc (v := 16) (lv' := [(1, .int 16), (0, .ref a0)]) hx hb dX9_bringBack_20 hl (k := 0) rfl (by decide) (by decide) rfl (fun ls hl => ?_)
  refine lv_goto (tgt := 2) hx hb dX9_bringBack_23 (by decide) ?_
  refine lv_iload_n hx hb dX9_bringBack_2 rfl (lv_at hl 0 rfl) ?_
  refine lv_bipush (v := 16) hx hb dX9_bringBack_3 (by decide) ?_
  refine lv_icmp_ge (tgt := 26) hx hb dX9_bringBack_5 (by decide) (fun _ => ?_) (fun c => absurd (by decide) c)
  exact rtV hx hb hr hlk hP hD hS () [0, 1, 2] rfl rfl trivial dX9_bringBack_26
