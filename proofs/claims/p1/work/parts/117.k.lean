set_option maxHeartbeats 4000000 in
set_option maxRecDepth 100000 in
theorem k_X8_has_0 (l : Launch) (D : va_G) (cy : Nat → ClassId)  (sz : Nat) : CtI l yX8_has wsX8_has 0 0 [.int 0, .int 0] D cy [] sz 0 0 (fun (r : Int32) (_ : Unit) => r = 0) (fun _ => []) := by
  refine CtI.of (cc := cX8_has) (maxL := 2) (ty := .boolean) (own := RX8) (by decide) rfl (Nat.le_of_ble_eq_true rfl) rfl ?_
  intro p e s m below meth c A ls hx hb hr hml hts hown hlk hK hP hD hS hA hl
  have hl : lv_has ls 2 [(0, .int 0), (1, .int 0)] := hl
  refine st0 (fun H locs hP hS => ?_) hP hS
  have hP : va_P D vwCl [] H := hP
  have hD : va_D A [] := hD
  refine lv_iload_n hx hb dX8_has_0 rfl (lv_at hl 0 rfl) ?_
  refine lv_iload_n hx hb dX8_has_1 rfl (lv_at hl 1 rfl) ?_
  refine lv_ishr hx hb dX8_has_2 (tpi (v := 0) (by decide) ?_)
  refine lv_iconst (v := 1) hx hb dX8_has_3 (by decide) ?_
  refine lv_iand hx hb dX8_has_4 (tpi (v := 0) (by decide) ?_)
  refine lv_if_eq (tgt := 12) hx hb dX8_has_5 (by decide) (fun _ => ?_) (fun c => absurd (by decide) c)
  refine lv_iconst (v := 0) hx hb dX8_has_12 (by decide) ?_
  exact rtI hx hb hr hlk rfl hP hD hS () [] rfl rfl rfl dX8_has_13
set_option maxHeartbeats 4000000 in
set_option maxRecDepth 100000 in
theorem k_X8_has_1 (l : Launch) (D : va_G) (cy : Nat → ClassId)  (sz : Nat) : CtI l yX8_has wsX8_has 0 0 [.int 0, .int 1] D cy [] sz 0 0 (fun (r : Int32) (_ : Unit) => r = 0) (fun _ => []) := by
  refine CtI.of (cc := cX8_has) (maxL := 2) (ty := .boolean) (own := RX8) (by decide) rfl (Nat.le_of_ble_eq_true rfl) rfl ?_
  intro p e s m below meth c A ls hx hb hr hml hts hown hlk hK hP hD hS hA hl
  have hl : lv_has ls 2 [(0, .int 0), (1, .int 1)] := hl
  refine st0 (fun H locs hP hS => ?_) hP hS
  have hP : va_P D vwCl [] H := hP
  have hD : va_D A [] := hD
  refine lv_iload_n hx hb dX8_has_0 rfl (lv_at hl 0 rfl) ?_
  refine lv_iload_n hx hb dX8_has_1 rfl (lv_at hl 1 rfl) ?_
  refine lv_ishr hx hb dX8_has_2 (tpi (v := 0) (by decide) ?_)
  refine lv_iconst (v := 1) hx hb dX8_has_3 (by decide) ?_
  refine lv_iand hx hb dX8_has_4 (tpi (v := 0) (by decide) ?_)
  refine lv_if_eq (tgt := 12) hx hb dX8_has_5 (by decide) (fun _ => ?_) (fun c => absurd (by decide) c)
  refine lv_iconst (v := 0) hx hb dX8_has_12 (by decide) ?_
  exact rtI hx hb hr hlk rfl hP hD hS () [] rfl rfl rfl dX8_has_13
set_option maxHeartbeats 4000000 in
set_option maxRecDepth 100000 in
theorem k_X8_has_2 (l : Launch) (D : va_G) (cy : Nat → ClassId)  (sz : Nat) : CtI l yX8_has wsX8_has 0 0 [.int 0, .int 2] D cy [] sz 0 0 (fun (r : Int32) (_ : Unit) => r = 0) (fun _ => []) := by
  refine CtI.of (cc := cX8_has) (maxL := 2) (ty := .boolean) (own := RX8) (by decide) rfl (Nat.le_of_ble_eq_true rfl) rfl ?_
  intro p e s m below meth c A ls hx hb hr hml hts hown hlk hK hP hD hS hA hl
  have hl : lv_has ls 2 [(0, .int 0), (1, .int 2)] := hl
  refine st0 (fun H locs hP hS => ?_) hP hS
  have hP : va_P D vwCl [] H := hP
  have hD : va_D A [] := hD
  refine lv_iload_n hx hb dX8_has_0 rfl (lv_at hl 0 rfl) ?_
  refine lv_iload_n hx hb dX8_has_1 rfl (lv_at hl 1 rfl) ?_
  refine lv_ishr hx hb dX8_has_2 (tpi (v := 0) (by decide) ?_)
  refine lv_iconst (v := 1) hx hb dX8_has_3 (by decide) ?_
  refine lv_iand hx hb dX8_has_4 (tpi (v := 0) (by decide) ?_)
  refine lv_if_eq (tgt := 12) hx hb dX8_has_5 (by decide) (fun _ => ?_) (fun c => absurd (by decide) c)
  refine lv_iconst (v := 0) hx hb dX8_has_12 (by decide) ?_
  exact rtI hx hb hr hlk rfl hP hD hS () [] rfl rfl rfl dX8_has_13
set_option maxHeartbeats 4000000 in
set_option maxRecDepth 100000 in
theorem k_X8_back_0 (l : Launch) (D : va_G) (cy : Nat → ClassId) (a0 : Nat) (v0_0 : Value) (v0_1 : Value) (v0_2 : Value) (v0_3 : Value) (v0_4 : Value) (v0_6 : Value) (v0_7 : Value) (v0_8 : Value) (v0_9 : Value) (v0_10 : Value) (v0_11 : Value) (v0_12 : Value) (p1 : Int32) (sz : Nat) : CtI l yX8_back wsX8_back 1 21 [.ref a0, .int p1] D cy [(a0, .inr (8, [v0_0, v0_1, v0_2, v0_3, v0_4, .int 0, v0_6, v0_7, v0_8, v0_9, v0_10, v0_11, v0_12]))] sz 0 0 (fun (r : Int32) (_ : Unit) => r = (-1)) (fun _ => []) := by
  refine CtI.of (cc := cX8_back) (maxL := 2) (ty := .int) (own := RX8) (by decide) rfl (Nat.le_of_ble_eq_true rfl) rfl ?_
  intro p e s m below meth c A ls hx hb hr hml hts hown hlk hK hP hD hS hA hl
  have hl : lv_has ls 2 [(0, .ref a0), (1, .int p1)] := hl
  refine st0 (fun H locs hP hS => ?_) hP hS
  have hP : va_P D vwCl [(a0, .inr (8, [v0_0, v0_1, v0_2, v0_3, v0_4, .int 0, v0_6, v0_7, v0_8, v0_9, v0_10, v0_11, v0_12]))] H := hP
  have hD : va_D A [(a0, .inr (8, [v0_0, v0_1, v0_2, v0_3, v0_4, .int 0, v0_6, v0_7, v0_8, v0_9, v0_10, v0_11, v0_12]))] := hD
  refine lv_iload_n hx hb dX8_back_0 rfl (lv_at hl 1 rfl) ?_
  refine lv_if_lt (tgt := 20) hx hb dX8_back_1 (by decide) (fun c1 => ?_) (fun c1 => ?_)
  · refine lv_iconst (v := (-1)) hx hb dX8_back_20 (by decide) ?_
    exact rtI hx hb hr hlk rfl hP hD hS () [] rfl rfl rfl dX8_back_21
  · refine lv_iload_n hx hb dX8_back_4 rfl (lv_at hl 1 rfl) ?_
    refine lv_iconst (v := 3) hx hb dX8_back_5 (by decide) ?_
    refine lv_icmp_ge (tgt := 20) hx hb dX8_back_6 (by decide) (fun c2 => ?_) (fun c2 => ?_)
    · refine lv_iconst (v := (-1)) hx hb dX8_back_20 (by decide) ?_
      exact rtI hx hb hr hlk rfl hP hD hS () [] rfl rfl rfl dX8_back_21
    · have hsp3 : p1 = 0 ∨ p1 = 1 ∨ p1 = 2 := by
        simp only [i_lt, i_le, i_eq, tl_m1, tl_0, tl_1, tl_2, tl_3, tl_4, tl_20, tl_60, tl_99, tl_1000, tl_100000] at c1 c2 ⊢
        omega
      rcases hsp3 with rfl | rfl | rfl
      · refine lv_aload_n hx hb dX8_back_9 rfl (lv_at hl 0 rfl) ?_
        refine va_get (D := D) (cl := vwCl) (ci := 8) (v := .int 0) (C := RX8) (T := TX8) (N := 13) hx hb hts in_X8_back_X8 hown hK hP 0 rfl rfl 5 (by decide) (hts (.fieldLink RX8 96 "EightReasons" "filled" "I") (List.mem_of_getElem? (i := 1) (by decide +kernel))) (fun _ h9 => h9) rfl dX8_back_10 ?_
        refine lv_iload_n hx hb dX8_back_13 rfl (lv_at hl 1 rfl) ?_
        refine clSI (As := [.int 0, .int 0]) (rest := []) (wr := [(a0, .inr (8, [v0_0, v0_1, v0_2, v0_3, v0_4, .int 0, v0_6, v0_7, v0_8, v0_9, v0_10, v0_11, v0_12]))]) ⟨hx, hb, hml, hown, hts⟩ hK hP hD hS hA (k_X8_has_0 l D cy _) (va_cwS 2 hts gX8_back_X8_has rfl rfl rfl (by decide +kernel) ⟨Nat.le_of_ble_eq_true rfl, Nat.le_of_ble_eq_true rfl⟩) [] [0] rfl rfl rfl rfl (by decide) rfl hl.1 rfl (Nat.le_of_ble_eq_true rfl) dX8_back_14 ⟨Nat.le_of_ble_eq_true rfl, Nat.le_of_ble_eq_true rfl⟩ rfl rfl (fun r _ H locs hw hP hD hS => ?_)
        have hP : va_P D vwCl [(a0, .inr (8, [v0_0, v0_1, v0_2, v0_3, v0_4, .int 0, v0_6, v0_7, v0_8, v0_9, v0_10, v0_11, v0_12]))] H := hP
        have hD : va_D A [(a0, .inr (8, [v0_0, v0_1, v0_2, v0_3, v0_4, .int 0, v0_6, v0_7, v0_8, v0_9, v0_10, v0_11, v0_12]))] := hD
        obtain rfl : r = 0 := hw
        refine lv_if_ne (tgt := 22) hx hb dX8_back_17 (by decide) (fun c => absurd (by decide) c) (fun _ => ?_)
        refine lv_iconst (v := (-1)) hx hb dX8_back_20 (by decide) ?_
        exact rtI hx hb hr hlk rfl hP hD hS () [] rfl rfl rfl dX8_back_21
      · refine lv_aload_n hx hb dX8_back_9 rfl (lv_at hl 0 rfl) ?_
        refine va_get (D := D) (cl := vwCl) (ci := 8) (v := .int 0) (C := RX8) (T := TX8) (N := 13) hx hb hts in_X8_back_X8 hown hK hP 0 rfl rfl 5 (by decide) (hts (.fieldLink RX8 96 "EightReasons" "filled" "I") (List.mem_of_getElem? (i := 1) (by decide +kernel))) (fun _ h9 => h9) rfl dX8_back_10 ?_
        refine lv_iload_n hx hb dX8_back_13 rfl (lv_at hl 1 rfl) ?_
        refine clSI (As := [.int 0, .int 1]) (rest := []) (wr := [(a0, .inr (8, [v0_0, v0_1, v0_2, v0_3, v0_4, .int 0, v0_6, v0_7, v0_8, v0_9, v0_10, v0_11, v0_12]))]) ⟨hx, hb, hml, hown, hts⟩ hK hP hD hS hA (k_X8_has_1 l D cy _) (va_cwS 2 hts gX8_back_X8_has rfl rfl rfl (by decide +kernel) ⟨Nat.le_of_ble_eq_true rfl, Nat.le_of_ble_eq_true rfl⟩) [] [0] rfl rfl rfl rfl (by decide) rfl hl.1 rfl (Nat.le_of_ble_eq_true rfl) dX8_back_14 ⟨Nat.le_of_ble_eq_true rfl, Nat.le_of_ble_eq_true rfl⟩ rfl rfl (fun r _ H locs hw hP hD hS => ?_)
        have hP : va_P D vwCl [(a0, .inr (8, [v0_0, v0_1, v0_2, v0_3, v0_4, .int 0, v0_6, v0_7, v0_8, v0_9, v0_10, v0_11, v0_12]))] H := hP
        have hD : va_D A [(a0, .inr (8, [v0_0, v0_1, v0_2, v0_3, v0_4, .int 0, v0_6, v0_7, v0_8, v0_9, v0_10, v0_11, v0_12]))] := hD
        obtain rfl : r = 0 := hw
        refine lv_if_ne (tgt := 22) hx hb dX8_back_17 (by decide) (fun c => absurd (by decide) c) (fun _ => ?_)
        refine lv_iconst (v := (-1)) hx hb dX8_back_20 (by decide) ?_
        exact rtI hx hb hr hlk rfl hP hD hS () [] rfl rfl rfl dX8_back_21
      · refine lv_aload_n hx hb dX8_back_9 rfl (lv_at hl 0 rfl) ?_
        refine va_get (D := D) (cl := vwCl) (ci := 8) (v := .int 0) (C := RX8) (T := TX8) (N := 13) hx hb hts in_X8_back_X8 hown hK hP 0 rfl rfl 5 (by decide) (hts (.fieldLink RX8 96 "EightReasons" "filled" "I") (List.mem_of_getElem? (i := 1) (by decide +kernel))) (fun _ h9 => h9) rfl dX8_back_10 ?_
        refine lv_iload_n hx hb dX8_back_13 rfl (lv_at hl 1 rfl) ?_
        refine clSI (As := [.int 0, .int 2]) (rest := []) (wr := [(a0, .inr (8, [v0_0, v0_1, v0_2, v0_3, v0_4, .int 0, v0_6, v0_7, v0_8, v0_9, v0_10, v0_11, v0_12]))]) ⟨hx, hb, hml, hown, hts⟩ hK hP hD hS hA (k_X8_has_2 l D cy _) (va_cwS 2 hts gX8_back_X8_has rfl rfl rfl (by decide +kernel) ⟨Nat.le_of_ble_eq_true rfl, Nat.le_of_ble_eq_true rfl⟩) [] [0] rfl rfl rfl rfl (by decide) rfl hl.1 rfl (Nat.le_of_ble_eq_true rfl) dX8_back_14 ⟨Nat.le_of_ble_eq_true rfl, Nat.le_of_ble_eq_true rfl⟩ rfl rfl (fun r _ H locs hw hP hD hS => ?_)
        have hP : va_P D vwCl [(a0, .inr (8, [v0_0, v0_1, v0_2, v0_3, v0_4, .int 0, v0_6, v0_7, v0_8, v0_9, v0_10, v0_11, v0_12]))] H := hP
        have hD : va_D A [(a0, .inr (8, [v0_0, v0_1, v0_2, v0_3, v0_4, .int 0, v0_6, v0_7, v0_8, v0_9, v0_10, v0_11, v0_12]))] := hD
        obtain rfl : r = 0 := hw
        refine lv_if_ne (tgt := 22) hx hb dX8_back_17 (by decide) (fun c => absurd (by decide) c) (fun _ => ?_)
        refine lv_iconst (v := (-1)) hx hb dX8_back_20 (by decide) ?_
        exact rtI hx hb hr hlk rfl hP hD hS () [] rfl rfl rfl dX8_back_21
set_option maxHeartbeats 4000000 in
set_option maxRecDepth 100000 in
theorem k_X9_back_0 (l : Launch) (D : va_G) (cy : Nat → ClassId) (a0 a1 : Nat) (v0_0 : Value) (v0_1 : Value) (v0_2 : Value) (v0_3 : Value) (v0_4 : Value) (v0_5 : Value) (v0_6 : Value) (v0_7 : Value) (v0_8 : Value) (v0_9 : Value) (v0_10 : Value) (v0_11 : Value) (v0_12 : Value) (v0_13 : Value) (v0_14 : Value) (v0_15 : Value) (v0_16 : Value) (v0_17 : Value) (v0_18 : Value) (v0_19 : Value) (v0_20 : Value) (v0_21 : Value) (v0_22 : Value) (v0_23 : Value) (v0_24 : Value) (v0_25 : Value) (v0_26 : Value) (v0_27 : Value) (v0_28 : Value) (v0_29 : Value) (v0_30 : Value) (v0_31 : Value) (v0_32 : Value) (v0_33 : Value) (v0_34 : Value) (v0_35 : Value) (v0_36 : Value) (v0_37 : Value) (v0_38 : Value) (v0_39 : Value) (v0_40 : Value) (v0_41 : Value) (v0_42 : Value) (v0_43 : Value) (v0_44 : Value) (v0_45 : Value) (v0_46 : Value) (v0_47 : Value) (v0_48 : Value) (v0_49 : Value) (v0_50 : Value) (v0_51 : Value) (v0_52 : Value) (v0_53 : Value) (v0_54 : Value) (v0_55 : Value) (v0_56 : Value) (v0_57 : Value) (v0_58 : Value) (v0_59 : Value) (v0_60 : Value) (v0_61 : Value) (v0_62 : Value) (p1 : Int32) (sz : Nat) : CtI l yX9_back wsX9_back 1 22 [.ref a0, .int p1] D cy [(a0, .inr (9, [v0_0, v0_1, v0_2, v0_3, v0_4, v0_5, v0_6, v0_7, v0_8, v0_9, v0_10, v0_11, v0_12, v0_13, v0_14, v0_15, v0_16, v0_17, v0_18, v0_19, v0_20, v0_21, v0_22, v0_23, v0_24, v0_25, v0_26, v0_27, v0_28, v0_29, v0_30, v0_31, v0_32, v0_33, v0_34, v0_35, v0_36, v0_37, v0_38, v0_39, v0_40, v0_41, v0_42, v0_43, v0_44, v0_45, v0_46, v0_47, v0_48, v0_49, v0_50, v0_51, v0_52, v0_53, v0_54, v0_55, v0_56, v0_57, v0_58, v0_59, v0_60, v0_61, v0_62, .ref a1])), (a1, .inl (cy 3, 3, .inl zI))] sz 0 0 (fun (r : Int32) (_ : Unit) => r = (-1)) (fun _ => []) := by
  refine CtI.of (cc := cX9_back) (maxL := 3) (ty := .int) (own := RX9) (by decide) rfl (Nat.le_of_ble_eq_true rfl) rfl ?_
  intro p e s m below meth c A ls hx hb hr hml hts hown hlk hK hP hD hS hA hl
  have hl : lv_has ls 3 [(0, .ref a0), (1, .int p1)] := hl
  refine st0 (fun H locs hP hS => ?_) hP hS
  have hP : va_P D vwCl [(a0, .inr (9, [v0_0, v0_1, v0_2, v0_3, v0_4, v0_5, v0_6, v0_7, v0_8, v0_9, v0_10, v0_11, v0_12, v0_13, v0_14, v0_15, v0_16, v0_17, v0_18, v0_19, v0_20, v0_21, v0_22, v0_23, v0_24, v0_25, v0_26, v0_27, v0_28, v0_29, v0_30, v0_31, v0_32, v0_33, v0_34, v0_35, v0_36, v0_37, v0_38, v0_39, v0_40, v0_41, v0_42, v0_43, v0_44, v0_45, v0_46, v0_47, v0_48, v0_49, v0_50, v0_51, v0_52, v0_53, v0_54, v0_55, v0_56, v0_57, v0_58, v0_59, v0_60, v0_61, v0_62, .ref a1])), (a1, .inl (cy 3, 3, .inl zI))] H := hP
  have hD : va_D A [(a0, .inr (9, [v0_0, v0_1, v0_2, v0_3, v0_4, v0_5, v0_6, v0_7, v0_8, v0_9, v0_10, v0_11, v0_12, v0_13, v0_14, v0_15, v0_16, v0_17, v0_18, v0_19, v0_20, v0_21, v0_22, v0_23, v0_24, v0_25, v0_26, v0_27, v0_28, v0_29, v0_30, v0_31, v0_32, v0_33, v0_34, v0_35, v0_36, v0_37, v0_38, v0_39, v0_40, v0_41, v0_42, v0_43, v0_44, v0_45, v0_46, v0_47, v0_48, v0_49, v0_50, v0_51, v0_52, v0_53, v0_54, v0_55, v0_56, v0_57, v0_58, v0_59, v0_60, v0_61, v0_62, .ref a1])), (a1, .inl (cy 3, 3, .inl zI))] := hD
  refine lv_iload_n hx hb dX9_back_0 rfl (lv_at hl 1 rfl) ?_
  refine lv_iconst (v := 0) hx hb dX9_back_1 (by decide) ?_
  refine lv_iconst (v := 2) hx hb dX9_back_2 (by decide) ?_
  refine clSI (As := [.int p1, .int 0, .int 2]) (rest := []) (wr := [(a0, .inr (9, [v0_0, v0_1, v0_2, v0_3, v0_4, v0_5, v0_6, v0_7, v0_8, v0_9, v0_10, v0_11, v0_12, v0_13, v0_14, v0_15, v0_16, v0_17, v0_18, v0_19, v0_20, v0_21, v0_22, v0_23, v0_24, v0_25, v0_26, v0_27, v0_28, v0_29, v0_30, v0_31, v0_32, v0_33, v0_34, v0_35, v0_36, v0_37, v0_38, v0_39, v0_40, v0_41, v0_42, v0_43, v0_44, v0_45, v0_46, v0_47, v0_48, v0_49, v0_50, v0_51, v0_52, v0_53, v0_54, v0_55, v0_56, v0_57, v0_58, v0_59, v0_60, v0_61, v0_62, .ref a1])), (a1, .inl (cy 3, 3, .inl zI))]) ⟨hx, hb, hml, hown, hts⟩ hK hP hD hS hA (k_X9_isIn_8 l D cy p1 _) (va_cwS 3 hts gX9_back_X9_isIn rfl rfl rfl (by decide +kernel) ⟨Nat.le_of_ble_eq_true rfl, Nat.le_of_ble_eq_true rfl⟩) [] [0, 1] rfl rfl rfl rfl (by decide) rfl hl.1 rfl (Nat.le_of_ble_eq_true rfl) dX9_back_3 ⟨Nat.le_of_ble_eq_true rfl, Nat.le_of_ble_eq_true rfl⟩ rfl rfl (fun r _ H locs hw hP hD hS => ?_)
  have hP : va_P D vwCl [(a0, .inr (9, [v0_0, v0_1, v0_2, v0_3, v0_4, v0_5, v0_6, v0_7, v0_8, v0_9, v0_10, v0_11, v0_12, v0_13, v0_14, v0_15, v0_16, v0_17, v0_18, v0_19, v0_20, v0_21, v0_22, v0_23, v0_24, v0_25, v0_26, v0_27, v0_28, v0_29, v0_30, v0_31, v0_32, v0_33, v0_34, v0_35, v0_36, v0_37, v0_38, v0_39, v0_40, v0_41, v0_42, v0_43, v0_44, v0_45, v0_46, v0_47, v0_48, v0_49, v0_50, v0_51, v0_52, v0_53, v0_54, v0_55, v0_56, v0_57, v0_58, v0_59, v0_60, v0_61, v0_62, .ref a1])), (a1, .inl (cy 3, 3, .inl zI))] H := hP
  have hD : va_D A [(a0, .inr (9, [v0_0, v0_1, v0_2, v0_3, v0_4, v0_5, v0_6, v0_7, v0_8, v0_9, v0_10, v0_11, v0_12, v0_13, v0_14, v0_15, v0_16, v0_17, v0_18, v0_19, v0_20, v0_21, v0_22, v0_23, v0_24, v0_25, v0_26, v0_27, v0_28, v0_29, v0_30, v0_31, v0_32, v0_33, v0_34, v0_35, v0_36, v0_37, v0_38, v0_39, v0_40, v0_41, v0_42, v0_43, v0_44, v0_45, v0_46, v0_47, v0_48, v0_49, v0_50, v0_51, v0_52, v0_53, v0_54, v0_55, v0_56, v0_57, v0_58, v0_59, v0_60, v0_61, v0_62, .ref a1])), (a1, .inl (cy 3, 3, .inl zI))] := hD
  rcases (show (r = 0 ∧ (((p1 < 0)) ∨ ((¬ p1 < 0) ∧ (2 < p1)))) ∨ (r = 1 ∧ (((¬ p1 < 0) ∧ (¬ 2 < p1)))) from hw) with ⟨rfl, c2⟩ | ⟨rfl, c2⟩
  · refine lv_if_eq (tgt := 18) hx hb dX9_back_6 (by decide) (fun _ => ?_) (fun c => absurd (by decide) c)
    refine lv_iconst (v := (-1)) hx hb dX9_back_18 (by decide) ?_
    exact rtI hx hb hr hlk rfl hP hD hS () [] rfl rfl rfl dX9_back_19
  · refine lv_if_eq (tgt := 18) hx hb dX9_back_6 (by decide) (fun c => absurd c (by decide)) (fun _ => ?_)
    have hsp3 : p1 = 0 ∨ p1 = 1 ∨ p1 = 2 := by
      simp only [i_lt, i_le, i_eq, tl_m1, tl_0, tl_1, tl_2, tl_3, tl_4, tl_20, tl_60, tl_99, tl_1000, tl_100000] at c2 ⊢
      omega
    rcases hsp3 with rfl | rfl | rfl
    · refine lv_aload_n hx hb dX9_back_9 rfl (lv_at hl 0 rfl) ?_
      refine va_get (D := D) (cl := vwCl) (ci := 9) (v := .ref a1) (C := RX9) (T := TX9) (N := 64) hx hb hts in_X9_back_X9 hown hK hP 0 rfl rfl 63 (by decide) (hts (.fieldLink RX9 128 "EightReasonsModel" "isBoxed" "[Z") (List.mem_of_getElem? (i := 1) (by decide +kernel))) (fun _ h9 => h9) rfl dX9_back_10 ?_
      refine lv_iload_n hx hb dX9_back_13 rfl (lv_at hl 1 rfl) ?_
      refine va_zald hx hb hK hP 1 3 rfl rfl (vin (by decide)) dX9_back_14 (tpi (v := 0) rfl ?_)
      refine lv_if_ne (tgt := 20) hx hb dX9_back_15 (by decide) (fun c => absurd (by decide) c) (fun _ => ?_)
      refine lv_iconst (v := (-1)) hx hb dX9_back_18 (by decide) ?_
      exact rtI hx hb hr hlk rfl hP hD hS () [] rfl rfl rfl dX9_back_19
    · refine lv_aload_n hx hb dX9_back_9 rfl (lv_at hl 0 rfl) ?_
      refine va_get (D := D) (cl := vwCl) (ci := 9) (v := .ref a1) (C := RX9) (T := TX9) (N := 64) hx hb hts in_X9_back_X9 hown hK hP 0 rfl rfl 63 (by decide) (hts (.fieldLink RX9 128 "EightReasonsModel" "isBoxed" "[Z") (List.mem_of_getElem? (i := 1) (by decide +kernel))) (fun _ h9 => h9) rfl dX9_back_10 ?_
      refine lv_iload_n hx hb dX9_back_13 rfl (lv_at hl 1 rfl) ?_
      refine va_zald hx hb hK hP 1 3 rfl rfl (vin (by decide)) dX9_back_14 (tpi (v := 0) rfl ?_)
      refine lv_if_ne (tgt := 20) hx hb dX9_back_15 (by decide) (fun c => absurd (by decide) c) (fun _ => ?_)
      refine lv_iconst (v := (-1)) hx hb dX9_back_18 (by decide) ?_
      exact rtI hx hb hr hlk rfl hP hD hS () [] rfl rfl rfl dX9_back_19
    · refine lv_aload_n hx hb dX9_back_9 rfl (lv_at hl 0 rfl) ?_
      refine va_get (D := D) (cl := vwCl) (ci := 9) (v := .ref a1) (C := RX9) (T := TX9) (N := 64) hx hb hts in_X9_back_X9 hown hK hP 0 rfl rfl 63 (by decide) (hts (.fieldLink RX9 128 "EightReasonsModel" "isBoxed" "[Z") (List.mem_of_getElem? (i := 1) (by decide +kernel))) (fun _ h9 => h9) rfl dX9_back_10 ?_
      refine lv_iload_n hx hb dX9_back_13 rfl (lv_at hl 1 rfl) ?_
      refine va_zald hx hb hK hP 1 3 rfl rfl (vin (by decide)) dX9_back_14 (tpi (v := 0) rfl ?_)
      refine lv_if_ne (tgt := 20) hx hb dX9_back_15 (by decide) (fun c => absurd (by decide) c) (fun _ => ?_)
      refine lv_iconst (v := (-1)) hx hb dX9_back_18 (by decide) ?_
      exact rtI hx hb hr hlk rfl hP hD hS () [] rfl rfl rfl dX9_back_19
set_option maxHeartbeats 4000000 in
set_option maxRecDepth 100000 in
theorem k_X8_about_0 (l : Launch) (D : va_G) (cy : Nat → ClassId) (a0 a1 a2 a3 a4 a5 a6 a7 : Nat) (v0_3 : Value) (v0_4 : Value) (v0_5 : Value) (v0_6 : Value) (v0_7 : Value) (v0_8 : Value) (x0_9 : Int32) (v0_11 : Value) (x0_12 : Int32) (x1_0 : Int32) (x1_1 : Int32) (x1_2 : Int32) (x1_3 : Int32) (v1_4 : Value) (v1_5 : Value) (v1_6 : Value) (v1_7 : Value) (v1_8 : Value) (v1_9 : Value) (v1_10 : Value) (x2_2 : Int32) (x2_3 : Int32) (g3_ : Nat → Option Nat) (v4_0 : Value) (x4_1 : Int32) (x4_2 : Int32) (x4_3 : Int32) (x4_4 : Int32) (x5_0 : Int32) (v5_1 : Value) (v5_2 : Value) (v5_3 : Value) (v5_4 : Value) (v6_0 : Value) (v6_1 : Value) (x6_2 : Int32) (v6_3 : Value) (v6_4 : Value) (v6_5 : Value) (v6_6 : Value) (v6_7 : Value) (v6_8 : Value) (v6_9 : Value) (v6_10 : Value) (v6_11 : Value) (v6_12 : Value) (v7_0 : Value) (v7_1 : Value) (x7_2 : Int32) (v7_3 : Value) (v7_4 : Value) (v7_5 : Value) (p1 : Int32) (sz : Nat) (hf3_0 : g3_ 0 = some a4) : CtI l yX8_about wsX8_about 2 40 [.ref a0, .int p1] D cy [(a0, .inr (8, [.ref a6, .ref a1, .ref a2, v0_3, v0_4, v0_5, v0_6, v0_7, v0_8, .int x0_9, .ref a5, v0_11, .int x0_12])), (a1, .inr (5, [.int x1_0, .int x1_1, .int x1_2, .int x1_3, v1_4, v1_5, v1_6, v1_7, v1_8, v1_9, v1_10, .ref a7])), (a2, .inr (0, [.ref a3, .int 0, .int x2_2, .int x2_3])), (a3, .inl (cy 4, 41, .inr (.inr (.inr (.inr g3_))))), (a4, .inr (4, [v4_0, .int x4_1, .int x4_2, .int x4_3, .int x4_4])), (a5, .inr (7, [.int x5_0, v5_1, v5_2, v5_3, v5_4])), (a6, .inr (3, [v6_0, v6_1, .int x6_2, v6_3, v6_4, v6_5, v6_6, v6_7, v6_8, v6_9, v6_10, v6_11, v6_12])), (a7, .inr (1, [v7_0, v7_1, .int x7_2, v7_3, v7_4, v7_5]))] sz 0 0 (fun (r : Int32) (_ : Unit) => (r = (-1) ∧ (((p1.toInt < 0 ∨ 14 < p1.toInt)))) ∨ (r = x1_0 ∧ (((p1 = 0)))) ∨ (r = x1_2 ∧ (((p1 = 1)))) ∨ (r = x1_1 ∧ (((p1 = 2)))) ∨ (r = x4_2 ∧ (((p1 = 3)))) ∨ (r = x4_1 ∧ (((p1 = 4)))) ∨ (r = x4_3 ∧ (((p1 = 5)))) ∨ (r = x4_4 ∧ (((p1 = 6)))) ∨ (r = x2_2 ∧ (((p1 = 7)))) ∨ (r = x2_3 ∧ (((p1 = 8)))) ∨ (r = x5_0 ∧ (((p1 = 9)))) ∨ (r = x0_12 ∧ (((p1 = 10)))) ∨ (r = x6_2 ∧ (((p1 = 11)))) ∨ (r = x7_2 ∧ (((p1 = 12)))) ∨ (r = x1_3 ∧ (((p1 = 13)))) ∨ (r = x0_9 ∧ (((p1 = 14))))) (fun _ => []) := by
  refine CtI.of (cc := cX8_about) (maxL := 2) (ty := .int) (own := RX8) (by decide) rfl (Nat.le_of_ble_eq_true rfl) rfl ?_
  intro p e s m below meth c A ls hx hb hr hml hts hown hlk hK hP hD hS hA hl
  have hl : lv_has ls 2 [(0, .ref a0), (1, .int p1)] := hl
  refine st0 (fun H locs hP hS => ?_) hP hS
  have hP : va_P D vwCl [(a0, .inr (8, [.ref a6, .ref a1, .ref a2, v0_3, v0_4, v0_5, v0_6, v0_7, v0_8, .int x0_9, .ref a5, v0_11, .int x0_12])), (a1, .inr (5, [.int x1_0, .int x1_1, .int x1_2, .int x1_3, v1_4, v1_5, v1_6, v1_7, v1_8, v1_9, v1_10, .ref a7])), (a2, .inr (0, [.ref a3, .int 0, .int x2_2, .int x2_3])), (a3, .inl (cy 4, 41, .inr (.inr (.inr (.inr g3_))))), (a4, .inr (4, [v4_0, .int x4_1, .int x4_2, .int x4_3, .int x4_4])), (a5, .inr (7, [.int x5_0, v5_1, v5_2, v5_3, v5_4])), (a6, .inr (3, [v6_0, v6_1, .int x6_2, v6_3, v6_4, v6_5, v6_6, v6_7, v6_8, v6_9, v6_10, v6_11, v6_12])), (a7, .inr (1, [v7_0, v7_1, .int x7_2, v7_3, v7_4, v7_5]))] H := hP
  have hD : va_D A [(a0, .inr (8, [.ref a6, .ref a1, .ref a2, v0_3, v0_4, v0_5, v0_6, v0_7, v0_8, .int x0_9, .ref a5, v0_11, .int x0_12])), (a1, .inr (5, [.int x1_0, .int x1_1, .int x1_2, .int x1_3, v1_4, v1_5, v1_6, v1_7, v1_8, v1_9, v1_10, .ref a7])), (a2, .inr (0, [.ref a3, .int 0, .int x2_2, .int x2_3])), (a3, .inl (cy 4, 41, .inr (.inr (.inr (.inr g3_))))), (a4, .inr (4, [v4_0, .int x4_1, .int x4_2, .int x4_3, .int x4_4])), (a5, .inr (7, [.int x5_0, v5_1, v5_2, v5_3, v5_4])), (a6, .inr (3, [v6_0, v6_1, .int x6_2, v6_3, v6_4, v6_5, v6_6, v6_7, v6_8, v6_9, v6_10, v6_11, v6_12])), (a7, .inr (1, [v7_0, v7_1, .int x7_2, v7_3, v7_4, v7_5]))] := hD
  refine lv_iload_n hx hb dX8_about_0 rfl (lv_at hl 1 rfl) ?_
  rcases sw_0_14 p1 with c1 | rfl | rfl | rfl | rfl | rfl | rfl | rfl | rfl | rfl | rfl | rfl | rfl | rfl | rfl | rfl
  · refine lv_tableOut (tgt := 193) hx hb dX8_about_1 c1 (by decide) ?_
    refine lv_iconst (v := (-1)) hx hb dX8_about_193 (by decide) ?_
    exact rtI hx hb hr hlk rfl hP hD hS () [] rfl rfl (Or.inl ⟨rfl, c1⟩) dX8_about_194
  · refine lv_tableIn (off := 75) (tgt := 76) hx hb dX8_about_1 (by decide) (by decide) (by decide) (by decide) ?_
    refine lv_aload_n hx hb dX8_about_76 rfl (lv_at hl 0 rfl) ?_
    refine va_get (D := D) (cl := vwCl) (ci := 8) (v := .ref a1) (C := RX8) (T := TX8) (N := 13) hx hb hts in_X8_about_X8 hown hK hP 0 rfl rfl 1 (by decide) (hts (.fieldLink RX8 19 "EightReasons" "told" "LEightReasons$Suit;") (List.mem_of_getElem? (i := 1) (by decide +kernel))) (fun _ h9 => h9) rfl dX8_about_77 ?_
    refine va_get (D := D) (cl := vwCl) (ci := 5) (v := .int x1_0) (C := RX5) (T := TX5) (N := 12) hx hb hts in_X8_about_X5 hown hK hP 1 rfl rfl 0 (by decide) (hts (.fieldLink RX8 105 "EightReasons$Suit" "points" "I") (List.mem_of_getElem? (i := 2) (by decide +kernel))) (fun _ h9 => h9) rfl dX8_about_80 ?_
    exact rtI hx hb hr hlk rfl hP hD hS () [] rfl rfl (Or.inr (Or.inl ⟨rfl, rfl⟩)) dX8_about_83
  · refine lv_tableIn (off := 83) (tgt := 84) hx hb dX8_about_1 (by decide) (by decide) (by decide) (by decide) ?_
    refine lv_aload_n hx hb dX8_about_84 rfl (lv_at hl 0 rfl) ?_
    refine va_get (D := D) (cl := vwCl) (ci := 8) (v := .ref a1) (C := RX8) (T := TX8) (N := 13) hx hb hts in_X8_about_X8 hown hK hP 0 rfl rfl 1 (by decide) (hts (.fieldLink RX8 19 "EightReasons" "told" "LEightReasons$Suit;") (List.mem_of_getElem? (i := 1) (by decide +kernel))) (fun _ h9 => h9) rfl dX8_about_85 ?_
    refine va_get (D := D) (cl := vwCl) (ci := 5) (v := .int x1_2) (C := RX5) (T := TX5) (N := 12) hx hb hts in_X8_about_X5 hown hK hP 1 rfl rfl 2 (by decide) (hts (.fieldLink RX8 157 "EightReasons$Suit" "strands" "I") (List.mem_of_getElem? (i := 3) (by decide +kernel))) (fun _ h9 => h9) rfl dX8_about_88 ?_
    exact rtI hx hb hr hlk rfl hP hD hS () [] rfl rfl (Or.inr (Or.inr (Or.inl ⟨rfl, rfl⟩))) dX8_about_91
  · refine lv_tableIn (off := 91) (tgt := 92) hx hb dX8_about_1 (by decide) (by decide) (by decide) (by decide) ?_
    refine lv_aload_n hx hb dX8_about_92 rfl (lv_at hl 0 rfl) ?_
    refine va_get (D := D) (cl := vwCl) (ci := 8) (v := .ref a1) (C := RX8) (T := TX8) (N := 13) hx hb hts in_X8_about_X8 hown hK hP 0 rfl rfl 1 (by decide) (hts (.fieldLink RX8 19 "EightReasons" "told" "LEightReasons$Suit;") (List.mem_of_getElem? (i := 1) (by decide +kernel))) (fun _ h9 => h9) rfl dX8_about_93 ?_
    refine va_get (D := D) (cl := vwCl) (ci := 5) (v := .int x1_1) (C := RX5) (T := TX5) (N := 12) hx hb hts in_X8_about_X5 hown hK hP 1 rfl rfl 1 (by decide) (hts (.fieldLink RX8 118 "EightReasons$Suit" "facts" "I") (List.mem_of_getElem? (i := 4) (by decide +kernel))) (fun _ h9 => h9) rfl dX8_about_96 ?_
    exact rtI hx hb hr hlk rfl hP hD hS () [] rfl rfl (Or.inr (Or.inr (Or.inr (Or.inl ⟨rfl, rfl⟩)))) dX8_about_99
  · refine lv_tableIn (off := 99) (tgt := 100) hx hb dX8_about_1 (by decide) (by decide) (by decide) (by decide) ?_
    refine lv_aload_n hx hb dX8_about_100 rfl (lv_at hl 0 rfl) ?_
    refine clVR (As := []) (rest := []) (wr := [(a1, .inr (5, [.int x1_0, .int x1_1, .int x1_2, .int x1_3, v1_4, v1_5, v1_6, v1_7, v1_8, v1_9, v1_10, .ref a7])), (a4, .inr (4, [v4_0, .int x4_1, .int x4_2, .int x4_3, .int x4_4])), (a5, .inr (7, [.int x5_0, v5_1, v5_2, v5_3, v5_4])), (a6, .inr (3, [v6_0, v6_1, .int x6_2, v6_3, v6_4, v6_5, v6_6, v6_7, v6_8, v6_9, v6_10, v6_11, v6_12])), (a7, .inr (1, [v7_0, v7_1, .int x7_2, v7_3, v7_4, v7_5]))]) ⟨hx, hb, hml, hown, hts⟩ hK hP hD hS hA (k_X8_now_0 l D cy a0 a2 a3 a4 (.ref a6) (.ref a1) (v0_3) (v0_4) (v0_5) (v0_6) (v0_7) (v0_8) (.int x0_9) (.ref a5) (v0_11) (.int x0_12) (.int x2_2) (.int x2_3) g3_ _ hf3_0) (cwV 0 hts gX8_about_X8_now rfl rfl rfl (by decide +kernel) ⟨Nat.le_of_ble_eq_true rfl, Nat.le_of_ble_eq_true rfl⟩) 0 8 rfl rfl [0, 2, 3] [1, 4, 5, 6, 7] rfl rfl rfl rfl (by decide) rfl hl.1 rfl (Nat.le_of_ble_eq_true rfl) dX8_about_101 ⟨Nat.le_of_ble_eq_true rfl, Nat.le_of_ble_eq_true rfl⟩ rfl rfl (fun _ H locs _ hP hD hS => ?_)
    have hP : va_P D vwCl [(a1, .inr (5, [.int x1_0, .int x1_1, .int x1_2, .int x1_3, v1_4, v1_5, v1_6, v1_7, v1_8, v1_9, v1_10, .ref a7])), (a4, .inr (4, [v4_0, .int x4_1, .int x4_2, .int x4_3, .int x4_4])), (a5, .inr (7, [.int x5_0, v5_1, v5_2, v5_3, v5_4])), (a6, .inr (3, [v6_0, v6_1, .int x6_2, v6_3, v6_4, v6_5, v6_6, v6_7, v6_8, v6_9, v6_10, v6_11, v6_12])), (a7, .inr (1, [v7_0, v7_1, .int x7_2, v7_3, v7_4, v7_5])), (a0, .inr (8, [.ref a6, .ref a1, .ref a2, v0_3, v0_4, v0_5, v0_6, v0_7, v0_8, .int x0_9, .ref a5, v0_11, .int x0_12])), (a2, .inr (0, [.ref a3, .int 0, .int x2_2, .int x2_3])), (a3, .inl (cy 4, 41, .inr (.inr (.inr (.inr g3_)))))] H := hP
    have hD : va_D A [(a1, .inr (5, [.int x1_0, .int x1_1, .int x1_2, .int x1_3, v1_4, v1_5, v1_6, v1_7, v1_8, v1_9, v1_10, .ref a7])), (a4, .inr (4, [v4_0, .int x4_1, .int x4_2, .int x4_3, .int x4_4])), (a5, .inr (7, [.int x5_0, v5_1, v5_2, v5_3, v5_4])), (a6, .inr (3, [v6_0, v6_1, .int x6_2, v6_3, v6_4, v6_5, v6_6, v6_7, v6_8, v6_9, v6_10, v6_11, v6_12])), (a7, .inr (1, [v7_0, v7_1, .int x7_2, v7_3, v7_4, v7_5])), (a0, .inr (8, [.ref a6, .ref a1, .ref a2, v0_3, v0_4, v0_5, v0_6, v0_7, v0_8, .int x0_9, .ref a5, v0_11, .int x0_12])), (a2, .inr (0, [.ref a3, .int 0, .int x2_2, .int x2_3])), (a3, .inl (cy 4, 41, .inr (.inr (.inr (.inr g3_)))))] := hD
    refine W.eq (g2 := F0 m 104 ls (.ref a4 :: [])) rfl ?_
    refine va_get (D := D) (cl := vwCl) (ci := 4) (v := .int x4_2) (C := RX4) (T := TX4) (N := 5) hx hb hts in_X8_about_X4 hown hK hP 1 rfl rfl 2 (by decide) (hts (.fieldLink RX8 124 "EightReasons$State" "struck" "I") (List.mem_of_getElem? (i := 5) (by decide +kernel))) (fun _ h9 => h9) rfl dX8_about_104 ?_
    exact rtI hx hb hr hlk rfl hP hD hS () [] rfl rfl (Or.inr (Or.inr (Or.inr (Or.inr (Or.inl ⟨rfl, rfl⟩))))) dX8_about_107
  · refine lv_tableIn (off := 107) (tgt := 108) hx hb dX8_about_1 (by decide) (by decide) (by decide) (by decide) ?_
    refine lv_aload_n hx hb dX8_about_108 rfl (lv_at hl 0 rfl) ?_
    refine clVR (As := []) (rest := []) (wr := [(a1, .inr (5, [.int x1_0, .int x1_1, .int x1_2, .int x1_3, v1_4, v1_5, v1_6, v1_7, v1_8, v1_9, v1_10, .ref a7])), (a4, .inr (4, [v4_0, .int x4_1, .int x4_2, .int x4_3, .int x4_4])), (a5, .inr (7, [.int x5_0, v5_1, v5_2, v5_3, v5_4])), (a6, .inr (3, [v6_0, v6_1, .int x6_2, v6_3, v6_4, v6_5, v6_6, v6_7, v6_8, v6_9, v6_10, v6_11, v6_12])), (a7, .inr (1, [v7_0, v7_1, .int x7_2, v7_3, v7_4, v7_5]))]) ⟨hx, hb, hml, hown, hts⟩ hK hP hD hS hA (k_X8_now_0 l D cy a0 a2 a3 a4 (.ref a6) (.ref a1) (v0_3) (v0_4) (v0_5) (v0_6) (v0_7) (v0_8) (.int x0_9) (.ref a5) (v0_11) (.int x0_12) (.int x2_2) (.int x2_3) g3_ _ hf3_0) (cwV 0 hts gX8_about_X8_now rfl rfl rfl (by decide +kernel) ⟨Nat.le_of_ble_eq_true rfl, Nat.le_of_ble_eq_true rfl⟩) 0 8 rfl rfl [0, 2, 3] [1, 4, 5, 6, 7] rfl rfl rfl rfl (by decide) rfl hl.1 rfl (Nat.le_of_ble_eq_true rfl) dX8_about_109 ⟨Nat.le_of_ble_eq_true rfl, Nat.le_of_ble_eq_true rfl⟩ rfl rfl (fun _ H locs _ hP hD hS => ?_)
    have hP : va_P D vwCl [(a1, .inr (5, [.int x1_0, .int x1_1, .int x1_2, .int x1_3, v1_4, v1_5, v1_6, v1_7, v1_8, v1_9, v1_10, .ref a7])), (a4, .inr (4, [v4_0, .int x4_1, .int x4_2, .int x4_3, .int x4_4])), (a5, .inr (7, [.int x5_0, v5_1, v5_2, v5_3, v5_4])), (a6, .inr (3, [v6_0, v6_1, .int x6_2, v6_3, v6_4, v6_5, v6_6, v6_7, v6_8, v6_9, v6_10, v6_11, v6_12])), (a7, .inr (1, [v7_0, v7_1, .int x7_2, v7_3, v7_4, v7_5])), (a0, .inr (8, [.ref a6, .ref a1, .ref a2, v0_3, v0_4, v0_5, v0_6, v0_7, v0_8, .int x0_9, .ref a5, v0_11, .int x0_12])), (a2, .inr (0, [.ref a3, .int 0, .int x2_2, .int x2_3])), (a3, .inl (cy 4, 41, .inr (.inr (.inr (.inr g3_)))))] H := hP
    have hD : va_D A [(a1, .inr (5, [.int x1_0, .int x1_1, .int x1_2, .int x1_3, v1_4, v1_5, v1_6, v1_7, v1_8, v1_9, v1_10, .ref a7])), (a4, .inr (4, [v4_0, .int x4_1, .int x4_2, .int x4_3, .int x4_4])), (a5, .inr (7, [.int x5_0, v5_1, v5_2, v5_3, v5_4])), (a6, .inr (3, [v6_0, v6_1, .int x6_2, v6_3, v6_4, v6_5, v6_6, v6_7, v6_8, v6_9, v6_10, v6_11, v6_12])), (a7, .inr (1, [v7_0, v7_1, .int x7_2, v7_3, v7_4, v7_5])), (a0, .inr (8, [.ref a6, .ref a1, .ref a2, v0_3, v0_4, v0_5, v0_6, v0_7, v0_8, .int x0_9, .ref a5, v0_11, .int x0_12])), (a2, .inr (0, [.ref a3, .int 0, .int x2_2, .int x2_3])), (a3, .inl (cy 4, 41, .inr (.inr (.inr (.inr g3_)))))] := hD
    refine W.eq (g2 := F0 m 112 ls (.ref a4 :: [])) rfl ?_
    refine va_get (D := D) (cl := vwCl) (ci := 4) (v := .int x4_1) (C := RX4) (T := TX4) (N := 5) hx hb hts in_X8_about_X4 hown hK hP 1 rfl rfl 1 (by decide) (hts (.fieldLink RX8 145 "EightReasons$State" "tied" "I") (List.mem_of_getElem? (i := 6) (by decide +kernel))) (fun _ h9 => h9) rfl dX8_about_112 ?_
    exact rtI hx hb hr hlk rfl hP hD hS () [] rfl rfl (Or.inr (Or.inr (Or.inr (Or.inr (Or.inr (Or.inl ⟨rfl, rfl⟩)))))) dX8_about_115
  · refine lv_tableIn (off := 115) (tgt := 116) hx hb dX8_about_1 (by decide) (by decide) (by decide) (by decide) ?_
    refine lv_aload_n hx hb dX8_about_116 rfl (lv_at hl 0 rfl) ?_
    refine clVR (As := []) (rest := []) (wr := [(a1, .inr (5, [.int x1_0, .int x1_1, .int x1_2, .int x1_3, v1_4, v1_5, v1_6, v1_7, v1_8, v1_9, v1_10, .ref a7])), (a4, .inr (4, [v4_0, .int x4_1, .int x4_2, .int x4_3, .int x4_4])), (a5, .inr (7, [.int x5_0, v5_1, v5_2, v5_3, v5_4])), (a6, .inr (3, [v6_0, v6_1, .int x6_2, v6_3, v6_4, v6_5, v6_6, v6_7, v6_8, v6_9, v6_10, v6_11, v6_12])), (a7, .inr (1, [v7_0, v7_1, .int x7_2, v7_3, v7_4, v7_5]))]) ⟨hx, hb, hml, hown, hts⟩ hK hP hD hS hA (k_X8_now_0 l D cy a0 a2 a3 a4 (.ref a6) (.ref a1) (v0_3) (v0_4) (v0_5) (v0_6) (v0_7) (v0_8) (.int x0_9) (.ref a5) (v0_11) (.int x0_12) (.int x2_2) (.int x2_3) g3_ _ hf3_0) (cwV 0 hts gX8_about_X8_now rfl rfl rfl (by decide +kernel) ⟨Nat.le_of_ble_eq_true rfl, Nat.le_of_ble_eq_true rfl⟩) 0 8 rfl rfl [0, 2, 3] [1, 4, 5, 6, 7] rfl rfl rfl rfl (by decide) rfl hl.1 rfl (Nat.le_of_ble_eq_true rfl) dX8_about_117 ⟨Nat.le_of_ble_eq_true rfl, Nat.le_of_ble_eq_true rfl⟩ rfl rfl (fun _ H locs _ hP hD hS => ?_)
    have hP : va_P D vwCl [(a1, .inr (5, [.int x1_0, .int x1_1, .int x1_2, .int x1_3, v1_4, v1_5, v1_6, v1_7, v1_8, v1_9, v1_10, .ref a7])), (a4, .inr (4, [v4_0, .int x4_1, .int x4_2, .int x4_3, .int x4_4])), (a5, .inr (7, [.int x5_0, v5_1, v5_2, v5_3, v5_4])), (a6, .inr (3, [v6_0, v6_1, .int x6_2, v6_3, v6_4, v6_5, v6_6, v6_7, v6_8, v6_9, v6_10, v6_11, v6_12])), (a7, .inr (1, [v7_0, v7_1, .int x7_2, v7_3, v7_4, v7_5])), (a0, .inr (8, [.ref a6, .ref a1, .ref a2, v0_3, v0_4, v0_5, v0_6, v0_7, v0_8, .int x0_9, .ref a5, v0_11, .int x0_12])), (a2, .inr (0, [.ref a3, .int 0, .int x2_2, .int x2_3])), (a3, .inl (cy 4, 41, .inr (.inr (.inr (.inr g3_)))))] H := hP
    have hD : va_D A [(a1, .inr (5, [.int x1_0, .int x1_1, .int x1_2, .int x1_3, v1_4, v1_5, v1_6, v1_7, v1_8, v1_9, v1_10, .ref a7])), (a4, .inr (4, [v4_0, .int x4_1, .int x4_2, .int x4_3, .int x4_4])), (a5, .inr (7, [.int x5_0, v5_1, v5_2, v5_3, v5_4])), (a6, .inr (3, [v6_0, v6_1, .int x6_2, v6_3, v6_4, v6_5, v6_6, v6_7, v6_8, v6_9, v6_10, v6_11, v6_12])), (a7, .inr (1, [v7_0, v7_1, .int x7_2, v7_3, v7_4, v7_5])), (a0, .inr (8, [.ref a6, .ref a1, .ref a2, v0_3, v0_4, v0_5, v0_6, v0_7, v0_8, .int x0_9, .ref a5, v0_11, .int x0_12])), (a2, .inr (0, [.ref a3, .int 0, .int x2_2, .int x2_3])), (a3, .inl (cy 4, 41, .inr (.inr (.inr (.inr g3_)))))] := hD
    refine W.eq (g2 := F0 m 120 ls (.ref a4 :: [])) rfl ?_
    refine va_get (D := D) (cl := vwCl) (ci := 4) (v := .int x4_3) (C := RX4) (T := TX4) (N := 5) hx hb hts in_X8_about_X4 hown hK hP 1 rfl rfl 3 (by decide) (hts (.fieldLink RX8 160 "EightReasons$State" "day" "I") (List.mem_of_getElem? (i := 7) (by decide +kernel))) (fun _ h9 => h9) rfl dX8_about_120 ?_
    exact rtI hx hb hr hlk rfl hP hD hS () [] rfl rfl (Or.inr (Or.inr (Or.inr (Or.inr (Or.inr (Or.inr (Or.inl ⟨rfl, rfl⟩))))))) dX8_about_123
  · refine lv_tableIn (off := 123) (tgt := 124) hx hb dX8_about_1 (by decide) (by decide) (by decide) (by decide) ?_
    refine lv_aload_n hx hb dX8_about_124 rfl (lv_at hl 0 rfl) ?_
    refine clVR (As := []) (rest := []) (wr := [(a1, .inr (5, [.int x1_0, .int x1_1, .int x1_2, .int x1_3, v1_4, v1_5, v1_6, v1_7, v1_8, v1_9, v1_10, .ref a7])), (a4, .inr (4, [v4_0, .int x4_1, .int x4_2, .int x4_3, .int x4_4])), (a5, .inr (7, [.int x5_0, v5_1, v5_2, v5_3, v5_4])), (a6, .inr (3, [v6_0, v6_1, .int x6_2, v6_3, v6_4, v6_5, v6_6, v6_7, v6_8, v6_9, v6_10, v6_11, v6_12])), (a7, .inr (1, [v7_0, v7_1, .int x7_2, v7_3, v7_4, v7_5]))]) ⟨hx, hb, hml, hown, hts⟩ hK hP hD hS hA (k_X8_now_0 l D cy a0 a2 a3 a4 (.ref a6) (.ref a1) (v0_3) (v0_4) (v0_5) (v0_6) (v0_7) (v0_8) (.int x0_9) (.ref a5) (v0_11) (.int x0_12) (.int x2_2) (.int x2_3) g3_ _ hf3_0) (cwV 0 hts gX8_about_X8_now rfl rfl rfl (by decide +kernel) ⟨Nat.le_of_ble_eq_true rfl, Nat.le_of_ble_eq_true rfl⟩) 0 8 rfl rfl [0, 2, 3] [1, 4, 5, 6, 7] rfl rfl rfl rfl (by decide) rfl hl.1 rfl (Nat.le_of_ble_eq_true rfl) dX8_about_125 ⟨Nat.le_of_ble_eq_true rfl, Nat.le_of_ble_eq_true rfl⟩ rfl rfl (fun _ H locs _ hP hD hS => ?_)
    have hP : va_P D vwCl [(a1, .inr (5, [.int x1_0, .int x1_1, .int x1_2, .int x1_3, v1_4, v1_5, v1_6, v1_7, v1_8, v1_9, v1_10, .ref a7])), (a4, .inr (4, [v4_0, .int x4_1, .int x4_2, .int x4_3, .int x4_4])), (a5, .inr (7, [.int x5_0, v5_1, v5_2, v5_3, v5_4])), (a6, .inr (3, [v6_0, v6_1, .int x6_2, v6_3, v6_4, v6_5, v6_6, v6_7, v6_8, v6_9, v6_10, v6_11, v6_12])), (a7, .inr (1, [v7_0, v7_1, .int x7_2, v7_3, v7_4, v7_5])), (a0, .inr (8, [.ref a6, .ref a1, .ref a2, v0_3, v0_4, v0_5, v0_6, v0_7, v0_8, .int x0_9, .ref a5, v0_11, .int x0_12])), (a2, .inr (0, [.ref a3, .int 0, .int x2_2, .int x2_3])), (a3, .inl (cy 4, 41, .inr (.inr (.inr (.inr g3_)))))] H := hP
    have hD : va_D A [(a1, .inr (5, [.int x1_0, .int x1_1, .int x1_2, .int x1_3, v1_4, v1_5, v1_6, v1_7, v1_8, v1_9, v1_10, .ref a7])), (a4, .inr (4, [v4_0, .int x4_1, .int x4_2, .int x4_3, .int x4_4])), (a5, .inr (7, [.int x5_0, v5_1, v5_2, v5_3, v5_4])), (a6, .inr (3, [v6_0, v6_1, .int x6_2, v6_3, v6_4, v6_5, v6_6, v6_7, v6_8, v6_9, v6_10, v6_11, v6_12])), (a7, .inr (1, [v7_0, v7_1, .int x7_2, v7_3, v7_4, v7_5])), (a0, .inr (8, [.ref a6, .ref a1, .ref a2, v0_3, v0_4, v0_5, v0_6, v0_7, v0_8, .int x0_9, .ref a5, v0_11, .int x0_12])), (a2, .inr (0, [.ref a3, .int 0, .int x2_2, .int x2_3])), (a3, .inl (cy 4, 41, .inr (.inr (.inr (.inr g3_)))))] := hD
    refine W.eq (g2 := F0 m 128 ls (.ref a4 :: [])) rfl ?_
    refine va_get (D := D) (cl := vwCl) (ci := 4) (v := .int x4_4) (C := RX4) (T := TX4) (N := 5) hx hb hts in_X8_about_X4 hown hK hP 1 rfl rfl 4 (by decide) (hts (.fieldLink RX8 163 "EightReasons$State" "seed" "I") (List.mem_of_getElem? (i := 8) (by decide +kernel))) (fun _ h9 => h9) rfl dX8_about_128 ?_
    exact rtI hx hb hr hlk rfl hP hD hS () [] rfl rfl (Or.inr (Or.inr (Or.inr (Or.inr (Or.inr (Or.inr (Or.inr (Or.inl ⟨rfl, rfl⟩)))))))) dX8_about_131
  · refine lv_tableIn (off := 131) (tgt := 132) hx hb dX8_about_1 (by decide) (by decide) (by decide) (by decide) ?_
    refine lv_aload_n hx hb dX8_about_132 rfl (lv_at hl 0 rfl) ?_
    refine va_get (D := D) (cl := vwCl) (ci := 8) (v := .ref a2) (C := RX8) (T := TX8) (N := 13) hx hb hts in_X8_about_X8 hown hK hP 0 rfl rfl 2 (by decide) (hts (.fieldLink RX8 26 "EightReasons" "acts" "LEightReasons$Acts;") (List.mem_of_getElem? (i := 9) (by decide +kernel))) (fun _ h9 => h9) rfl dX8_about_133 ?_
    refine va_get (D := D) (cl := vwCl) (ci := 0) (v := .int x2_2) (C := RX0) (T := TX0) (N := 4) hx hb hts in_X8_about_X0 hown hK hP 2 rfl rfl 2 (by decide) (hts (.fieldLink RX8 166 "EightReasons$Acts" "undoable" "I") (List.mem_of_getElem? (i := 10) (by decide +kernel))) (fun _ h9 => h9) rfl dX8_about_136 ?_
    exact rtI hx hb hr hlk rfl hP hD hS () [] rfl rfl (Or.inr (Or.inr (Or.inr (Or.inr (Or.inr (Or.inr (Or.inr (Or.inr (Or.inl ⟨rfl, rfl⟩))))))))) dX8_about_139
  · refine lv_tableIn (off := 139) (tgt := 140) hx hb dX8_about_1 (by decide) (by decide) (by decide) (by decide) ?_
    refine lv_aload_n hx hb dX8_about_140 rfl (lv_at hl 0 rfl) ?_
    refine va_get (D := D) (cl := vwCl) (ci := 8) (v := .ref a2) (C := RX8) (T := TX8) (N := 13) hx hb hts in_X8_about_X8 hown hK hP 0 rfl rfl 2 (by decide) (hts (.fieldLink RX8 26 "EightReasons" "acts" "LEightReasons$Acts;") (List.mem_of_getElem? (i := 9) (by decide +kernel))) (fun _ h9 => h9) rfl dX8_about_141 ?_
    refine va_get (D := D) (cl := vwCl) (ci := 0) (v := .int x2_3) (C := RX0) (T := TX0) (N := 4) hx hb hts in_X8_about_X0 hown hK hP 2 rfl rfl 3 (by decide) (hts (.fieldLink RX8 169 "EightReasons$Acts" "redoable" "I") (List.mem_of_getElem? (i := 11) (by decide +kernel))) (fun _ h9 => h9) rfl dX8_about_144 ?_
    exact rtI hx hb hr hlk rfl hP hD hS () [] rfl rfl (Or.inr (Or.inr (Or.inr (Or.inr (Or.inr (Or.inr (Or.inr (Or.inr (Or.inr (Or.inl ⟨rfl, rfl⟩)))))))))) dX8_about_147
  · refine lv_tableIn (off := 147) (tgt := 148) hx hb dX8_about_1 (by decide) (by decide) (by decide) (by decide) ?_
    refine lv_aload_n hx hb dX8_about_148 rfl (lv_at hl 0 rfl) ?_
    refine va_get (D := D) (cl := vwCl) (ci := 8) (v := .ref a5) (C := RX8) (T := TX8) (N := 13) hx hb hts in_X8_about_X8 hown hK hP 0 rfl rfl 10 (by decide) (hts (.fieldLink RX8 58 "EightReasons" "witness" "LEightReasons$Witness;") (List.mem_of_getElem? (i := 12) (by decide +kernel))) (fun _ h9 => h9) rfl dX8_about_149 ?_
    refine va_get (D := D) (cl := vwCl) (ci := 7) (v := .int x5_0) (C := RX7) (T := TX7) (N := 5) hx hb hts in_X8_about_X7 hown hK hP 5 rfl rfl 0 (by decide) (hts (.fieldLink RX8 99 "EightReasons$Witness" "count" "I") (List.mem_of_getElem? (i := 13) (by decide +kernel))) (fun _ h9 => h9) rfl dX8_about_152 ?_
    exact rtI hx hb hr hlk rfl hP hD hS () [] rfl rfl (Or.inr (Or.inr (Or.inr (Or.inr (Or.inr (Or.inr (Or.inr (Or.inr (Or.inr (Or.inr (Or.inl ⟨rfl, rfl⟩))))))))))) dX8_about_155
  · refine lv_tableIn (off := 155) (tgt := 156) hx hb dX8_about_1 (by decide) (by decide) (by decide) (by decide) ?_
    refine lv_aload_n hx hb dX8_about_156 rfl (lv_at hl 0 rfl) ?_
    refine va_get (D := D) (cl := vwCl) (ci := 8) (v := .int x0_12) (C := RX8) (T := TX8) (N := 13) hx hb hts in_X8_about_X8 hown hK hP 0 rfl rfl 12 (by decide) (hts (.fieldLink RX8 172 "EightReasons" "time" "I") (List.mem_of_getElem? (i := 14) (by decide +kernel))) (fun _ h9 => h9) rfl dX8_about_157 ?_
    exact rtI hx hb hr hlk rfl hP hD hS () [] rfl rfl (Or.inr (Or.inr (Or.inr (Or.inr (Or.inr (Or.inr (Or.inr (Or.inr (Or.inr (Or.inr (Or.inr (Or.inl ⟨rfl, rfl⟩)))))))))))) dX8_about_160
  · refine lv_tableIn (off := 160) (tgt := 161) hx hb dX8_about_1 (by decide) (by decide) (by decide) (by decide) ?_
    refine lv_aload_n hx hb dX8_about_161 rfl (lv_at hl 0 rfl) ?_
    refine va_get (D := D) (cl := vwCl) (ci := 8) (v := .ref a6) (C := RX8) (T := TX8) (N := 13) hx hb hts in_X8_about_X8 hown hK hP 0 rfl rfl 0 (by decide) (hts (.fieldLink RX8 10 "EightReasons" "reader" "LEightReasons$Reader;") (List.mem_of_getElem? (i := 15) (by decide +kernel))) (fun _ h9 => h9) rfl dX8_about_162 ?_
    refine va_get (D := D) (cl := vwCl) (ci := 3) (v := .int x6_2) (C := RX3) (T := TX3) (N := 13) hx hb hts in_X8_about_X3 hown hK hP 6 rfl rfl 2 (by decide) (hts (.fieldLink RX8 69 "EightReasons$Reader" "bytes" "I") (List.mem_of_getElem? (i := 16) (by decide +kernel))) (fun _ h9 => h9) rfl dX8_about_165 ?_
    exact rtI hx hb hr hlk rfl hP hD hS () [] rfl rfl (Or.inr (Or.inr (Or.inr (Or.inr (Or.inr (Or.inr (Or.inr (Or.inr (Or.inr (Or.inr (Or.inr (Or.inr (Or.inl ⟨rfl, rfl⟩))))))))))))) dX8_about_168
  · refine lv_tableIn (off := 168) (tgt := 169) hx hb dX8_about_1 (by decide) (by decide) (by decide) (by decide) ?_
    refine lv_aload_n hx hb dX8_about_169 rfl (lv_at hl 0 rfl) ?_
    refine va_get (D := D) (cl := vwCl) (ci := 8) (v := .ref a1) (C := RX8) (T := TX8) (N := 13) hx hb hts in_X8_about_X8 hown hK hP 0 rfl rfl 1 (by decide) (hts (.fieldLink RX8 19 "EightReasons" "told" "LEightReasons$Suit;") (List.mem_of_getElem? (i := 1) (by decide +kernel))) (fun _ h9 => h9) rfl dX8_about_170 ?_
    refine va_get (D := D) (cl := vwCl) (ci := 5) (v := .ref a7) (C := RX5) (T := TX5) (N := 12) hx hb hts in_X8_about_X5 hown hK hP 1 rfl rfl 11 (by decide) (hts (.fieldLink RX8 175 "EightReasons$Suit" "formula" "LEightReasons$Formula;") (List.mem_of_getElem? (i := 17) (by decide +kernel))) (fun _ h9 => h9) rfl dX8_about_173 ?_
    refine va_get (D := D) (cl := vwCl) (ci := 1) (v := .int x7_2) (C := RX1) (T := TX1) (N := 6) hx hb hts in_X8_about_X1 hown hK hP 7 rfl rfl 2 (by decide) (hts (.fieldLink RX8 179 "EightReasons$Formula" "units" "I") (List.mem_of_getElem? (i := 18) (by decide +kernel))) (fun _ h9 => h9) rfl dX8_about_176 ?_
    exact rtI hx hb hr hlk rfl hP hD hS () [] rfl rfl (Or.inr (Or.inr (Or.inr (Or.inr (Or.inr (Or.inr (Or.inr (Or.inr (Or.inr (Or.inr (Or.inr (Or.inr (Or.inr (Or.inl ⟨rfl, rfl⟩)))))))))))))) dX8_about_179
  · refine lv_tableIn (off := 179) (tgt := 180) hx hb dX8_about_1 (by decide) (by decide) (by decide) (by decide) ?_
    refine lv_aload_n hx hb dX8_about_180 rfl (lv_at hl 0 rfl) ?_
    refine va_get (D := D) (cl := vwCl) (ci := 8) (v := .ref a1) (C := RX8) (T := TX8) (N := 13) hx hb hts in_X8_about_X8 hown hK hP 0 rfl rfl 1 (by decide) (hts (.fieldLink RX8 19 "EightReasons" "told" "LEightReasons$Suit;") (List.mem_of_getElem? (i := 1) (by decide +kernel))) (fun _ h9 => h9) rfl dX8_about_181 ?_
    refine va_get (D := D) (cl := vwCl) (ci := 5) (v := .int x1_3) (C := RX5) (T := TX5) (N := 12) hx hb hts in_X8_about_X5 hown hK hP 1 rfl rfl 3 (by decide) (hts (.fieldLink RX8 184 "EightReasons$Suit" "fray" "I") (List.mem_of_getElem? (i := 19) (by decide +kernel))) (fun _ h9 => h9) rfl dX8_about_184 ?_
    exact rtI hx hb hr hlk rfl hP hD hS () [] rfl rfl (Or.inr (Or.inr (Or.inr (Or.inr (Or.inr (Or.inr (Or.inr (Or.inr (Or.inr (Or.inr (Or.inr (Or.inr (Or.inr (Or.inr (Or.inl ⟨rfl, rfl⟩))))))))))))))) dX8_about_187
  · refine lv_tableIn (off := 187) (tgt := 188) hx hb dX8_about_1 (by decide) (by decide) (by decide) (by decide) ?_
    refine lv_aload_n hx hb dX8_about_188 rfl (lv_at hl 0 rfl) ?_
    refine va_get (D := D) (cl := vwCl) (ci := 8) (v := .int x0_9) (C := RX8) (T := TX8) (N := 13) hx hb hts in_X8_about_X8 hown hK hP 0 rfl rfl 9 (by decide) (hts (.fieldLink RX8 102 "EightReasons" "lyingCount" "I") (List.mem_of_getElem? (i := 20) (by decide +kernel))) (fun _ h9 => h9) rfl dX8_about_189 ?_
    exact rtI hx hb hr hlk rfl hP hD hS () [] rfl rfl (Or.inr (Or.inr (Or.inr (Or.inr (Or.inr (Or.inr (Or.inr (Or.inr (Or.inr (Or.inr (Or.inr (Or.inr (Or.inr (Or.inr (Or.inr ⟨rfl, rfl⟩))))))))))))))) dX8_about_192
set_option maxHeartbeats 4000000 in
set_option maxRecDepth 100000 in
theorem k_X9_about_0 (l : Launch) (D : va_G) (cy : Nat → ClassId) (a0 a1 a2 a3 a4 a5 : Nat) (v0_0 : Value) (v0_1 : Value) (x0_2 : Int32) (v0_3 : Value) (v0_4 : Value) (v0_5 : Value) (v0_6 : Value) (v0_7 : Value) (v0_8 : Value) (v0_9 : Value) (v0_10 : Value) (v0_15 : Value) (v0_16 : Value) (v0_17 : Value) (v0_18 : Value) (v0_19 : Value) (v0_20 : Value) (v0_21 : Value) (v0_22 : Value) (v0_23 : Value) (v0_24 : Value) (v0_25 : Value) (v0_26 : Value) (v0_27 : Value) (v0_28 : Value) (v0_30 : Value) (v0_31 : Value) (v0_32 : Value) (v0_33 : Value) (v0_34 : Value) (v0_35 : Value) (v0_36 : Value) (v0_38 : Value) (v0_39 : Value) (v0_40 : Value) (v0_41 : Value) (v0_42 : Value) (v0_43 : Value) (v0_44 : Value) (x0_45 : Int32) (x0_46 : Int32) (v0_47 : Value) (x0_48 : Int32) (v0_49 : Value) (v0_50 : Value) (v0_51 : Value) (v0_52 : Value) (v0_53 : Value) (v0_54 : Value) (v0_55 : Value) (v0_56 : Value) (v0_57 : Value) (x0_58 : Int32) (x0_59 : Int32) (v0_60 : Value) (v0_61 : Value) (v0_62 : Value) (v0_63 : Value) (p1 : Int32) (sz : Nat) : CtI l yX9_about wsX9_about 2 42 [.ref a0, .int p1] D cy [(a0, .inr (9, [v0_0, v0_1, .int x0_2, v0_3, v0_4, v0_5, v0_6, v0_7, v0_8, v0_9, v0_10, .ref a1, .ref a2, .ref a4, .ref a5, v0_15, v0_16, v0_17, v0_18, v0_19, v0_20, v0_21, v0_22, v0_23, v0_24, v0_25, v0_26, v0_27, v0_28, .int 0, v0_30, v0_31, v0_32, v0_33, v0_34, v0_35, v0_36, .ref a3, v0_38, v0_39, v0_40, v0_41, v0_42, v0_43, v0_44, .int x0_45, .int x0_46, v0_47, .int x0_48, v0_49, v0_50, v0_51, v0_52, v0_53, v0_54, v0_55, v0_56, v0_57, .int x0_58, .int x0_59, v0_60, v0_61, v0_62, v0_63])), (a1, .inl (cy 0, 2, .inl zI)), (a2, .inl (cy 0, 2, .inl zI)), (a3, .inl (cy 0, 16, .inl zI)), (a4, .inl (cy 0, 2, .inl zI)), (a5, .inl (cy 0, 2, .inl zI))] sz 0 0 (fun (r : Int32) (_ : Unit) => (r = (-1) ∧ (((p1.toInt < 0 ∨ 14 < p1.toInt)))) ∨ (r = 0 ∧ (((p1 = 0)) ∨ ((p1 = 1)) ∨ ((p1 = 2)) ∨ ((p1 = 3)) ∨ ((p1 = 4)) ∨ ((p1 = 5)) ∨ ((p1 = 6)) ∨ ((p1 = 12)) ∨ ((p1 = 13)))) ∨ (r = x0_45 ∧ (((p1 = 7)))) ∨ (r = x0_46 ∧ (((p1 = 8)))) ∨ (r = x0_58 ∧ (((p1 = 9)))) ∨ (r = x0_59 ∧ (((p1 = 10)))) ∨ (r = x0_2 ∧ (((p1 = 11)))) ∨ (r = x0_48 ∧ (((p1 = 14))))) (fun _ => []) := by
  refine CtI.of (cc := cX9_about) (maxL := 2) (ty := .int) (own := RX9) (by decide) rfl (Nat.le_of_ble_eq_true rfl) rfl ?_
  intro p e s m below meth c A ls hx hb hr hml hts hown hlk hK hP hD hS hA hl
  have hl : lv_has ls 2 [(0, .ref a0), (1, .int p1)] := hl
  refine st0 (fun H locs hP hS => ?_) hP hS
  have hP : va_P D vwCl [(a0, .inr (9, [v0_0, v0_1, .int x0_2, v0_3, v0_4, v0_5, v0_6, v0_7, v0_8, v0_9, v0_10, .ref a1, .ref a2, .ref a4, .ref a5, v0_15, v0_16, v0_17, v0_18, v0_19, v0_20, v0_21, v0_22, v0_23, v0_24, v0_25, v0_26, v0_27, v0_28, .int 0, v0_30, v0_31, v0_32, v0_33, v0_34, v0_35, v0_36, .ref a3, v0_38, v0_39, v0_40, v0_41, v0_42, v0_43, v0_44, .int x0_45, .int x0_46, v0_47, .int x0_48, v0_49, v0_50, v0_51, v0_52, v0_53, v0_54, v0_55, v0_56, v0_57, .int x0_58, .int x0_59, v0_60, v0_61, v0_62, v0_63])), (a1, .inl (cy 0, 2, .inl zI)), (a2, .inl (cy 0, 2, .inl zI)), (a3, .inl (cy 0, 16, .inl zI)), (a4, .inl (cy 0, 2, .inl zI)), (a5, .inl (cy 0, 2, .inl zI))] H := hP
  have hD : va_D A [(a0, .inr (9, [v0_0, v0_1, .int x0_2, v0_3, v0_4, v0_5, v0_6, v0_7, v0_8, v0_9, v0_10, .ref a1, .ref a2, .ref a4, .ref a5, v0_15, v0_16, v0_17, v0_18, v0_19, v0_20, v0_21, v0_22, v0_23, v0_24, v0_25, v0_26, v0_27, v0_28, .int 0, v0_30, v0_31, v0_32, v0_33, v0_34, v0_35, v0_36, .ref a3, v0_38, v0_39, v0_40, v0_41, v0_42, v0_43, v0_44, .int x0_45, .int x0_46, v0_47, .int x0_48, v0_49, v0_50, v0_51, v0_52, v0_53, v0_54, v0_55, v0_56, v0_57, .int x0_58, .int x0_59, v0_60, v0_61, v0_62, v0_63])), (a1, .inl (cy 0, 2, .inl zI)), (a2, .inl (cy 0, 2, .inl zI)), (a3, .inl (cy 0, 16, .inl zI)), (a4, .inl (cy 0, 2, .inl zI)), (a5, .inl (cy 0, 2, .inl zI))] := hD
  refine lv_iload_n hx hb dX9_about_0 rfl (lv_at hl 1 rfl) ?_
  rcases sw_0_14 p1 with c1 | rfl | rfl | rfl | rfl | rfl | rfl | rfl | rfl | rfl | rfl | rfl | rfl | rfl | rfl | rfl
  · refine lv_tableOut (tgt := 171) hx hb dX9_about_1 c1 (by decide) ?_
    refine lv_iconst (v := (-1)) hx hb dX9_about_171 (by decide) ?_
    exact rtI hx hb hr hlk rfl hP hD hS () [] rfl rfl (Or.inl ⟨rfl, c1⟩) dX9_about_172
  · refine lv_tableIn (off := 75) (tgt := 76) hx hb dX9_about_1 (by decide) (by decide) (by decide) (by decide) ?_
    refine lv_aload_n hx hb dX9_about_76 rfl (lv_at hl 0 rfl) ?_
    refine clVI (As := []) (rest := []) (wr := [(a2, .inl (cy 0, 2, .inl zI)), (a3, .inl (cy 0, 16, .inl zI)), (a4, .inl (cy 0, 2, .inl zI)), (a5, .inl (cy 0, 2, .inl zI))]) ⟨hx, hb, hml, hown, hts⟩ hK hP hD hS hA (k_X9_many_0 l D cy a0 a1 (v0_0) (v0_1) (.int x0_2) (v0_3) (v0_4) (v0_5) (v0_6) (v0_7) (v0_8) (v0_9) (v0_10) (.ref a2) (.ref a4) (.ref a5) (v0_15) (v0_16) (v0_17) (v0_18) (v0_19) (v0_20) (v0_21) (v0_22) (v0_23) (v0_24) (v0_25) (v0_26) (v0_27) (v0_28) (v0_30) (v0_31) (v0_32) (v0_33) (v0_34) (v0_35) (v0_36) (.ref a3) (v0_38) (v0_39) (v0_40) (v0_41) (v0_42) (v0_43) (v0_44) (.int x0_45) (.int x0_46) (v0_47) (.int x0_48) (v0_49) (v0_50) (v0_51) (v0_52) (v0_53) (v0_54) (v0_55) (v0_56) (v0_57) (.int x0_58) (.int x0_59) (v0_60) (v0_61) (v0_62) (v0_63) _) (cwV 0 hts gX9_about_X9_many rfl rfl rfl (by decide +kernel) ⟨Nat.le_of_ble_eq_true rfl, Nat.le_of_ble_eq_true rfl⟩) 0 9 rfl rfl [0, 1] [2, 3, 4, 5] rfl rfl rfl rfl (by decide) rfl hl.1 rfl (Nat.le_of_ble_eq_true rfl) dX9_about_77 ⟨Nat.le_of_ble_eq_true rfl, Nat.le_of_ble_eq_true rfl⟩ rfl rfl (fun r _ H locs hw hP hD hS => ?_)
    have hP : va_P D vwCl [(a2, .inl (cy 0, 2, .inl zI)), (a3, .inl (cy 0, 16, .inl zI)), (a4, .inl (cy 0, 2, .inl zI)), (a5, .inl (cy 0, 2, .inl zI)), (a0, .inr (9, [v0_0, v0_1, .int x0_2, v0_3, v0_4, v0_5, v0_6, v0_7, v0_8, v0_9, v0_10, .ref a1, .ref a2, .ref a4, .ref a5, v0_15, v0_16, v0_17, v0_18, v0_19, v0_20, v0_21, v0_22, v0_23, v0_24, v0_25, v0_26, v0_27, v0_28, .int 0, v0_30, v0_31, v0_32, v0_33, v0_34, v0_35, v0_36, .ref a3, v0_38, v0_39, v0_40, v0_41, v0_42, v0_43, v0_44, .int x0_45, .int x0_46, v0_47, .int x0_48, v0_49, v0_50, v0_51, v0_52, v0_53, v0_54, v0_55, v0_56, v0_57, .int x0_58, .int x0_59, v0_60, v0_61, v0_62, v0_63])), (a1, .inl (cy 0, 2, .inl zI))] H := hP
    have hD : va_D A [(a2, .inl (cy 0, 2, .inl zI)), (a3, .inl (cy 0, 16, .inl zI)), (a4, .inl (cy 0, 2, .inl zI)), (a5, .inl (cy 0, 2, .inl zI)), (a0, .inr (9, [v0_0, v0_1, .int x0_2, v0_3, v0_4, v0_5, v0_6, v0_7, v0_8, v0_9, v0_10, .ref a1, .ref a2, .ref a4, .ref a5, v0_15, v0_16, v0_17, v0_18, v0_19, v0_20, v0_21, v0_22, v0_23, v0_24, v0_25, v0_26, v0_27, v0_28, .int 0, v0_30, v0_31, v0_32, v0_33, v0_34, v0_35, v0_36, .ref a3, v0_38, v0_39, v0_40, v0_41, v0_42, v0_43, v0_44, .int x0_45, .int x0_46, v0_47, .int x0_48, v0_49, v0_50, v0_51, v0_52, v0_53, v0_54, v0_55, v0_56, v0_57, .int x0_58, .int x0_59, v0_60, v0_61, v0_62, v0_63])), (a1, .inl (cy 0, 2, .inl zI))] := hD
    obtain rfl : r = 0 := hw
    exact rtI hx hb hr hlk rfl hP hD hS () [] rfl rfl (Or.inr (Or.inl ⟨rfl, (Or.inl rfl)⟩)) dX9_about_80
  · refine lv_tableIn (off := 80) (tgt := 81) hx hb dX9_about_1 (by decide) (by decide) (by decide) (by decide) ?_
    refine lv_aload_n hx hb dX9_about_81 rfl (lv_at hl 0 rfl) ?_
    refine clVI (As := []) (rest := []) (wr := [(a1, .inl (cy 0, 2, .inl zI)), (a3, .inl (cy 0, 16, .inl zI)), (a4, .inl (cy 0, 2, .inl zI)), (a5, .inl (cy 0, 2, .inl zI))]) ⟨hx, hb, hml, hown, hts⟩ hK hP hD hS hA (k_X9_threads_1 l D cy a0 a2 (v0_0) (v0_1) (.int x0_2) (v0_3) (v0_4) (v0_5) (v0_6) (v0_7) (v0_8) (v0_9) (v0_10) (.ref a1) (.ref a4) (.ref a5) (v0_15) (v0_16) (v0_17) (v0_18) (v0_19) (v0_20) (v0_21) (v0_22) (v0_23) (v0_24) (v0_25) (v0_26) (v0_27) (v0_28) (v0_30) (v0_31) (v0_32) (v0_33) (v0_34) (v0_35) (v0_36) (.ref a3) (v0_38) (v0_39) (v0_40) (v0_41) (v0_42) (v0_43) (v0_44) (.int x0_45) (.int x0_46) (v0_47) (.int x0_48) (v0_49) (v0_50) (v0_51) (v0_52) (v0_53) (v0_54) (v0_55) (v0_56) (v0_57) (.int x0_58) (.int x0_59) (v0_60) (v0_61) (v0_62) (v0_63) _) (cwV 0 hts gX9_about_X9_threads rfl rfl rfl (by decide +kernel) ⟨Nat.le_of_ble_eq_true rfl, Nat.le_of_ble_eq_true rfl⟩) 0 9 rfl rfl [0, 2] [1, 3, 4, 5] rfl rfl rfl rfl (by decide) rfl hl.1 rfl (Nat.le_of_ble_eq_true rfl) dX9_about_82 ⟨Nat.le_of_ble_eq_true rfl, Nat.le_of_ble_eq_true rfl⟩ rfl rfl (fun r _ H locs hw hP hD hS => ?_)
    have hP : va_P D vwCl [(a1, .inl (cy 0, 2, .inl zI)), (a3, .inl (cy 0, 16, .inl zI)), (a4, .inl (cy 0, 2, .inl zI)), (a5, .inl (cy 0, 2, .inl zI)), (a0, .inr (9, [v0_0, v0_1, .int x0_2, v0_3, v0_4, v0_5, v0_6, v0_7, v0_8, v0_9, v0_10, .ref a1, .ref a2, .ref a4, .ref a5, v0_15, v0_16, v0_17, v0_18, v0_19, v0_20, v0_21, v0_22, v0_23, v0_24, v0_25, v0_26, v0_27, v0_28, .int 0, v0_30, v0_31, v0_32, v0_33, v0_34, v0_35, v0_36, .ref a3, v0_38, v0_39, v0_40, v0_41, v0_42, v0_43, v0_44, .int x0_45, .int x0_46, v0_47, .int x0_48, v0_49, v0_50, v0_51, v0_52, v0_53, v0_54, v0_55, v0_56, v0_57, .int x0_58, .int x0_59, v0_60, v0_61, v0_62, v0_63])), (a2, .inl (cy 0, 2, .inl zI))] H := hP
    have hD : va_D A [(a1, .inl (cy 0, 2, .inl zI)), (a3, .inl (cy 0, 16, .inl zI)), (a4, .inl (cy 0, 2, .inl zI)), (a5, .inl (cy 0, 2, .inl zI)), (a0, .inr (9, [v0_0, v0_1, .int x0_2, v0_3, v0_4, v0_5, v0_6, v0_7, v0_8, v0_9, v0_10, .ref a1, .ref a2, .ref a4, .ref a5, v0_15, v0_16, v0_17, v0_18, v0_19, v0_20, v0_21, v0_22, v0_23, v0_24, v0_25, v0_26, v0_27, v0_28, .int 0, v0_30, v0_31, v0_32, v0_33, v0_34, v0_35, v0_36, .ref a3, v0_38, v0_39, v0_40, v0_41, v0_42, v0_43, v0_44, .int x0_45, .int x0_46, v0_47, .int x0_48, v0_49, v0_50, v0_51, v0_52, v0_53, v0_54, v0_55, v0_56, v0_57, .int x0_58, .int x0_59, v0_60, v0_61, v0_62, v0_63])), (a2, .inl (cy 0, 2, .inl zI))] := hD
    obtain rfl : r = 0 := hw
    exact rtI hx hb hr hlk rfl hP hD hS () [] rfl rfl (Or.inr (Or.inl ⟨rfl, (Or.inr (Or.inl rfl))⟩)) dX9_about_85
  · refine lv_tableIn (off := 85) (tgt := 86) hx hb dX9_about_1 (by decide) (by decide) (by decide) (by decide) ?_
    refine lv_aload_n hx hb dX9_about_86 rfl (lv_at hl 0 rfl) ?_
    refine clVI (As := []) (rest := []) (wr := [(a2, .inl (cy 0, 2, .inl zI)), (a3, .inl (cy 0, 16, .inl zI)), (a4, .inl (cy 0, 2, .inl zI)), (a5, .inl (cy 0, 2, .inl zI))]) ⟨hx, hb, hml, hown, hts⟩ hK hP hD hS hA (k_X9_facts_0 l D cy a0 a1 (v0_0) (v0_1) (.int x0_2) (v0_3) (v0_4) (v0_5) (v0_6) (v0_7) (v0_8) (v0_9) (v0_10) (.ref a2) (.ref a4) (.ref a5) (v0_15) (v0_16) (v0_17) (v0_18) (v0_19) (v0_20) (v0_21) (v0_22) (v0_23) (v0_24) (v0_25) (v0_26) (v0_27) (v0_28) (v0_30) (v0_31) (v0_32) (v0_33) (v0_34) (v0_35) (v0_36) (.ref a3) (v0_38) (v0_39) (v0_40) (v0_41) (v0_42) (v0_43) (v0_44) (.int x0_45) (.int x0_46) (v0_47) (.int x0_48) (v0_49) (v0_50) (v0_51) (v0_52) (v0_53) (v0_54) (v0_55) (v0_56) (v0_57) (.int x0_58) (.int x0_59) (v0_60) (v0_61) (v0_62) (v0_63) _) (cwV 0 hts gX9_about_X9_facts rfl rfl rfl (by decide +kernel) ⟨Nat.le_of_ble_eq_true rfl, Nat.le_of_ble_eq_true rfl⟩) 0 9 rfl rfl [0, 1] [2, 3, 4, 5] rfl rfl rfl rfl (by decide) rfl hl.1 rfl (Nat.le_of_ble_eq_true rfl) dX9_about_87 ⟨Nat.le_of_ble_eq_true rfl, Nat.le_of_ble_eq_true rfl⟩ rfl rfl (fun r _ H locs hw hP hD hS => ?_)
    have hP : va_P D vwCl [(a2, .inl (cy 0, 2, .inl zI)), (a3, .inl (cy 0, 16, .inl zI)), (a4, .inl (cy 0, 2, .inl zI)), (a5, .inl (cy 0, 2, .inl zI)), (a0, .inr (9, [v0_0, v0_1, .int x0_2, v0_3, v0_4, v0_5, v0_6, v0_7, v0_8, v0_9, v0_10, .ref a1, .ref a2, .ref a4, .ref a5, v0_15, v0_16, v0_17, v0_18, v0_19, v0_20, v0_21, v0_22, v0_23, v0_24, v0_25, v0_26, v0_27, v0_28, .int 0, v0_30, v0_31, v0_32, v0_33, v0_34, v0_35, v0_36, .ref a3, v0_38, v0_39, v0_40, v0_41, v0_42, v0_43, v0_44, .int x0_45, .int x0_46, v0_47, .int x0_48, v0_49, v0_50, v0_51, v0_52, v0_53, v0_54, v0_55, v0_56, v0_57, .int x0_58, .int x0_59, v0_60, v0_61, v0_62, v0_63])), (a1, .inl (cy 0, 2, .inl zI))] H := hP
    have hD : va_D A [(a2, .inl (cy 0, 2, .inl zI)), (a3, .inl (cy 0, 16, .inl zI)), (a4, .inl (cy 0, 2, .inl zI)), (a5, .inl (cy 0, 2, .inl zI)), (a0, .inr (9, [v0_0, v0_1, .int x0_2, v0_3, v0_4, v0_5, v0_6, v0_7, v0_8, v0_9, v0_10, .ref a1, .ref a2, .ref a4, .ref a5, v0_15, v0_16, v0_17, v0_18, v0_19, v0_20, v0_21, v0_22, v0_23, v0_24, v0_25, v0_26, v0_27, v0_28, .int 0, v0_30, v0_31, v0_32, v0_33, v0_34, v0_35, v0_36, .ref a3, v0_38, v0_39, v0_40, v0_41, v0_42, v0_43, v0_44, .int x0_45, .int x0_46, v0_47, .int x0_48, v0_49, v0_50, v0_51, v0_52, v0_53, v0_54, v0_55, v0_56, v0_57, .int x0_58, .int x0_59, v0_60, v0_61, v0_62, v0_63])), (a1, .inl (cy 0, 2, .inl zI))] := hD
    obtain rfl : r = 0 := hw
    exact rtI hx hb hr hlk rfl hP hD hS () [] rfl rfl (Or.inr (Or.inl ⟨rfl, (Or.inr (Or.inr (Or.inl rfl)))⟩)) dX9_about_90
  · refine lv_tableIn (off := 90) (tgt := 91) hx hb dX9_about_1 (by decide) (by decide) (by decide) (by decide) ?_
    refine lv_aload_n hx hb dX9_about_91 rfl (lv_at hl 0 rfl) ?_
    refine va_get (D := D) (cl := vwCl) (ci := 9) (v := .ref a3) (C := RX9) (T := TX9) (N := 64) hx hb hts in_X9_about_X9 hown hK hP 0 rfl rfl 37 (by decide) (hts (.fieldLink RX9 76 "EightReasonsModel" "all" "[I") (List.mem_of_getElem? (i := 1) (by decide +kernel))) (fun _ h9 => h9) rfl dX9_about_92 ?_
    refine lv_iconst (v := 0) hx hb dX9_about_95 (by decide) ?_
    refine va_iald hx hb hK hP 3 0 rfl rfl (vin (by decide)) dX9_about_96 (tpi (v := 0) rfl ?_)
    exact rtI hx hb hr hlk rfl hP hD hS () [] rfl rfl (Or.inr (Or.inl ⟨rfl, (Or.inr (Or.inr (Or.inr (Or.inl rfl))))⟩)) dX9_about_97
  · refine lv_tableIn (off := 97) (tgt := 98) hx hb dX9_about_1 (by decide) (by decide) (by decide) (by decide) ?_
    refine lv_aload_n hx hb dX9_about_98 rfl (lv_at hl 0 rfl) ?_
    refine va_get (D := D) (cl := vwCl) (ci := 9) (v := .ref a3) (C := RX9) (T := TX9) (N := 64) hx hb hts in_X9_about_X9 hown hK hP 0 rfl rfl 37 (by decide) (hts (.fieldLink RX9 76 "EightReasonsModel" "all" "[I") (List.mem_of_getElem? (i := 1) (by decide +kernel))) (fun _ h9 => h9) rfl dX9_about_99 ?_
    refine lv_iconst (v := 1) hx hb dX9_about_102 (by decide) ?_
    refine va_iald hx hb hK hP 3 0 rfl rfl (vin (by decide)) dX9_about_103 (tpi (v := 0) rfl ?_)
    exact rtI hx hb hr hlk rfl hP hD hS () [] rfl rfl (Or.inr (Or.inl ⟨rfl, (Or.inr (Or.inr (Or.inr (Or.inr (Or.inl rfl)))))⟩)) dX9_about_104
  · refine lv_tableIn (off := 104) (tgt := 105) hx hb dX9_about_1 (by decide) (by decide) (by decide) (by decide) ?_
    refine lv_aload_n hx hb dX9_about_105 rfl (lv_at hl 0 rfl) ?_
    refine va_get (D := D) (cl := vwCl) (ci := 9) (v := .ref a3) (C := RX9) (T := TX9) (N := 64) hx hb hts in_X9_about_X9 hown hK hP 0 rfl rfl 37 (by decide) (hts (.fieldLink RX9 76 "EightReasonsModel" "all" "[I") (List.mem_of_getElem? (i := 1) (by decide +kernel))) (fun _ h9 => h9) rfl dX9_about_106 ?_
    refine lv_bipush (v := 14) hx hb dX9_about_109 (by decide) ?_
    refine va_iald hx hb hK hP 3 0 rfl rfl (vin (by decide)) dX9_about_111 (tpi (v := 0) rfl ?_)
    exact rtI hx hb hr hlk rfl hP hD hS () [] rfl rfl (Or.inr (Or.inl ⟨rfl, (Or.inr (Or.inr (Or.inr (Or.inr (Or.inr (Or.inl rfl))))))⟩)) dX9_about_112
  · refine lv_tableIn (off := 112) (tgt := 113) hx hb dX9_about_1 (by decide) (by decide) (by decide) (by decide) ?_
    refine lv_aload_n hx hb dX9_about_113 rfl (lv_at hl 0 rfl) ?_
    refine va_get (D := D) (cl := vwCl) (ci := 9) (v := .ref a3) (C := RX9) (T := TX9) (N := 64) hx hb hts in_X9_about_X9 hown hK hP 0 rfl rfl 37 (by decide) (hts (.fieldLink RX9 76 "EightReasonsModel" "all" "[I") (List.mem_of_getElem? (i := 1) (by decide +kernel))) (fun _ h9 => h9) rfl dX9_about_114 ?_
    refine lv_bipush (v := 15) hx hb dX9_about_117 (by decide) ?_
    refine va_iald hx hb hK hP 3 0 rfl rfl (vin (by decide)) dX9_about_119 (tpi (v := 0) rfl ?_)
    exact rtI hx hb hr hlk rfl hP hD hS () [] rfl rfl (Or.inr (Or.inl ⟨rfl, (Or.inr (Or.inr (Or.inr (Or.inr (Or.inr (Or.inr (Or.inl rfl)))))))⟩)) dX9_about_120
  · refine lv_tableIn (off := 120) (tgt := 121) hx hb dX9_about_1 (by decide) (by decide) (by decide) (by decide) ?_
    refine lv_aload_n hx hb dX9_about_121 rfl (lv_at hl 0 rfl) ?_
    refine va_get (D := D) (cl := vwCl) (ci := 9) (v := .int x0_45) (C := RX9) (T := TX9) (N := 64) hx hb hts in_X9_about_X9 hown hK hP 0 rfl rfl 45 (by decide) (hts (.fieldLink RX9 368 "EightReasonsModel" "acts" "I") (List.mem_of_getElem? (i := 2) (by decide +kernel))) (fun _ h9 => h9) rfl dX9_about_122 ?_
    exact rtI hx hb hr hlk rfl hP hD hS () [] rfl rfl (Or.inr (Or.inr (Or.inl ⟨rfl, rfl⟩))) dX9_about_125
  · refine lv_tableIn (off := 125) (tgt := 126) hx hb dX9_about_1 (by decide) (by decide) (by decide) (by decide) ?_
    refine lv_aload_n hx hb dX9_about_126 rfl (lv_at hl 0 rfl) ?_
    refine va_get (D := D) (cl := vwCl) (ci := 9) (v := .int x0_46) (C := RX9) (T := TX9) (N := 64) hx hb hts in_X9_about_X9 hown hK hP 0 rfl rfl 46 (by decide) (hts (.fieldLink RX9 371 "EightReasonsModel" "undone" "I") (List.mem_of_getElem? (i := 3) (by decide +kernel))) (fun _ h9 => h9) rfl dX9_about_127 ?_
    exact rtI hx hb hr hlk rfl hP hD hS () [] rfl rfl (Or.inr (Or.inr (Or.inr (Or.inl ⟨rfl, rfl⟩)))) dX9_about_130
  · refine lv_tableIn (off := 130) (tgt := 131) hx hb dX9_about_1 (by decide) (by decide) (by decide) (by decide) ?_
    refine lv_aload_n hx hb dX9_about_131 rfl (lv_at hl 0 rfl) ?_
    refine va_get (D := D) (cl := vwCl) (ci := 9) (v := .int x0_58) (C := RX9) (T := TX9) (N := 64) hx hb hts in_X9_about_X9 hown hK hP 0 rfl rfl 58 (by decide) (hts (.fieldLink RX9 374 "EightReasonsModel" "seens" "I") (List.mem_of_getElem? (i := 4) (by decide +kernel))) (fun _ h9 => h9) rfl dX9_about_132 ?_
    exact rtI hx hb hr hlk rfl hP hD hS () [] rfl rfl (Or.inr (Or.inr (Or.inr (Or.inr (Or.inl ⟨rfl, rfl⟩))))) dX9_about_135
  · refine lv_tableIn (off := 135) (tgt := 136) hx hb dX9_about_1 (by decide) (by decide) (by decide) (by decide) ?_
    refine lv_aload_n hx hb dX9_about_136 rfl (lv_at hl 0 rfl) ?_
    refine va_get (D := D) (cl := vwCl) (ci := 9) (v := .int x0_59) (C := RX9) (T := TX9) (N := 64) hx hb hts in_X9_about_X9 hown hK hP 0 rfl rfl 59 (by decide) (hts (.fieldLink RX9 488 "EightReasonsModel" "time" "I") (List.mem_of_getElem? (i := 5) (by decide +kernel))) (fun _ h9 => h9) rfl dX9_about_137 ?_
    exact rtI hx hb hr hlk rfl hP hD hS () [] rfl rfl (Or.inr (Or.inr (Or.inr (Or.inr (Or.inr (Or.inl ⟨rfl, rfl⟩)))))) dX9_about_140
  · refine lv_tableIn (off := 140) (tgt := 141) hx hb dX9_about_1 (by decide) (by decide) (by decide) (by decide) ?_
    refine lv_aload_n hx hb dX9_about_141 rfl (lv_at hl 0 rfl) ?_
    refine va_get (D := D) (cl := vwCl) (ci := 9) (v := .int x0_2) (C := RX9) (T := TX9) (N := 64) hx hb hts in_X9_about_X9 hown hK hP 0 rfl rfl 2 (by decide) (hts (.fieldLink RX9 236 "EightReasonsModel" "taped" "I") (List.mem_of_getElem? (i := 6) (by decide +kernel))) (fun _ h9 => h9) rfl dX9_about_142 ?_
    exact rtI hx hb hr hlk rfl hP hD hS () [] rfl rfl (Or.inr (Or.inr (Or.inr (Or.inr (Or.inr (Or.inr (Or.inl ⟨rfl, rfl⟩))))))) dX9_about_145
  · refine lv_tableIn (off := 145) (tgt := 146) hx hb dX9_about_1 (by decide) (by decide) (by decide) (by decide) ?_
    refine lv_aload_n hx hb dX9_about_146 rfl (lv_at hl 0 rfl) ?_
    refine va_get (D := D) (cl := vwCl) (ci := 9) (v := .ref a4) (C := RX9) (T := TX9) (N := 64) hx hb hts in_X9_about_X9 hown hK hP 0 rfl rfl 13 (by decide) (hts (.fieldLink RX9 27 "EightReasonsModel" "units" "[I") (List.mem_of_getElem? (i := 7) (by decide +kernel))) (fun _ h9 => h9) rfl dX9_about_147 ?_
    refine lv_aload_n hx hb dX9_about_150 rfl (lv_at hl 0 rfl) ?_
    refine va_get (D := D) (cl := vwCl) (ci := 9) (v := .int 0) (C := RX9) (T := TX9) (N := 64) hx hb hts in_X9_about_X9 hown hK hP 0 rfl rfl 29 (by decide) (hts (.fieldLink RX9 239 "EightReasonsModel" "bank" "I") (List.mem_of_getElem? (i := 8) (by decide +kernel))) (fun _ h9 => h9) rfl dX9_about_151 ?_
    refine va_iald hx hb hK hP 4 0 rfl rfl (vin (by decide)) dX9_about_154 (tpi (v := 0) rfl ?_)
    exact rtI hx hb hr hlk rfl hP hD hS () [] rfl rfl (Or.inr (Or.inl ⟨rfl, (Or.inr (Or.inr (Or.inr (Or.inr (Or.inr (Or.inr (Or.inr (Or.inl rfl))))))))⟩)) dX9_about_155
  · refine lv_tableIn (off := 155) (tgt := 156) hx hb dX9_about_1 (by decide) (by decide) (by decide) (by decide) ?_
    refine lv_aload_n hx hb dX9_about_156 rfl (lv_at hl 0 rfl) ?_
    refine va_get (D := D) (cl := vwCl) (ci := 9) (v := .ref a5) (C := RX9) (T := TX9) (N := 64) hx hb hts in_X9_about_X9 hown hK hP 0 rfl rfl 14 (by decide) (hts (.fieldLink RX9 30 "EightReasonsModel" "fray" "[I") (List.mem_of_getElem? (i := 9) (by decide +kernel))) (fun _ h9 => h9) rfl dX9_about_157 ?_
    refine lv_aload_n hx hb dX9_about_160 rfl (lv_at hl 0 rfl) ?_
    refine va_get (D := D) (cl := vwCl) (ci := 9) (v := .int 0) (C := RX9) (T := TX9) (N := 64) hx hb hts in_X9_about_X9 hown hK hP 0 rfl rfl 29 (by decide) (hts (.fieldLink RX9 239 "EightReasonsModel" "bank" "I") (List.mem_of_getElem? (i := 8) (by decide +kernel))) (fun _ h9 => h9) rfl dX9_about_161 ?_
    refine va_iald hx hb hK hP 5 0 rfl rfl (vin (by decide)) dX9_about_164 (tpi (v := 0) rfl ?_)
    exact rtI hx hb hr hlk rfl hP hD hS () [] rfl rfl (Or.inr (Or.inl ⟨rfl, (Or.inr (Or.inr (Or.inr (Or.inr (Or.inr (Or.inr (Or.inr (Or.inr rfl))))))))⟩)) dX9_about_165
  · refine lv_tableIn (off := 165) (tgt := 166) hx hb dX9_about_1 (by decide) (by decide) (by decide) (by decide) ?_
    refine lv_aload_n hx hb dX9_about_166 rfl (lv_at hl 0 rfl) ?_
    refine va_get (D := D) (cl := vwCl) (ci := 9) (v := .int x0_48) (C := RX9) (T := TX9) (N := 64) hx hb hts in_X9_about_X9 hown hK hP 0 rfl rfl 48 (by decide) (hts (.fieldLink RX9 377 "EightReasonsModel" "laid" "I") (List.mem_of_getElem? (i := 10) (by decide +kernel))) (fun _ h9 => h9) rfl dX9_about_167 ?_
    exact rtI hx hb hr hlk rfl hP hD hS () [] rfl rfl (Or.inr (Or.inr (Or.inr (Or.inr (Or.inr (Or.inr (Or.inr ⟨rfl, rfl⟩))))))) dX9_about_170
