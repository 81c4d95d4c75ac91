set_option maxHeartbeats 4000000 in
set_option maxRecDepth 100000 in
theorem k_X9_shock_0 (l : Launch) (D : va_G) (cy : Nat → ClassId) (a0 a1 a2 a3 a4 : Nat) (v0_0 : Value) (v0_1 : Value) (v0_2 : Value) (v0_3 : Value) (v0_4 : Value) (v0_5 : Value) (v0_6 : Value) (v0_7 : Value) (v0_8 : Value) (v0_9 : Value) (v0_10 : Value) (v0_13 : Value) (v0_14 : Value) (v0_15 : Value) (v0_16 : Value) (v0_17 : Value) (v0_18 : Value) (v0_19 : Value) (v0_20 : Value) (v0_21 : Value) (v0_22 : Value) (v0_23 : Value) (v0_24 : Value) (v0_25 : Value) (v0_26 : Value) (v0_27 : Value) (v0_28 : Value) (v0_30 : Value) (v0_31 : Value) (v0_32 : Value) (v0_33 : Value) (v0_34 : Value) (v0_35 : Value) (v0_36 : Value) (v0_39 : Value) (v0_40 : Value) (v0_41 : Value) (v0_42 : Value) (v0_43 : Value) (v0_44 : Value) (v0_45 : Value) (v0_46 : Value) (v0_47 : Value) (v0_48 : Value) (v0_49 : Value) (v0_50 : Value) (v0_51 : Value) (v0_52 : Value) (v0_53 : Value) (v0_54 : Value) (v0_55 : Value) (v0_56 : Value) (v0_57 : Value) (v0_58 : Value) (v0_59 : Value) (v0_60 : Value) (v0_61 : Value) (v0_62 : Value) (v0_63 : Value) (p1 : Int32) (sz : Nat) : CtI l yX9_shock wsX9_shock 5 109 [.ref a0, .int p1] D cy [(a0, .inr (9, [v0_0, v0_1, v0_2, v0_3, v0_4, v0_5, v0_6, v0_7, v0_8, v0_9, v0_10, .ref a4, .ref a3, v0_13, v0_14, v0_15, v0_16, v0_17, v0_18, v0_19, v0_20, v0_21, v0_22, v0_23, v0_24, v0_25, v0_26, v0_27, v0_28, .int 0, v0_30, v0_31, v0_32, v0_33, v0_34, v0_35, v0_36, .ref a1, .ref a2, v0_39, v0_40, v0_41, v0_42, v0_43, v0_44, v0_45, v0_46, v0_47, v0_48, v0_49, v0_50, v0_51, v0_52, v0_53, v0_54, v0_55, v0_56, v0_57, v0_58, v0_59, v0_60, v0_61, v0_62, v0_63])), (a1, .inl (cy 0, 16, .inl zI)), (a2, .inl (cy 0, 16, .inl zI)), (a3, .inl (cy 0, 2, .inl zI)), (a4, .inl (cy 0, 2, .inl zI))] sz 0 0 (fun (r : Int32) (_ : Unit) => (r = (-1) ∧ ((((((p1 < 0)) ∨ ((¬ p1 < 0) ∧ (20 < p1))))))) ∨ (r = 0 ∧ ((((((¬ p1 < 0) ∧ (¬ 20 < p1)))))))) (fun _ => []) := by
  refine CtI.of (cc := cX9_shock) (maxL := 3) (ty := .int) (own := RX9) (by decide) rfl (Nat.le_of_ble_eq_true rfl) rfl ?_
  intro p e s m below meth c A ls hx hb hr hml hts hown hlk hK hP hD hS hA hl
  have hl : lv_has ls 3 [(0, .ref a0), (1, .int p1)] := hl
  refine st0 (fun H locs hP hS => ?_) hP hS
  have hP : va_P D vwCl [(a0, .inr (9, [v0_0, v0_1, v0_2, v0_3, v0_4, v0_5, v0_6, v0_7, v0_8, v0_9, v0_10, .ref a4, .ref a3, v0_13, v0_14, v0_15, v0_16, v0_17, v0_18, v0_19, v0_20, v0_21, v0_22, v0_23, v0_24, v0_25, v0_26, v0_27, v0_28, .int 0, v0_30, v0_31, v0_32, v0_33, v0_34, v0_35, v0_36, .ref a1, .ref a2, v0_39, v0_40, v0_41, v0_42, v0_43, v0_44, v0_45, v0_46, v0_47, v0_48, v0_49, v0_50, v0_51, v0_52, v0_53, v0_54, v0_55, v0_56, v0_57, v0_58, v0_59, v0_60, v0_61, v0_62, v0_63])), (a1, .inl (cy 0, 16, .inl zI)), (a2, .inl (cy 0, 16, .inl zI)), (a3, .inl (cy 0, 2, .inl zI)), (a4, .inl (cy 0, 2, .inl zI))] H := hP
  have hD : va_D A [(a0, .inr (9, [v0_0, v0_1, v0_2, v0_3, v0_4, v0_5, v0_6, v0_7, v0_8, v0_9, v0_10, .ref a4, .ref a3, v0_13, v0_14, v0_15, v0_16, v0_17, v0_18, v0_19, v0_20, v0_21, v0_22, v0_23, v0_24, v0_25, v0_26, v0_27, v0_28, .int 0, v0_30, v0_31, v0_32, v0_33, v0_34, v0_35, v0_36, .ref a1, .ref a2, v0_39, v0_40, v0_41, v0_42, v0_43, v0_44, v0_45, v0_46, v0_47, v0_48, v0_49, v0_50, v0_51, v0_52, v0_53, v0_54, v0_55, v0_56, v0_57, v0_58, v0_59, v0_60, v0_61, v0_62, v0_63])), (a1, .inl (cy 0, 16, .inl zI)), (a2, .inl (cy 0, 16, .inl zI)), (a3, .inl (cy 0, 2, .inl zI)), (a4, .inl (cy 0, 2, .inl zI))] := hD
  refine lv_iload_n hx hb dX9_shock_0 rfl (lv_at hl 1 rfl) ?_
  refine lv_iconst (v := 0) hx hb dX9_shock_1 (by decide) ?_
  refine lv_bipush (v := 20) hx hb dX9_shock_2 (by decide) ?_
  refine clSI (As := [.int p1, .int 0, .int 20]) (rest := []) (wr := [(a0, .inr (9, [v0_0, v0_1, v0_2, v0_3, v0_4, v0_5, v0_6, v0_7, v0_8, v0_9, v0_10, .ref a4, .ref a3, v0_13, v0_14, v0_15, v0_16, v0_17, v0_18, v0_19, v0_20, v0_21, v0_22, v0_23, v0_24, v0_25, v0_26, v0_27, v0_28, .int 0, v0_30, v0_31, v0_32, v0_33, v0_34, v0_35, v0_36, .ref a1, .ref a2, v0_39, v0_40, v0_41, v0_42, v0_43, v0_44, v0_45, v0_46, v0_47, v0_48, v0_49, v0_50, v0_51, v0_52, v0_53, v0_54, v0_55, v0_56, v0_57, v0_58, v0_59, v0_60, v0_61, v0_62, v0_63])), (a1, .inl (cy 0, 16, .inl zI)), (a2, .inl (cy 0, 16, .inl zI)), (a3, .inl (cy 0, 2, .inl zI)), (a4, .inl (cy 0, 2, .inl zI))]) ⟨hx, hb, hml, hown, hts⟩ hK hP hD hS hA (k_X9_isIn_5 l D cy p1 _) (va_cwS 3 hts gX9_shock_X9_isIn rfl rfl rfl (by decide +kernel) ⟨Nat.le_of_ble_eq_true rfl, Nat.le_of_ble_eq_true rfl⟩) [] [0, 1, 2, 3, 4] rfl rfl rfl rfl (by decide) rfl hl.1 rfl (Nat.le_of_ble_eq_true rfl) dX9_shock_4 ⟨Nat.le_of_ble_eq_true rfl, Nat.le_of_ble_eq_true rfl⟩ rfl rfl (fun r _ H locs hw hP hD hS => ?_)
  have hP : va_P D vwCl [(a0, .inr (9, [v0_0, v0_1, v0_2, v0_3, v0_4, v0_5, v0_6, v0_7, v0_8, v0_9, v0_10, .ref a4, .ref a3, v0_13, v0_14, v0_15, v0_16, v0_17, v0_18, v0_19, v0_20, v0_21, v0_22, v0_23, v0_24, v0_25, v0_26, v0_27, v0_28, .int 0, v0_30, v0_31, v0_32, v0_33, v0_34, v0_35, v0_36, .ref a1, .ref a2, v0_39, v0_40, v0_41, v0_42, v0_43, v0_44, v0_45, v0_46, v0_47, v0_48, v0_49, v0_50, v0_51, v0_52, v0_53, v0_54, v0_55, v0_56, v0_57, v0_58, v0_59, v0_60, v0_61, v0_62, v0_63])), (a1, .inl (cy 0, 16, .inl zI)), (a2, .inl (cy 0, 16, .inl zI)), (a3, .inl (cy 0, 2, .inl zI)), (a4, .inl (cy 0, 2, .inl zI))] H := hP
  have hD : va_D A [(a0, .inr (9, [v0_0, v0_1, v0_2, v0_3, v0_4, v0_5, v0_6, v0_7, v0_8, v0_9, v0_10, .ref a4, .ref a3, v0_13, v0_14, v0_15, v0_16, v0_17, v0_18, v0_19, v0_20, v0_21, v0_22, v0_23, v0_24, v0_25, v0_26, v0_27, v0_28, .int 0, v0_30, v0_31, v0_32, v0_33, v0_34, v0_35, v0_36, .ref a1, .ref a2, v0_39, v0_40, v0_41, v0_42, v0_43, v0_44, v0_45, v0_46, v0_47, v0_48, v0_49, v0_50, v0_51, v0_52, v0_53, v0_54, v0_55, v0_56, v0_57, v0_58, v0_59, v0_60, v0_61, v0_62, v0_63])), (a1, .inl (cy 0, 16, .inl zI)), (a2, .inl (cy 0, 16, .inl zI)), (a3, .inl (cy 0, 2, .inl zI)), (a4, .inl (cy 0, 2, .inl zI))] := hD
  rcases (show (r = 0 ∧ (((p1 < 0)) ∨ ((¬ p1 < 0) ∧ (20 < p1)))) ∨ (r = 1 ∧ (((¬ p1 < 0) ∧ (¬ 20 < p1)))) from hw) with ⟨rfl, c2⟩ | ⟨rfl, c2⟩
  · refine lv_if_ne (tgt := 12) hx hb dX9_shock_7 (by decide) (fun c => absurd (by decide) c) (fun _ => ?_)
    refine lv_iconst (v := (-1)) hx hb dX9_shock_10 (by decide) ?_
    exact rtI hx hb hr hlk rfl hP hD hS () [] rfl rfl (Or.inl ⟨rfl, c2⟩) dX9_shock_11
  · refine lv_if_ne (tgt := 12) hx hb dX9_shock_7 (by decide) (fun _ => ?_) (fun c => absurd c (by decide))
    refine lv_aload_n hx hb dX9_shock_12 rfl (lv_at hl 0 rfl) ?_
    refine clVV (As := []) (rest := []) (wr := [(a3, .inl (cy 0, 2, .inl zI)), (a4, .inl (cy 0, 2, .inl zI))]) ⟨hx, hb, hml, hown, hts⟩ hK hP hD hS hA (k_X9_keepNow_0 l D cy a0 a1 a2 (v0_0) (v0_1) (v0_2) (v0_3) (v0_4) (v0_5) (v0_6) (v0_7) (v0_8) (v0_9) (v0_10) (.ref a4) (.ref a3) (v0_13) (v0_14) (v0_15) (v0_16) (v0_17) (v0_18) (v0_19) (v0_20) (v0_21) (v0_22) (v0_23) (v0_24) (v0_25) (v0_26) (v0_27) (v0_28) (.int 0) (v0_30) (v0_31) (v0_32) (v0_33) (v0_34) (v0_35) (v0_36) (v0_39) (v0_40) (v0_41) (v0_42) (v0_43) (v0_44) (v0_45) (v0_46) (v0_47) (v0_48) (v0_49) (v0_50) (v0_51) (v0_52) (v0_53) (v0_54) (v0_55) (v0_56) (v0_57) (v0_58) (v0_59) (v0_60) (v0_61) (v0_62) (v0_63) _) (cwV 0 hts gX9_shock_X9_keepNow rfl rfl rfl (by decide +kernel) ⟨Nat.le_of_ble_eq_true rfl, Nat.le_of_ble_eq_true rfl⟩) 0 9 rfl rfl [0, 1, 2] [3, 4] rfl rfl rfl rfl (by decide) rfl hl.1 rfl (Nat.le_of_ble_eq_true rfl) dX9_shock_13 ⟨Nat.le_of_ble_eq_true rfl, Nat.le_of_ble_eq_true rfl⟩ rfl rfl (fun _ H locs _ hP hD hS => ?_)
    have hP : va_P D vwCl [(a3, .inl (cy 0, 2, .inl zI)), (a4, .inl (cy 0, 2, .inl zI)), (a0, .inr (9, [v0_0, v0_1, v0_2, v0_3, v0_4, v0_5, v0_6, v0_7, v0_8, v0_9, v0_10, .ref a4, .ref a3, v0_13, v0_14, v0_15, v0_16, v0_17, v0_18, v0_19, v0_20, v0_21, v0_22, v0_23, v0_24, v0_25, v0_26, v0_27, v0_28, .int 0, v0_30, v0_31, v0_32, v0_33, v0_34, v0_35, v0_36, .ref a1, .ref a2, v0_39, v0_40, v0_41, v0_42, v0_43, v0_44, v0_45, v0_46, v0_47, v0_48, v0_49, v0_50, v0_51, v0_52, v0_53, v0_54, v0_55, v0_56, v0_57, v0_58, v0_59, v0_60, v0_61, v0_62, v0_63])), (a1, .inl (cy 0, 16, .inl zI)), (a2, .inl (cy 0, 16, .inl zI))] H := hP
    have hD : va_D A [(a3, .inl (cy 0, 2, .inl zI)), (a4, .inl (cy 0, 2, .inl zI)), (a0, .inr (9, [v0_0, v0_1, v0_2, v0_3, v0_4, v0_5, v0_6, v0_7, v0_8, v0_9, v0_10, .ref a4, .ref a3, v0_13, v0_14, v0_15, v0_16, v0_17, v0_18, v0_19, v0_20, v0_21, v0_22, v0_23, v0_24, v0_25, v0_26, v0_27, v0_28, .int 0, v0_30, v0_31, v0_32, v0_33, v0_34, v0_35, v0_36, .ref a1, .ref a2, v0_39, v0_40, v0_41, v0_42, v0_43, v0_44, v0_45, v0_46, v0_47, v0_48, v0_49, v0_50, v0_51, v0_52, v0_53, v0_54, v0_55, v0_56, v0_57, v0_58, v0_59, v0_60, v0_61, v0_62, v0_63])), (a1, .inl (cy 0, 16, .inl zI)), (a2, .inl (cy 0, 16, .inl zI))] := hD
    refine lv_iconst (v := 0) hx hb dX9_shock_16 (by decide) ?_
    refine lv_istore_n (lv' := [(2, .int 0), (0, .ref a0), (1, .int p1)]) hx hb dX9_shock_17 rfl hl (by decide) rfl (fun ls hl => ?_)
    refine lv_iload_n hx hb dX9_shock_18 rfl (lv_at hl 0 rfl) ?_
    refine lv_aload_n hx hb dX9_shock_19 rfl (lv_at hl 1 rfl) ?_
    refine clVI (As := []) (rest := [.int 0]) (wr := [(a4, .inl (cy 0, 2, .inl zI)), (a1, .inl (cy 0, 16, .inl zI)), (a2, .inl (cy 0, 16, .inl zI))]) ⟨hx, hb, hml, hown, hts⟩ hK hP hD hS hA (k_X9_threads_1 l D cy a0 a3 (v0_0) (v0_1) (v0_2) (v0_3) (v0_4) (v0_5) (v0_6) (v0_7) (v0_8) (v0_9) (v0_10) (.ref a4) (v0_13) (v0_14) (v0_15) (v0_16) (v0_17) (v0_18) (v0_19) (v0_20) (v0_21) (v0_22) (v0_23) (v0_24) (v0_25) (v0_26) (v0_27) (v0_28) (v0_30) (v0_31) (v0_32) (v0_33) (v0_34) (v0_35) (v0_36) (.ref a1) (.ref a2) (v0_39) (v0_40) (v0_41) (v0_42) (v0_43) (v0_44) (v0_45) (v0_46) (v0_47) (v0_48) (v0_49) (v0_50) (v0_51) (v0_52) (v0_53) (v0_54) (v0_55) (v0_56) (v0_57) (v0_58) (v0_59) (v0_60) (v0_61) (v0_62) (v0_63) _) (cwV 0 hts gX9_shock_X9_threads rfl rfl rfl (by decide +kernel) ⟨Nat.le_of_ble_eq_true rfl, Nat.le_of_ble_eq_true rfl⟩) 2 9 rfl rfl [2, 0] [1, 3, 4] rfl rfl rfl rfl (by decide) rfl hl.1 rfl (Nat.le_of_ble_eq_true rfl) dX9_shock_20 ⟨Nat.le_of_ble_eq_true rfl, Nat.le_of_ble_eq_true rfl⟩ rfl rfl (fun r _ H locs hw hP hD hS => ?_)
    have hP : va_P D vwCl [(a4, .inl (cy 0, 2, .inl zI)), (a1, .inl (cy 0, 16, .inl zI)), (a2, .inl (cy 0, 16, .inl zI)), (a0, .inr (9, [v0_0, v0_1, v0_2, v0_3, v0_4, v0_5, v0_6, v0_7, v0_8, v0_9, v0_10, .ref a4, .ref a3, v0_13, v0_14, v0_15, v0_16, v0_17, v0_18, v0_19, v0_20, v0_21, v0_22, v0_23, v0_24, v0_25, v0_26, v0_27, v0_28, .int 0, v0_30, v0_31, v0_32, v0_33, v0_34, v0_35, v0_36, .ref a1, .ref a2, v0_39, v0_40, v0_41, v0_42, v0_43, v0_44, v0_45, v0_46, v0_47, v0_48, v0_49, v0_50, v0_51, v0_52, v0_53, v0_54, v0_55, v0_56, v0_57, v0_58, v0_59, v0_60, v0_61, v0_62, v0_63])), (a3, .inl (cy 0, 2, .inl zI))] H := hP
    have hD : va_D A [(a4, .inl (cy 0, 2, .inl zI)), (a1, .inl (cy 0, 16, .inl zI)), (a2, .inl (cy 0, 16, .inl zI)), (a0, .inr (9, [v0_0, v0_1, v0_2, v0_3, v0_4, v0_5, v0_6, v0_7, v0_8, v0_9, v0_10, .ref a4, .ref a3, v0_13, v0_14, v0_15, v0_16, v0_17, v0_18, v0_19, v0_20, v0_21, v0_22, v0_23, v0_24, v0_25, v0_26, v0_27, v0_28, .int 0, v0_30, v0_31, v0_32, v0_33, v0_34, v0_35, v0_36, .ref a1, .ref a2, v0_39, v0_40, v0_41, v0_42, v0_43, v0_44, v0_45, v0_46, v0_47, v0_48, v0_49, v0_50, v0_51, v0_52, v0_53, v0_54, v0_55, v0_56, v0_57, v0_58, v0_59, v0_60, v0_61, v0_62, v0_63])), (a3, .inl (cy 0, 2, .inl zI))] := hD
    obtain rfl : r = 0 := hw
    refine lv_icmp_ge (tgt := 56) hx hb dX9_shock_23 (by decide) (fun _ => ?_) (fun c => absurd (by decide) c)
    refine lv_aload_n hx hb dX9_shock_56 rfl (lv_at hl 1 rfl) ?_
    refine clVI (As := []) (rest := []) (wr := [(a2, .inl (cy 0, 16, .inl zI))]) ⟨hx, hb, hml, hown, hts⟩ hK hP hD hS hA (k_X9_claimsNow_0 l D cy a0 a1 a3 a4 (v0_0) (v0_1) (v0_2) (v0_3) (v0_4) (v0_5) (v0_6) (v0_7) (v0_8) (v0_9) (v0_10) (v0_13) (v0_14) (v0_15) (v0_16) (v0_17) (v0_18) (v0_19) (v0_20) (v0_21) (v0_22) (v0_23) (v0_24) (v0_25) (v0_26) (v0_27) (v0_28) (v0_30) (v0_31) (v0_32) (v0_33) (v0_34) (v0_35) (v0_36) (.ref a2) (v0_39) (v0_40) (v0_41) (v0_42) (v0_43) (v0_44) (v0_45) (v0_46) (v0_47) (v0_48) (v0_49) (v0_50) (v0_51) (v0_52) (v0_53) (v0_54) (v0_55) (v0_56) (v0_57) (v0_58) (v0_59) (v0_60) (v0_61) (v0_62) (v0_63) _) (cwV 0 hts gX9_shock_X9_claimsNow rfl rfl rfl (by decide +kernel) ⟨Nat.le_of_ble_eq_true rfl, Nat.le_of_ble_eq_true rfl⟩) 3 9 rfl rfl [3, 1, 4, 0] [2] rfl rfl rfl rfl (by decide) rfl hl.1 rfl (Nat.le_of_ble_eq_true rfl) dX9_shock_57 ⟨Nat.le_of_ble_eq_true rfl, Nat.le_of_ble_eq_true rfl⟩ rfl rfl (fun r _ H locs hw hP hD hS => ?_)
    have hP : va_P D vwCl [(a2, .inl (cy 0, 16, .inl zI)), (a0, .inr (9, [v0_0, v0_1, v0_2, v0_3, v0_4, v0_5, v0_6, v0_7, v0_8, v0_9, v0_10, .ref a4, .ref a3, v0_13, v0_14, v0_15, v0_16, v0_17, v0_18, v0_19, v0_20, v0_21, v0_22, v0_23, v0_24, v0_25, v0_26, v0_27, v0_28, .int 0, v0_30, v0_31, v0_32, v0_33, v0_34, v0_35, .int 0, .ref a1, .ref a2, v0_39, v0_40, v0_41, v0_42, v0_43, v0_44, v0_45, v0_46, v0_47, v0_48, v0_49, v0_50, v0_51, v0_52, v0_53, v0_54, v0_55, v0_56, v0_57, v0_58, v0_59, v0_60, v0_61, v0_62, v0_63])), (a1, .inl (cy 0, 16, .inl zI)), (a3, .inl (cy 0, 2, .inl zI)), (a4, .inl (cy 0, 2, .inl zI))] H := hP
    have hD : va_D A [(a2, .inl (cy 0, 16, .inl zI)), (a0, .inr (9, [v0_0, v0_1, v0_2, v0_3, v0_4, v0_5, v0_6, v0_7, v0_8, v0_9, v0_10, .ref a4, .ref a3, v0_13, v0_14, v0_15, v0_16, v0_17, v0_18, v0_19, v0_20, v0_21, v0_22, v0_23, v0_24, v0_25, v0_26, v0_27, v0_28, .int 0, v0_30, v0_31, v0_32, v0_33, v0_34, v0_35, .int 0, .ref a1, .ref a2, v0_39, v0_40, v0_41, v0_42, v0_43, v0_44, v0_45, v0_46, v0_47, v0_48, v0_49, v0_50, v0_51, v0_52, v0_53, v0_54, v0_55, v0_56, v0_57, v0_58, v0_59, v0_60, v0_61, v0_62, v0_63])), (a1, .inl (cy 0, 16, .inl zI)), (a3, .inl (cy 0, 2, .inl zI)), (a4, .inl (cy 0, 2, .inl zI))] := hD
    obtain rfl : r = 0 := hw
    refine lv_istore_n (lv' := [(2, .int 0), (0, .ref a0), (1, .int p1)]) hx hb dX9_shock_60 rfl hl (by decide) rfl (fun ls hl => ?_)
    refine lv_aload_n hx hb dX9_shock_61 rfl (lv_at hl 1 rfl) ?_
    refine clVV (As := []) (rest := []) (wr := [(a3, .inl (cy 0, 2, .inl zI)), (a4, .inl (cy 0, 2, .inl zI))]) ⟨hx, hb, hml, hown, hts⟩ hK hP hD hS hA (k_X9_bringBack_1 l D cy a0 a2 a1 (v0_0) (v0_1) (v0_2) (v0_3) (v0_4) (v0_5) (v0_6) (v0_7) (v0_8) (v0_9) (v0_10) (.ref a4) (.ref a3) (v0_13) (v0_14) (v0_15) (v0_16) (v0_17) (v0_18) (v0_19) (v0_20) (v0_21) (v0_22) (v0_23) (v0_24) (v0_25) (v0_26) (v0_27) (v0_28) (.int 0) (v0_30) (v0_31) (v0_32) (v0_33) (v0_34) (v0_35) (.int 0) (v0_39) (v0_40) (v0_41) (v0_42) (v0_43) (v0_44) (v0_45) (v0_46) (v0_47) (v0_48) (v0_49) (v0_50) (v0_51) (v0_52) (v0_53) (v0_54) (v0_55) (v0_56) (v0_57) (v0_58) (v0_59) (v0_60) (v0_61) (v0_62) (v0_63) _) (cwV 0 hts gX9_shock_X9_bringBack rfl rfl rfl (by decide +kernel) ⟨Nat.le_of_ble_eq_true rfl, Nat.le_of_ble_eq_true rfl⟩) 1 9 rfl rfl [1, 0, 2] [3, 4] rfl rfl rfl rfl (by decide) rfl hl.1 rfl (Nat.le_of_ble_eq_true rfl) dX9_shock_62 ⟨Nat.le_of_ble_eq_true rfl, Nat.le_of_ble_eq_true rfl⟩ rfl rfl (fun _ H locs _ hP hD hS => ?_)
    have hP : va_P D vwCl [(a3, .inl (cy 0, 2, .inl zI)), (a4, .inl (cy 0, 2, .inl zI)), (a0, .inr (9, [v0_0, v0_1, v0_2, v0_3, v0_4, v0_5, v0_6, v0_7, v0_8, v0_9, v0_10, .ref a4, .ref a3, v0_13, v0_14, v0_15, v0_16, v0_17, v0_18, v0_19, v0_20, v0_21, v0_22, v0_23, v0_24, v0_25, v0_26, v0_27, v0_28, .int 0, v0_30, v0_31, v0_32, v0_33, v0_34, v0_35, .int 0, .ref a1, .ref a2, v0_39, v0_40, v0_41, v0_42, v0_43, v0_44, v0_45, v0_46, v0_47, v0_48, v0_49, v0_50, v0_51, v0_52, v0_53, v0_54, v0_55, v0_56, v0_57, v0_58, v0_59, v0_60, v0_61, v0_62, v0_63])), (a2, .inl (cy 0, 16, .inl zI)), (a1, .inl (cy 0, 16, .inl zI))] H := hP
    have hD : va_D A [(a3, .inl (cy 0, 2, .inl zI)), (a4, .inl (cy 0, 2, .inl zI)), (a0, .inr (9, [v0_0, v0_1, v0_2, v0_3, v0_4, v0_5, v0_6, v0_7, v0_8, v0_9, v0_10, .ref a4, .ref a3, v0_13, v0_14, v0_15, v0_16, v0_17, v0_18, v0_19, v0_20, v0_21, v0_22, v0_23, v0_24, v0_25, v0_26, v0_27, v0_28, .int 0, v0_30, v0_31, v0_32, v0_33, v0_34, v0_35, .int 0, .ref a1, .ref a2, v0_39, v0_40, v0_41, v0_42, v0_43, v0_44, v0_45, v0_46, v0_47, v0_48, v0_49, v0_50, v0_51, v0_52, v0_53, v0_54, v0_55, v0_56, v0_57, v0_58, v0_59, v0_60, v0_61, v0_62, v0_63])), (a2, .inl (cy 0, 16, .inl zI)), (a1, .inl (cy 0, 16, .inl zI))] := hD
    refine lv_iload_n hx hb dX9_shock_65 rfl (lv_at hl 0 rfl) ?_
    exact rtI hx hb hr hlk rfl hP hD hS () [] rfl rfl (Or.inr ⟨rfl, c2⟩) dX9_shock_66
set_option maxHeartbeats 4000000 in
set_option maxRecDepth 100000 in
theorem k_X8_brings_0 (l : Launch) (D : va_G) (cy : Nat → ClassId) (a0 a1 : Nat) (v0_0 : Value) (v0_2 : Value) (v0_3 : Value) (v0_4 : Value) (v0_5 : Value) (v0_6 : Value) (v0_7 : Value) (v0_8 : Value) (v0_9 : Value) (v0_10 : Value) (v0_11 : Value) (v0_12 : Value) (v1_0 : Value) (v1_1 : Value) (v1_3 : Value) (v1_4 : Value) (v1_5 : Value) (v1_6 : Value) (v1_7 : Value) (v1_8 : Value) (v1_9 : Value) (v1_10 : Value) (v1_11 : Value) (p1 : Int32) (sz : Nat) : CtI l yX8_brings wsX8_brings 2 42 [.ref a0, .int p1] D cy [(a0, .inr (8, [v0_0, .ref a1, v0_2, v0_3, v0_4, v0_5, v0_6, v0_7, v0_8, v0_9, v0_10, v0_11, v0_12])), (a1, .inr (5, [v1_0, v1_1, .int 0, v1_3, v1_4, v1_5, v1_6, v1_7, v1_8, v1_9, v1_10, v1_11]))] sz 0 0 (fun (r : Int32) (_ : Unit) => r = (-1)) (fun _ => []) := by
  refine CtI.of (cc := cX8_brings) (maxL := 2) (ty := .int) (own := RX8) (by decide) rfl (Nat.le_of_ble_eq_true rfl) rfl ?_
  intro p e s m below meth c A ls hx hb hr hml hts hown hlk hK hP hD hS hA hl
  have hl : lv_has ls 2 [(0, .ref a0), (1, .int p1)] := hl
  refine st0 (fun H locs hP hS => ?_) hP hS
  have hP : va_P D vwCl [(a0, .inr (8, [v0_0, .ref a1, v0_2, v0_3, v0_4, v0_5, v0_6, v0_7, v0_8, v0_9, v0_10, v0_11, v0_12])), (a1, .inr (5, [v1_0, v1_1, .int 0, v1_3, v1_4, v1_5, v1_6, v1_7, v1_8, v1_9, v1_10, v1_11]))] H := hP
  have hD : va_D A [(a0, .inr (8, [v0_0, .ref a1, v0_2, v0_3, v0_4, v0_5, v0_6, v0_7, v0_8, v0_9, v0_10, v0_11, v0_12])), (a1, .inr (5, [v1_0, v1_1, .int 0, v1_3, v1_4, v1_5, v1_6, v1_7, v1_8, v1_9, v1_10, v1_11]))] := hD
  refine lv_aload_n hx hb dX8_brings_0 rfl (lv_at hl 0 rfl) ?_
  refine lv_iload_n hx hb dX8_brings_1 rfl (lv_at hl 1 rfl) ?_
  refine clVI (As := [.int p1]) (rest := []) (wr := []) ⟨hx, hb, hml, hown, hts⟩ hK hP hD hS hA (k_X8_isTied_0 l D cy a0 a1 (v0_0) (v0_2) (v0_3) (v0_4) (v0_5) (v0_6) (v0_7) (v0_8) (v0_9) (v0_10) (v0_11) (v0_12) (v1_0) (v1_1) (v1_3) (v1_4) (v1_5) (v1_6) (v1_7) (v1_8) (v1_9) (v1_10) (v1_11) p1 _) (cwV 1 hts gX8_brings_X8_isTied rfl rfl rfl (by decide +kernel) ⟨Nat.le_of_ble_eq_true rfl, Nat.le_of_ble_eq_true rfl⟩) 0 8 rfl rfl [0, 1] [] rfl rfl rfl rfl (by decide) rfl hl.1 rfl (Nat.le_of_ble_eq_true rfl) dX8_brings_2 ⟨Nat.le_of_ble_eq_true rfl, Nat.le_of_ble_eq_true rfl⟩ rfl rfl (fun r _ H locs hw hP hD hS => ?_)
  have hP : va_P D vwCl [(a0, .inr (8, [v0_0, .ref a1, v0_2, v0_3, v0_4, v0_5, v0_6, v0_7, v0_8, v0_9, v0_10, v0_11, v0_12])), (a1, .inr (5, [v1_0, v1_1, .int 0, v1_3, v1_4, v1_5, v1_6, v1_7, v1_8, v1_9, v1_10, v1_11]))] H := hP
  have hD : va_D A [(a0, .inr (8, [v0_0, .ref a1, v0_2, v0_3, v0_4, v0_5, v0_6, v0_7, v0_8, v0_9, v0_10, v0_11, v0_12])), (a1, .inr (5, [v1_0, v1_1, .int 0, v1_3, v1_4, v1_5, v1_6, v1_7, v1_8, v1_9, v1_10, v1_11]))] := hD
  obtain rfl : r = 0 := hw
  refine lv_if_ne (tgt := 10) hx hb dX8_brings_5 (by decide) (fun c => absurd (by decide) c) (fun _ => ?_)
  refine lv_iconst (v := (-1)) hx hb dX8_brings_8 (by decide) ?_
  exact rtI hx hb hr hlk rfl hP hD hS () [] rfl rfl rfl dX8_brings_9
set_option maxHeartbeats 4000000 in
set_option maxRecDepth 100000 in
theorem k_X9_brings_0 (l : Launch) (D : va_G) (cy : Nat → ClassId) (a0 a1 : Nat) (v0_0 : Value) (v0_1 : Value) (v0_2 : Value) (v0_3 : Value) (v0_4 : Value) (v0_5 : Value) (v0_6 : Value) (v0_7 : Value) (v0_8 : Value) (v0_9 : Value) (v0_10 : Value) (v0_11 : Value) (v0_13 : Value) (v0_14 : Value) (v0_15 : Value) (v0_16 : Value) (v0_17 : Value) (v0_18 : Value) (v0_19 : Value) (v0_20 : Value) (v0_21 : Value) (v0_22 : Value) (v0_23 : Value) (v0_24 : Value) (v0_25 : Value) (v0_26 : Value) (v0_27 : Value) (v0_28 : Value) (v0_30 : Value) (v0_31 : Value) (v0_32 : Value) (v0_33 : Value) (v0_34 : Value) (v0_35 : Value) (v0_36 : Value) (v0_37 : Value) (v0_38 : Value) (v0_39 : Value) (v0_40 : Value) (v0_41 : Value) (v0_42 : Value) (v0_43 : Value) (v0_44 : Value) (v0_45 : Value) (v0_46 : Value) (v0_47 : Value) (v0_48 : Value) (v0_49 : Value) (v0_50 : Value) (v0_51 : Value) (v0_52 : Value) (v0_53 : Value) (v0_54 : Value) (v0_55 : Value) (v0_56 : Value) (v0_57 : Value) (v0_58 : Value) (v0_59 : Value) (v0_60 : Value) (v0_61 : Value) (v0_62 : Value) (v0_63 : Value) (p1 : Int32) (sz : Nat) : CtI l yX9_brings wsX9_brings 2 43 [.ref a0, .int p1] D cy [(a0, .inr (9, [v0_0, v0_1, v0_2, v0_3, v0_4, v0_5, v0_6, v0_7, v0_8, v0_9, v0_10, v0_11, .ref a1, v0_13, v0_14, v0_15, v0_16, v0_17, v0_18, v0_19, v0_20, v0_21, v0_22, v0_23, v0_24, v0_25, v0_26, v0_27, v0_28, .int 0, v0_30, v0_31, v0_32, v0_33, v0_34, v0_35, v0_36, v0_37, v0_38, v0_39, v0_40, v0_41, v0_42, v0_43, v0_44, v0_45, v0_46, v0_47, v0_48, v0_49, v0_50, v0_51, v0_52, v0_53, v0_54, v0_55, v0_56, v0_57, v0_58, v0_59, v0_60, v0_61, v0_62, v0_63])), (a1, .inl (cy 0, 2, .inl zI))] sz 0 0 (fun (r : Int32) (_ : Unit) => r = (-1)) (fun _ => []) := by
  refine CtI.of (cc := cX9_brings) (maxL := 3) (ty := .int) (own := RX9) (by decide) rfl (Nat.le_of_ble_eq_true rfl) rfl ?_
  intro p e s m below meth c A ls hx hb hr hml hts hown hlk hK hP hD hS hA hl
  have hl : lv_has ls 3 [(0, .ref a0), (1, .int p1)] := hl
  refine st0 (fun H locs hP hS => ?_) hP hS
  have hP : va_P D vwCl [(a0, .inr (9, [v0_0, v0_1, v0_2, v0_3, v0_4, v0_5, v0_6, v0_7, v0_8, v0_9, v0_10, v0_11, .ref a1, v0_13, v0_14, v0_15, v0_16, v0_17, v0_18, v0_19, v0_20, v0_21, v0_22, v0_23, v0_24, v0_25, v0_26, v0_27, v0_28, .int 0, v0_30, v0_31, v0_32, v0_33, v0_34, v0_35, v0_36, v0_37, v0_38, v0_39, v0_40, v0_41, v0_42, v0_43, v0_44, v0_45, v0_46, v0_47, v0_48, v0_49, v0_50, v0_51, v0_52, v0_53, v0_54, v0_55, v0_56, v0_57, v0_58, v0_59, v0_60, v0_61, v0_62, v0_63])), (a1, .inl (cy 0, 2, .inl zI))] H := hP
  have hD : va_D A [(a0, .inr (9, [v0_0, v0_1, v0_2, v0_3, v0_4, v0_5, v0_6, v0_7, v0_8, v0_9, v0_10, v0_11, .ref a1, v0_13, v0_14, v0_15, v0_16, v0_17, v0_18, v0_19, v0_20, v0_21, v0_22, v0_23, v0_24, v0_25, v0_26, v0_27, v0_28, .int 0, v0_30, v0_31, v0_32, v0_33, v0_34, v0_35, v0_36, v0_37, v0_38, v0_39, v0_40, v0_41, v0_42, v0_43, v0_44, v0_45, v0_46, v0_47, v0_48, v0_49, v0_50, v0_51, v0_52, v0_53, v0_54, v0_55, v0_56, v0_57, v0_58, v0_59, v0_60, v0_61, v0_62, v0_63])), (a1, .inl (cy 0, 2, .inl zI))] := hD
  refine lv_aload_n hx hb dX9_brings_0 rfl (lv_at hl 0 rfl) ?_
  refine lv_iload_n hx hb dX9_brings_1 rfl (lv_at hl 1 rfl) ?_
  refine clVI (As := [.int p1]) (rest := []) (wr := []) ⟨hx, hb, hml, hown, hts⟩ hK hP hD hS hA (k_X9_isThread_0 l D cy a0 a1 (v0_0) (v0_1) (v0_2) (v0_3) (v0_4) (v0_5) (v0_6) (v0_7) (v0_8) (v0_9) (v0_10) (v0_11) (v0_13) (v0_14) (v0_15) (v0_16) (v0_17) (v0_18) (v0_19) (v0_20) (v0_21) (v0_22) (v0_23) (v0_24) (v0_25) (v0_26) (v0_27) (v0_28) (v0_30) (v0_31) (v0_32) (v0_33) (v0_34) (v0_35) (v0_36) (v0_37) (v0_38) (v0_39) (v0_40) (v0_41) (v0_42) (v0_43) (v0_44) (v0_45) (v0_46) (v0_47) (v0_48) (v0_49) (v0_50) (v0_51) (v0_52) (v0_53) (v0_54) (v0_55) (v0_56) (v0_57) (v0_58) (v0_59) (v0_60) (v0_61) (v0_62) (v0_63) p1 _) (cwV 1 hts gX9_brings_X9_isThread rfl rfl rfl (by decide +kernel) ⟨Nat.le_of_ble_eq_true rfl, Nat.le_of_ble_eq_true rfl⟩) 0 9 rfl rfl [0, 1] [] rfl rfl rfl rfl (by decide) rfl hl.1 rfl (Nat.le_of_ble_eq_true rfl) dX9_brings_2 ⟨Nat.le_of_ble_eq_true rfl, Nat.le_of_ble_eq_true rfl⟩ rfl rfl (fun r _ H locs hw hP hD hS => ?_)
  have hP : va_P D vwCl [(a0, .inr (9, [v0_0, v0_1, v0_2, v0_3, v0_4, v0_5, v0_6, v0_7, v0_8, v0_9, v0_10, v0_11, .ref a1, v0_13, v0_14, v0_15, v0_16, v0_17, v0_18, v0_19, v0_20, v0_21, v0_22, v0_23, v0_24, v0_25, v0_26, v0_27, v0_28, .int 0, v0_30, v0_31, v0_32, v0_33, v0_34, v0_35, v0_36, v0_37, v0_38, v0_39, v0_40, v0_41, v0_42, v0_43, v0_44, v0_45, v0_46, v0_47, v0_48, v0_49, v0_50, v0_51, v0_52, v0_53, v0_54, v0_55, v0_56, v0_57, v0_58, v0_59, v0_60, v0_61, v0_62, v0_63])), (a1, .inl (cy 0, 2, .inl zI))] H := hP
  have hD : va_D A [(a0, .inr (9, [v0_0, v0_1, v0_2, v0_3, v0_4, v0_5, v0_6, v0_7, v0_8, v0_9, v0_10, v0_11, .ref a1, v0_13, v0_14, v0_15, v0_16, v0_17, v0_18, v0_19, v0_20, v0_21, v0_22, v0_23, v0_24, v0_25, v0_26, v0_27, v0_28, .int 0, v0_30, v0_31, v0_32, v0_33, v0_34, v0_35, v0_36, v0_37, v0_38, v0_39, v0_40, v0_41, v0_42, v0_43, v0_44, v0_45, v0_46, v0_47, v0_48, v0_49, v0_50, v0_51, v0_52, v0_53, v0_54, v0_55, v0_56, v0_57, v0_58, v0_59, v0_60, v0_61, v0_62, v0_63])), (a1, .inl (cy 0, 2, .inl zI))] := hD
  obtain rfl : r = 0 := hw
  refine lv_if_eq (tgt := 21) hx hb dX9_brings_5 (by decide) (fun _ => ?_) (fun c => absurd (by decide) c)
  refine lv_iconst (v := (-1)) hx hb dX9_brings_21 (by decide) ?_
  exact rtI hx hb hr hlk rfl hP hD hS () [] rfl rfl rfl dX9_brings_22
set_option maxHeartbeats 4000000 in
set_option maxRecDepth 100000 in
theorem k_X8_gaps_0 (l : Launch) (D : va_G) (cy : Nat → ClassId) (a0 a1 : Nat) (v0_0 : Value) (v0_2 : Value) (v0_3 : Value) (v0_4 : Value) (v0_5 : Value) (v0_6 : Value) (v0_7 : Value) (v0_8 : Value) (v0_9 : Value) (v0_10 : Value) (v0_11 : Value) (v0_12 : Value) (v1_1 : Value) (v1_2 : Value) (v1_3 : Value) (v1_4 : Value) (v1_5 : Value) (v1_6 : Value) (v1_7 : Value) (v1_8 : Value) (v1_9 : Value) (v1_10 : Value) (v1_11 : Value) (sz : Nat) : CtI l yX8_gaps wsX8_gaps 0 0 [.ref a0] D cy [(a0, .inr (8, [v0_0, .ref a1, v0_2, v0_3, v0_4, v0_5, v0_6, v0_7, v0_8, v0_9, v0_10, v0_11, v0_12])), (a1, .inr (5, [.int 0, v1_1, v1_2, v1_3, v1_4, v1_5, v1_6, v1_7, v1_8, v1_9, v1_10, v1_11]))] sz 0 0 (fun (r : Int32) (_ : Unit) => r = 0) (fun _ => []) := by
  refine CtI.of (cc := cX8_gaps) (maxL := 3) (ty := .int) (own := RX8) (by decide) rfl (Nat.le_of_ble_eq_true rfl) rfl ?_
  intro p e s m below meth c A ls hx hb hr hml hts hown hlk hK hP hD hS hA hl
  have hl : lv_has ls 3 [(0, .ref a0)] := hl
  refine st0 (fun H locs hP hS => ?_) hP hS
  have hP : va_P D vwCl [(a0, .inr (8, [v0_0, .ref a1, v0_2, v0_3, v0_4, v0_5, v0_6, v0_7, v0_8, v0_9, v0_10, v0_11, v0_12])), (a1, .inr (5, [.int 0, v1_1, v1_2, v1_3, v1_4, v1_5, v1_6, v1_7, v1_8, v1_9, v1_10, v1_11]))] H := hP
  have hD : va_D A [(a0, .inr (8, [v0_0, .ref a1, v0_2, v0_3, v0_4, v0_5, v0_6, v0_7, v0_8, v0_9, v0_10, v0_11, v0_12])), (a1, .inr (5, [.int 0, v1_1, v1_2, v1_3, v1_4, v1_5, v1_6, v1_7, v1_8, v1_9, v1_10, v1_11]))] := hD
  refine lv_iconst (v := 0) hx hb dX8_gaps_0 (by decide) ?_
  refine lv_istore_n (lv' := [(1, .int 0), (0, .ref a0)]) hx hb dX8_gaps_1 rfl hl (by decide) rfl (fun ls hl => ?_)
  refine lv_iconst (v := 0) hx hb dX8_gaps_2 (by decide) ?_
  refine lv_istore_n (lv' := [(2, .int 0), (1, .int 0), (0, .ref a0)]) hx hb dX8_gaps_3 rfl hl (by decide) rfl (fun ls hl => ?_)
  refine lv_iload_n hx hb dX8_gaps_4 rfl (lv_at hl 0 rfl) ?_
  refine lv_aload_n hx hb dX8_gaps_5 rfl (lv_at hl 2 rfl) ?_
  refine va_get (D := D) (cl := vwCl) (ci := 8) (v := .ref a1) (C := RX8) (T := TX8) (N := 13) hx hb hts in_X8_gaps_X8 hown hK hP 0 rfl rfl 1 (by decide) (hts (.fieldLink RX8 19 "EightReasons" "told" "LEightReasons$Suit;") (List.mem_of_getElem? (i := 1) (by decide +kernel))) (fun _ h9 => h9) rfl dX8_gaps_6 ?_
  refine va_get (D := D) (cl := vwCl) (ci := 5) (v := .int 0) (C := RX5) (T := TX5) (N := 12) hx hb hts in_X8_gaps_X5 hown hK hP 1 rfl rfl 0 (by decide) (hts (.fieldLink RX8 105 "EightReasons$Suit" "points" "I") (List.mem_of_getElem? (i := 2) (by decide +kernel))) (fun _ h9 => h9) rfl dX8_gaps_9 ?_
  refine lv_icmp_ge (tgt := 58) hx hb dX8_gaps_12 (by decide) (fun _ => ?_) (fun c => absurd (by decide) c)
  refine lv_iload_n hx hb dX8_gaps_58 rfl (lv_at hl 1 rfl) ?_
  exact rtI hx hb hr hlk rfl hP hD hS () [] rfl rfl rfl dX8_gaps_59
set_option maxHeartbeats 4000000 in
set_option maxRecDepth 100000 in
theorem k_X9_gaps_0 (l : Launch) (D : va_G) (cy : Nat → ClassId) (a0 a1 : Nat) (v0_0 : Value) (v0_1 : Value) (v0_2 : Value) (v0_3 : Value) (v0_4 : Value) (v0_5 : Value) (v0_6 : Value) (v0_7 : Value) (v0_8 : Value) (v0_9 : Value) (v0_10 : Value) (v0_12 : Value) (v0_13 : Value) (v0_14 : Value) (v0_15 : Value) (v0_16 : Value) (v0_17 : Value) (v0_18 : Value) (v0_19 : Value) (v0_20 : Value) (v0_21 : Value) (v0_22 : Value) (v0_23 : Value) (v0_24 : Value) (v0_25 : Value) (v0_26 : Value) (v0_27 : Value) (v0_28 : Value) (v0_30 : Value) (v0_31 : Value) (v0_32 : Value) (v0_33 : Value) (v0_34 : Value) (v0_35 : Value) (v0_36 : Value) (v0_37 : Value) (v0_38 : Value) (v0_39 : Value) (v0_40 : Value) (v0_41 : Value) (v0_42 : Value) (v0_43 : Value) (v0_44 : Value) (v0_45 : Value) (v0_46 : Value) (v0_47 : Value) (v0_48 : Value) (v0_49 : Value) (v0_50 : Value) (v0_51 : Value) (v0_52 : Value) (v0_53 : Value) (v0_54 : Value) (v0_55 : Value) (v0_56 : Value) (v0_57 : Value) (v0_58 : Value) (v0_59 : Value) (v0_60 : Value) (v0_61 : Value) (v0_62 : Value) (v0_63 : Value) (sz : Nat) : CtI l yX9_gaps wsX9_gaps 1 20 [.ref a0] D cy [(a0, .inr (9, [v0_0, v0_1, v0_2, v0_3, v0_4, v0_5, v0_6, v0_7, v0_8, v0_9, v0_10, .ref a1, v0_12, v0_13, v0_14, v0_15, v0_16, v0_17, v0_18, v0_19, v0_20, v0_21, v0_22, v0_23, v0_24, v0_25, v0_26, v0_27, v0_28, .int 0, v0_30, v0_31, v0_32, v0_33, v0_34, v0_35, v0_36, v0_37, v0_38, v0_39, v0_40, v0_41, v0_42, v0_43, v0_44, v0_45, v0_46, v0_47, v0_48, v0_49, v0_50, v0_51, v0_52, v0_53, v0_54, v0_55, v0_56, v0_57, v0_58, v0_59, v0_60, v0_61, v0_62, v0_63])), (a1, .inl (cy 0, 2, .inl zI))] sz 0 0 (fun (r : Int32) (_ : Unit) => r = 0) (fun _ => []) := by
  refine CtI.of (cc := cX9_gaps) (maxL := 3) (ty := .int) (own := RX9) (by decide) rfl (Nat.le_of_ble_eq_true rfl) rfl ?_
  intro p e s m below meth c A ls hx hb hr hml hts hown hlk hK hP hD hS hA hl
  have hl : lv_has ls 3 [(0, .ref a0)] := hl
  refine st0 (fun H locs hP hS => ?_) hP hS
  have hP : va_P D vwCl [(a0, .inr (9, [v0_0, v0_1, v0_2, v0_3, v0_4, v0_5, v0_6, v0_7, v0_8, v0_9, v0_10, .ref a1, v0_12, v0_13, v0_14, v0_15, v0_16, v0_17, v0_18, v0_19, v0_20, v0_21, v0_22, v0_23, v0_24, v0_25, v0_26, v0_27, v0_28, .int 0, v0_30, v0_31, v0_32, v0_33, v0_34, v0_35, v0_36, v0_37, v0_38, v0_39, v0_40, v0_41, v0_42, v0_43, v0_44, v0_45, v0_46, v0_47, v0_48, v0_49, v0_50, v0_51, v0_52, v0_53, v0_54, v0_55, v0_56, v0_57, v0_58, v0_59, v0_60, v0_61, v0_62, v0_63])), (a1, .inl (cy 0, 2, .inl zI))] H := hP
  have hD : va_D A [(a0, .inr (9, [v0_0, v0_1, v0_2, v0_3, v0_4, v0_5, v0_6, v0_7, v0_8, v0_9, v0_10, .ref a1, v0_12, v0_13, v0_14, v0_15, v0_16, v0_17, v0_18, v0_19, v0_20, v0_21, v0_22, v0_23, v0_24, v0_25, v0_26, v0_27, v0_28, .int 0, v0_30, v0_31, v0_32, v0_33, v0_34, v0_35, v0_36, v0_37, v0_38, v0_39, v0_40, v0_41, v0_42, v0_43, v0_44, v0_45, v0_46, v0_47, v0_48, v0_49, v0_50, v0_51, v0_52, v0_53, v0_54, v0_55, v0_56, v0_57, v0_58, v0_59, v0_60, v0_61, v0_62, v0_63])), (a1, .inl (cy 0, 2, .inl zI))] := hD
  refine lv_iconst (v := 0) hx hb dX9_gaps_0 (by decide) ?_
  refine lv_istore_n (lv' := [(1, .int 0), (0, .ref a0)]) hx hb dX9_gaps_1 rfl hl (by decide) rfl (fun ls hl => ?_)
  refine lv_iconst (v := 0) hx hb dX9_gaps_2 (by decide) ?_
  refine lv_istore_n (lv' := [(2, .int 0), (1, .int 0), (0, .ref a0)]) hx hb dX9_gaps_3 rfl hl (by decide) rfl (fun ls hl => ?_)
  refine lv_iload_n hx hb dX9_gaps_4 rfl (lv_at hl 0 rfl) ?_
  refine lv_aload_n hx hb dX9_gaps_5 rfl (lv_at hl 2 rfl) ?_
  refine clVI (As := []) (rest := [.int 0]) (wr := []) ⟨hx, hb, hml, hown, hts⟩ hK hP hD hS hA (k_X9_many_0 l D cy a0 a1 (v0_0) (v0_1) (v0_2) (v0_3) (v0_4) (v0_5) (v0_6) (v0_7) (v0_8) (v0_9) (v0_10) (v0_12) (v0_13) (v0_14) (v0_15) (v0_16) (v0_17) (v0_18) (v0_19) (v0_20) (v0_21) (v0_22) (v0_23) (v0_24) (v0_25) (v0_26) (v0_27) (v0_28) (v0_30) (v0_31) (v0_32) (v0_33) (v0_34) (v0_35) (v0_36) (v0_37) (v0_38) (v0_39) (v0_40) (v0_41) (v0_42) (v0_43) (v0_44) (v0_45) (v0_46) (v0_47) (v0_48) (v0_49) (v0_50) (v0_51) (v0_52) (v0_53) (v0_54) (v0_55) (v0_56) (v0_57) (v0_58) (v0_59) (v0_60) (v0_61) (v0_62) (v0_63) _) (cwV 0 hts gX9_gaps_X9_many rfl rfl rfl (by decide +kernel) ⟨Nat.le_of_ble_eq_true rfl, Nat.le_of_ble_eq_true rfl⟩) 0 9 rfl rfl [0, 1] [] rfl rfl rfl rfl (by decide) rfl hl.1 rfl (Nat.le_of_ble_eq_true rfl) dX9_gaps_6 ⟨Nat.le_of_ble_eq_true rfl, Nat.le_of_ble_eq_true rfl⟩ rfl rfl (fun r _ H locs hw hP hD hS => ?_)
  have hP : va_P D vwCl [(a0, .inr (9, [v0_0, v0_1, v0_2, v0_3, v0_4, v0_5, v0_6, v0_7, v0_8, v0_9, v0_10, .ref a1, v0_12, v0_13, v0_14, v0_15, v0_16, v0_17, v0_18, v0_19, v0_20, v0_21, v0_22, v0_23, v0_24, v0_25, v0_26, v0_27, v0_28, .int 0, v0_30, v0_31, v0_32, v0_33, v0_34, v0_35, v0_36, v0_37, v0_38, v0_39, v0_40, v0_41, v0_42, v0_43, v0_44, v0_45, v0_46, v0_47, v0_48, v0_49, v0_50, v0_51, v0_52, v0_53, v0_54, v0_55, v0_56, v0_57, v0_58, v0_59, v0_60, v0_61, v0_62, v0_63])), (a1, .inl (cy 0, 2, .inl zI))] H := hP
  have hD : va_D A [(a0, .inr (9, [v0_0, v0_1, v0_2, v0_3, v0_4, v0_5, v0_6, v0_7, v0_8, v0_9, v0_10, .ref a1, v0_12, v0_13, v0_14, v0_15, v0_16, v0_17, v0_18, v0_19, v0_20, v0_21, v0_22, v0_23, v0_24, v0_25, v0_26, v0_27, v0_28, .int 0, v0_30, v0_31, v0_32, v0_33, v0_34, v0_35, v0_36, v0_37, v0_38, v0_39, v0_40, v0_41, v0_42, v0_43, v0_44, v0_45, v0_46, v0_47, v0_48, v0_49, v0_50, v0_51, v0_52, v0_53, v0_54, v0_55, v0_56, v0_57, v0_58, v0_59, v0_60, v0_61, v0_62, v0_63])), (a1, .inl (cy 0, 2, .inl zI))] := hD
  obtain rfl : r = 0 := hw
  refine lv_icmp_ge (tgt := 47) hx hb dX9_gaps_9 (by decide) (fun _ => ?_) (fun c => absurd (by decide) c)
  refine lv_iload_n hx hb dX9_gaps_47 rfl (lv_at hl 1 rfl) ?_
  exact rtI hx hb hr hlk rfl hP hD hS () [] rfl rfl rfl dX9_gaps_48
set_option maxHeartbeats 4000000 in
set_option maxRecDepth 100000 in
theorem k_X8_best_0 (l : Launch) (D : va_G) (cy : Nat → ClassId) (a0 a1 : Nat) (v0_0 : Value) (v0_2 : Value) (v0_3 : Value) (v0_4 : Value) (v0_5 : Value) (v0_6 : Value) (v0_7 : Value) (v0_8 : Value) (v0_9 : Value) (v0_10 : Value) (v0_11 : Value) (v0_12 : Value) (v1_1 : Value) (v1_2 : Value) (v1_3 : Value) (v1_4 : Value) (v1_5 : Value) (v1_6 : Value) (v1_7 : Value) (v1_8 : Value) (v1_9 : Value) (v1_10 : Value) (v1_11 : Value) (p1 : Int32) (sz : Nat) : CtI l yX8_best wsX8_best 2 42 [.ref a0, .int p1] D cy [(a0, .inr (8, [v0_0, .ref a1, v0_2, v0_3, v0_4, v0_5, v0_6, v0_7, v0_8, v0_9, v0_10, v0_11, v0_12])), (a1, .inr (5, [.int 0, v1_1, v1_2, v1_3, v1_4, v1_5, v1_6, v1_7, v1_8, v1_9, v1_10, v1_11]))] sz 0 0 (fun (r : Int32) (_ : Unit) => r = (-1)) (fun _ => []) := by
  refine CtI.of (cc := cX8_best) (maxL := 6) (ty := .int) (own := RX8) (by decide) rfl (Nat.le_of_ble_eq_true rfl) rfl ?_
  intro p e s m below meth c A ls hx hb hr hml hts hown hlk hK hP hD hS hA hl
  have hl : lv_has ls 6 [(0, .ref a0), (1, .int p1)] := hl
  refine st0 (fun H locs hP hS => ?_) hP hS
  have hP : va_P D vwCl [(a0, .inr (8, [v0_0, .ref a1, v0_2, v0_3, v0_4, v0_5, v0_6, v0_7, v0_8, v0_9, v0_10, v0_11, v0_12])), (a1, .inr (5, [.int 0, v1_1, v1_2, v1_3, v1_4, v1_5, v1_6, v1_7, v1_8, v1_9, v1_10, v1_11]))] H := hP
  have hD : va_D A [(a0, .inr (8, [v0_0, .ref a1, v0_2, v0_3, v0_4, v0_5, v0_6, v0_7, v0_8, v0_9, v0_10, v0_11, v0_12])), (a1, .inr (5, [.int 0, v1_1, v1_2, v1_3, v1_4, v1_5, v1_6, v1_7, v1_8, v1_9, v1_10, v1_11]))] := hD
  refine lv_aload_n hx hb dX8_best_0 rfl (lv_at hl 0 rfl) ?_
  refine va_get (D := D) (cl := vwCl) (ci := 8) (v := .ref a1) (C := RX8) (T := TX8) (N := 13) hx hb hts in_X8_best_X8 hown hK hP 0 rfl rfl 1 (by decide) (hts (.fieldLink RX8 19 "EightReasons" "told" "LEightReasons$Suit;") (List.mem_of_getElem? (i := 1) (by decide +kernel))) (fun _ h9 => h9) rfl dX8_best_1 ?_
  refine lv_iload_n hx hb dX8_best_4 rfl (lv_at hl 1 rfl) ?_
  refine clVI (As := [.int p1]) (rest := []) (wr := [(a0, .inr (8, [v0_0, .ref a1, v0_2, v0_3, v0_4, v0_5, v0_6, v0_7, v0_8, v0_9, v0_10, v0_11, v0_12]))]) ⟨hx, hb, hml, hown, hts⟩ hK hP hD hS hA (k_X5_isClaim_0 l D cy a1 (v1_1) (v1_2) (v1_3) (v1_4) (v1_5) (v1_6) (v1_7) (v1_8) (v1_9) (v1_10) (v1_11) p1 _) (cwV 1 hts gX8_best_X5_isClaim rfl rfl rfl (by decide +kernel) ⟨Nat.le_of_ble_eq_true rfl, Nat.le_of_ble_eq_true rfl⟩) 1 5 rfl rfl [1] [0] rfl rfl rfl rfl (by decide) rfl hl.1 rfl (Nat.le_of_ble_eq_true rfl) dX8_best_5 ⟨Nat.le_of_ble_eq_true rfl, Nat.le_of_ble_eq_true rfl⟩ rfl rfl (fun r _ H locs hw hP hD hS => ?_)
  have hP : va_P D vwCl [(a0, .inr (8, [v0_0, .ref a1, v0_2, v0_3, v0_4, v0_5, v0_6, v0_7, v0_8, v0_9, v0_10, v0_11, v0_12])), (a1, .inr (5, [.int 0, v1_1, v1_2, v1_3, v1_4, v1_5, v1_6, v1_7, v1_8, v1_9, v1_10, v1_11]))] H := hP
  have hD : va_D A [(a0, .inr (8, [v0_0, .ref a1, v0_2, v0_3, v0_4, v0_5, v0_6, v0_7, v0_8, v0_9, v0_10, v0_11, v0_12])), (a1, .inr (5, [.int 0, v1_1, v1_2, v1_3, v1_4, v1_5, v1_6, v1_7, v1_8, v1_9, v1_10, v1_11]))] := hD
  obtain rfl : r = 0 := hw
  refine lv_if_ne (tgt := 13) hx hb dX8_best_8 (by decide) (fun c => absurd (by decide) c) (fun _ => ?_)
  refine lv_iconst (v := (-1)) hx hb dX8_best_11 (by decide) ?_
  exact rtI hx hb hr hlk rfl hP hD hS () [] rfl rfl rfl dX8_best_12
set_option maxHeartbeats 4000000 in
set_option maxRecDepth 100000 in
theorem k_X9_best_0 (l : Launch) (D : va_G) (cy : Nat → ClassId) (a0 a1 : Nat) (v0_0 : Value) (v0_1 : Value) (v0_2 : Value) (v0_3 : Value) (v0_4 : Value) (v0_5 : Value) (v0_6 : Value) (v0_7 : Value) (v0_8 : Value) (v0_9 : Value) (v0_10 : Value) (v0_12 : Value) (v0_13 : Value) (v0_14 : Value) (v0_15 : Value) (v0_16 : Value) (v0_17 : Value) (v0_18 : Value) (v0_19 : Value) (v0_20 : Value) (v0_21 : Value) (v0_22 : Value) (v0_23 : Value) (v0_24 : Value) (v0_25 : Value) (v0_26 : Value) (v0_27 : Value) (v0_28 : Value) (v0_30 : Value) (v0_31 : Value) (v0_32 : Value) (v0_33 : Value) (v0_34 : Value) (v0_35 : Value) (v0_36 : Value) (v0_37 : Value) (v0_38 : Value) (v0_39 : Value) (v0_40 : Value) (v0_41 : Value) (v0_42 : Value) (v0_43 : Value) (v0_44 : Value) (v0_45 : Value) (v0_46 : Value) (v0_47 : Value) (v0_48 : Value) (v0_49 : Value) (v0_50 : Value) (v0_51 : Value) (v0_52 : Value) (v0_53 : Value) (v0_54 : Value) (v0_55 : Value) (v0_56 : Value) (v0_57 : Value) (v0_58 : Value) (v0_59 : Value) (v0_60 : Value) (v0_61 : Value) (v0_62 : Value) (v0_63 : Value) (p1 : Int32) (sz : Nat) : CtI l yX9_best wsX9_best 3 64 [.ref a0, .int p1] D cy [(a0, .inr (9, [v0_0, v0_1, v0_2, v0_3, v0_4, v0_5, v0_6, v0_7, v0_8, v0_9, v0_10, .ref a1, v0_12, v0_13, v0_14, v0_15, v0_16, v0_17, v0_18, v0_19, v0_20, v0_21, v0_22, v0_23, v0_24, v0_25, v0_26, v0_27, v0_28, .int 0, v0_30, v0_31, v0_32, v0_33, v0_34, v0_35, v0_36, v0_37, v0_38, v0_39, v0_40, v0_41, v0_42, v0_43, v0_44, v0_45, v0_46, v0_47, v0_48, v0_49, v0_50, v0_51, v0_52, v0_53, v0_54, v0_55, v0_56, v0_57, v0_58, v0_59, v0_60, v0_61, v0_62, v0_63])), (a1, .inl (cy 0, 2, .inl zI))] sz 0 0 (fun (r : Int32) (_ : Unit) => r = (-1)) (fun _ => []) := by
  refine CtI.of (cc := cX9_best) (maxL := 6) (ty := .int) (own := RX9) (by decide) rfl (Nat.le_of_ble_eq_true rfl) rfl ?_
  intro p e s m below meth c A ls hx hb hr hml hts hown hlk hK hP hD hS hA hl
  have hl : lv_has ls 6 [(0, .ref a0), (1, .int p1)] := hl
  refine st0 (fun H locs hP hS => ?_) hP hS
  have hP : va_P D vwCl [(a0, .inr (9, [v0_0, v0_1, v0_2, v0_3, v0_4, v0_5, v0_6, v0_7, v0_8, v0_9, v0_10, .ref a1, v0_12, v0_13, v0_14, v0_15, v0_16, v0_17, v0_18, v0_19, v0_20, v0_21, v0_22, v0_23, v0_24, v0_25, v0_26, v0_27, v0_28, .int 0, v0_30, v0_31, v0_32, v0_33, v0_34, v0_35, v0_36, v0_37, v0_38, v0_39, v0_40, v0_41, v0_42, v0_43, v0_44, v0_45, v0_46, v0_47, v0_48, v0_49, v0_50, v0_51, v0_52, v0_53, v0_54, v0_55, v0_56, v0_57, v0_58, v0_59, v0_60, v0_61, v0_62, v0_63])), (a1, .inl (cy 0, 2, .inl zI))] H := hP
  have hD : va_D A [(a0, .inr (9, [v0_0, v0_1, v0_2, v0_3, v0_4, v0_5, v0_6, v0_7, v0_8, v0_9, v0_10, .ref a1, v0_12, v0_13, v0_14, v0_15, v0_16, v0_17, v0_18, v0_19, v0_20, v0_21, v0_22, v0_23, v0_24, v0_25, v0_26, v0_27, v0_28, .int 0, v0_30, v0_31, v0_32, v0_33, v0_34, v0_35, v0_36, v0_37, v0_38, v0_39, v0_40, v0_41, v0_42, v0_43, v0_44, v0_45, v0_46, v0_47, v0_48, v0_49, v0_50, v0_51, v0_52, v0_53, v0_54, v0_55, v0_56, v0_57, v0_58, v0_59, v0_60, v0_61, v0_62, v0_63])), (a1, .inl (cy 0, 2, .inl zI))] := hD
  refine lv_aload_n hx hb dX9_best_0 rfl (lv_at hl 0 rfl) ?_
  refine lv_iload_n hx hb dX9_best_1 rfl (lv_at hl 1 rfl) ?_
  refine clVI (As := [.int p1]) (rest := []) (wr := []) ⟨hx, hb, hml, hown, hts⟩ hK hP hD hS hA (k_X9_isClaim_0 l D cy a0 a1 (v0_0) (v0_1) (v0_2) (v0_3) (v0_4) (v0_5) (v0_6) (v0_7) (v0_8) (v0_9) (v0_10) (v0_12) (v0_13) (v0_14) (v0_15) (v0_16) (v0_17) (v0_18) (v0_19) (v0_20) (v0_21) (v0_22) (v0_23) (v0_24) (v0_25) (v0_26) (v0_27) (v0_28) (v0_30) (v0_31) (v0_32) (v0_33) (v0_34) (v0_35) (v0_36) (v0_37) (v0_38) (v0_39) (v0_40) (v0_41) (v0_42) (v0_43) (v0_44) (v0_45) (v0_46) (v0_47) (v0_48) (v0_49) (v0_50) (v0_51) (v0_52) (v0_53) (v0_54) (v0_55) (v0_56) (v0_57) (v0_58) (v0_59) (v0_60) (v0_61) (v0_62) (v0_63) p1 _) (cwV 1 hts gX9_best_X9_isClaim rfl rfl rfl (by decide +kernel) ⟨Nat.le_of_ble_eq_true rfl, Nat.le_of_ble_eq_true rfl⟩) 0 9 rfl rfl [0, 1] [] rfl rfl rfl rfl (by decide) rfl hl.1 rfl (Nat.le_of_ble_eq_true rfl) dX9_best_2 ⟨Nat.le_of_ble_eq_true rfl, Nat.le_of_ble_eq_true rfl⟩ rfl rfl (fun r _ H locs hw hP hD hS => ?_)
  have hP : va_P D vwCl [(a0, .inr (9, [v0_0, v0_1, v0_2, v0_3, v0_4, v0_5, v0_6, v0_7, v0_8, v0_9, v0_10, .ref a1, v0_12, v0_13, v0_14, v0_15, v0_16, v0_17, v0_18, v0_19, v0_20, v0_21, v0_22, v0_23, v0_24, v0_25, v0_26, v0_27, v0_28, .int 0, v0_30, v0_31, v0_32, v0_33, v0_34, v0_35, v0_36, v0_37, v0_38, v0_39, v0_40, v0_41, v0_42, v0_43, v0_44, v0_45, v0_46, v0_47, v0_48, v0_49, v0_50, v0_51, v0_52, v0_53, v0_54, v0_55, v0_56, v0_57, v0_58, v0_59, v0_60, v0_61, v0_62, v0_63])), (a1, .inl (cy 0, 2, .inl zI))] H := hP
  have hD : va_D A [(a0, .inr (9, [v0_0, v0_1, v0_2, v0_3, v0_4, v0_5, v0_6, v0_7, v0_8, v0_9, v0_10, .ref a1, v0_12, v0_13, v0_14, v0_15, v0_16, v0_17, v0_18, v0_19, v0_20, v0_21, v0_22, v0_23, v0_24, v0_25, v0_26, v0_27, v0_28, .int 0, v0_30, v0_31, v0_32, v0_33, v0_34, v0_35, v0_36, v0_37, v0_38, v0_39, v0_40, v0_41, v0_42, v0_43, v0_44, v0_45, v0_46, v0_47, v0_48, v0_49, v0_50, v0_51, v0_52, v0_53, v0_54, v0_55, v0_56, v0_57, v0_58, v0_59, v0_60, v0_61, v0_62, v0_63])), (a1, .inl (cy 0, 2, .inl zI))] := hD
  obtain rfl : r = 0 := hw
  refine lv_if_ne (tgt := 10) hx hb dX9_best_5 (by decide) (fun c => absurd (by decide) c) (fun _ => ?_)
  refine lv_iconst (v := (-1)) hx hb dX9_best_8 (by decide) ?_
  exact rtI hx hb hr hlk rfl hP hD hS () [] rfl rfl rfl dX9_best_9
set_option maxHeartbeats 4000000 in
set_option maxRecDepth 100000 in
theorem k_X8_depth_0 (l : Launch) (D : va_G) (cy : Nat → ClassId) (a0 a1 a2 a3 a4 a5 a6 a7 a8 a9 a10 r0 : Nat) (v0_0 : Value) (v0_3 : Value) (v0_4 : Value) (v0_5 : Value) (v0_7 : Value) (v0_8 : Value) (v0_9 : Value) (v0_10 : Value) (v0_11 : Value) (v0_12 : Value) (v1_2 : Value) (v1_3 : Value) (g2_ : Nat → Option Nat) (x3_0 : Int32) (v3_1 : Value) (v3_3 : Value) (v3_5 : Value) (v3_8 : Value) (v4_3 : Value) (v4_4 : Value) (v4_6 : Value) (v4_7 : Value) (v4_8 : Value) (v4_9 : Value) (v4_10 : Value) (v4_11 : Value) (x5_1 : Int32) (x5_3 : Int32) (v5_4 : Value) (sz : Nat) (hf2_0 : g2_ 0 = some a5) : CtI l yX8_depth wsX8_depth 4 122 [.ref a0] D cy [(a0, .inr (8, [v0_0, .ref a4, .ref a1, v0_3, v0_4, v0_5, .ref a3, v0_7, v0_8, v0_9, v0_10, v0_11, v0_12])), (a1, .inr (0, [.ref a2, .int 0, v1_2, v1_3])), (a2, .inl (cy 4, 41, .inr (.inr (.inr (.inr g2_))))), (a3, .inr (2, [.int x3_0, v3_1, .ref a10, v3_3, .ref r0, v3_5, .ref a7, .ref a9, v3_8, .int 0])), (a4, .inr (5, [.int 0, .int 0, .int 0, v4_3, v4_4, .ref a8, v4_6, v4_7, v4_8, v4_9, v4_10, v4_11])), (a5, .inr (4, [.ref a6, .int x5_1, .int 0, .int x5_3, v5_4])), (a6, .inl (cy 0, 12, .inl zI)), (a7, .inl (cy 0, 12, .inl zI)), (a8, .inl (cy 0, 10, .inl zI)), (a9, .inl (cy 0, 10, .inl zI)), (a10, .inl (cy 0, 10, .inl zI))] sz 0 0 (fun (r : Int32) (_ : Unit) => r = (-1)) (fun _ => []) := by
  refine CtI.of (cc := cX8_depth) (maxL := 4) (ty := .int) (own := RX8) (by decide) rfl (Nat.le_of_ble_eq_true rfl) rfl ?_
  intro p e s m below meth c A ls hx hb hr hml hts hown hlk hK hP hD hS hA hl
  have hl : lv_has ls 4 [(0, .ref a0)] := hl
  refine st0 (fun H locs hP hS => ?_) hP hS
  have hP : va_P D vwCl [(a0, .inr (8, [v0_0, .ref a4, .ref a1, v0_3, v0_4, v0_5, .ref a3, v0_7, v0_8, v0_9, v0_10, v0_11, v0_12])), (a1, .inr (0, [.ref a2, .int 0, v1_2, v1_3])), (a2, .inl (cy 4, 41, .inr (.inr (.inr (.inr g2_))))), (a3, .inr (2, [.int x3_0, v3_1, .ref a10, v3_3, .ref r0, v3_5, .ref a7, .ref a9, v3_8, .int 0])), (a4, .inr (5, [.int 0, .int 0, .int 0, v4_3, v4_4, .ref a8, v4_6, v4_7, v4_8, v4_9, v4_10, v4_11])), (a5, .inr (4, [.ref a6, .int x5_1, .int 0, .int x5_3, v5_4])), (a6, .inl (cy 0, 12, .inl zI)), (a7, .inl (cy 0, 12, .inl zI)), (a8, .inl (cy 0, 10, .inl zI)), (a9, .inl (cy 0, 10, .inl zI)), (a10, .inl (cy 0, 10, .inl zI))] H := hP
  have hD : va_D A [(a0, .inr (8, [v0_0, .ref a4, .ref a1, v0_3, v0_4, v0_5, .ref a3, v0_7, v0_8, v0_9, v0_10, v0_11, v0_12])), (a1, .inr (0, [.ref a2, .int 0, v1_2, v1_3])), (a2, .inl (cy 4, 41, .inr (.inr (.inr (.inr g2_))))), (a3, .inr (2, [.int x3_0, v3_1, .ref a10, v3_3, .ref r0, v3_5, .ref a7, .ref a9, v3_8, .int 0])), (a4, .inr (5, [.int 0, .int 0, .int 0, v4_3, v4_4, .ref a8, v4_6, v4_7, v4_8, v4_9, v4_10, v4_11])), (a5, .inr (4, [.ref a6, .int x5_1, .int 0, .int x5_3, v5_4])), (a6, .inl (cy 0, 12, .inl zI)), (a7, .inl (cy 0, 12, .inl zI)), (a8, .inl (cy 0, 10, .inl zI)), (a9, .inl (cy 0, 10, .inl zI)), (a10, .inl (cy 0, 10, .inl zI))] := hD
  refine lv_aload_n hx hb dX8_depth_0 rfl (lv_at hl 0 rfl) ?_
  refine clVI (As := []) (rest := []) (wr := []) ⟨hx, hb, hml, hown, hts⟩ hK hP hD hS hA (k_X8_standingNow_0 l D cy a0 a1 a2 a3 a4 a5 a6 a7 a8 a9 a10 r0 (v0_0) (v0_3) (v0_4) (v0_5) (v0_7) (v0_8) (v0_9) (v0_10) (v0_11) (v0_12) (v1_2) (v1_3) g2_ x3_0 (v3_1) (v3_3) (v3_5) (v3_8) (v4_3) (v4_4) (v4_6) (v4_7) (v4_8) (v4_9) (v4_10) (v4_11) x5_1 x5_3 (v5_4) _ hf2_0) (cwV 0 hts gX8_depth_X8_standingNow rfl rfl rfl (by decide +kernel) ⟨Nat.le_of_ble_eq_true rfl, Nat.le_of_ble_eq_true rfl⟩) 0 8 rfl rfl [0, 1, 2, 3, 4, 5, 6, 7, 8, 9, 10] [] rfl rfl rfl rfl (by decide) rfl hl.1 rfl (Nat.le_of_ble_eq_true rfl) dX8_depth_1 ⟨Nat.le_of_ble_eq_true rfl, Nat.le_of_ble_eq_true rfl⟩ rfl rfl (fun r _ H locs hw hP hD hS => ?_)
  have hP : va_P D vwCl [(a0, .inr (8, [v0_0, .ref a4, .ref a1, v0_3, v0_4, v0_5, .ref a3, v0_7, v0_8, v0_9, v0_10, v0_11, v0_12])), (a1, .inr (0, [.ref a2, .int 0, v1_2, v1_3])), (a2, .inl (cy 4, 41, .inr (.inr (.inr (.inr g2_))))), (a3, .inr (2, [.int 0, v3_1, .ref a10, v3_3, .ref a4, .int x5_3, .ref a7, .ref a9, v3_8, .int 1])), (a4, .inr (5, [.int 0, .int 0, .int 0, v4_3, v4_4, .ref a8, v4_6, v4_7, v4_8, v4_9, v4_10, v4_11])), (a5, .inr (4, [.ref a6, .int x5_1, .int 0, .int x5_3, v5_4])), (a6, .inl (cy 0, 12, .inl zI)), (a7, .inl (cy 0, 12, .inl zI)), (a8, .inl (cy 0, 10, .inl zI)), (a9, .inl (cy 0, 10, .inl zI)), (a10, .inl (cy 0, 10, .inl zI))] H := hP
  have hD : va_D A [(a0, .inr (8, [v0_0, .ref a4, .ref a1, v0_3, v0_4, v0_5, .ref a3, v0_7, v0_8, v0_9, v0_10, v0_11, v0_12])), (a1, .inr (0, [.ref a2, .int 0, v1_2, v1_3])), (a2, .inl (cy 4, 41, .inr (.inr (.inr (.inr g2_))))), (a3, .inr (2, [.int 0, v3_1, .ref a10, v3_3, .ref a4, .int x5_3, .ref a7, .ref a9, v3_8, .int 1])), (a4, .inr (5, [.int 0, .int 0, .int 0, v4_3, v4_4, .ref a8, v4_6, v4_7, v4_8, v4_9, v4_10, v4_11])), (a5, .inr (4, [.ref a6, .int x5_1, .int 0, .int x5_3, v5_4])), (a6, .inl (cy 0, 12, .inl zI)), (a7, .inl (cy 0, 12, .inl zI)), (a8, .inl (cy 0, 10, .inl zI)), (a9, .inl (cy 0, 10, .inl zI)), (a10, .inl (cy 0, 10, .inl zI))] := hD
  obtain rfl : r = 0 := hw
  refine lv_istore_n (lv' := [(1, .int 0), (0, .ref a0)]) hx hb dX8_depth_4 rfl hl (by decide) rfl (fun ls hl => ?_)
  refine lv_iconst (v := (-1)) hx hb dX8_depth_5 (by decide) ?_
  refine lv_istore_n (lv' := [(2, .int (-1)), (1, .int 0), (0, .ref a0)]) hx hb dX8_depth_6 rfl hl (by decide) rfl (fun ls hl => ?_)
  refine lv_iconst (v := 0) hx hb dX8_depth_7 (by decide) ?_
  refine lv_istore_n (lv' := [(3, .int 0), (2, .int (-1)), (1, .int 0), (0, .ref a0)]) hx hb dX8_depth_8 rfl hl (by decide) rfl (fun ls hl => ?_)
  refine lv_iload_n hx hb dX8_depth_9 rfl (lv_at hl 0 rfl) ?_
  refine lv_aload_n hx hb dX8_depth_10 rfl (lv_at hl 3 rfl) ?_
  refine va_get (D := D) (cl := vwCl) (ci := 8) (v := .ref a4) (C := RX8) (T := TX8) (N := 13) hx hb hts in_X8_depth_X8 hown hK hP 0 rfl rfl 1 (by decide) (hts (.fieldLink RX8 19 "EightReasons" "told" "LEightReasons$Suit;") (List.mem_of_getElem? (i := 1) (by decide +kernel))) (fun _ h9 => h9) rfl dX8_depth_11 ?_
  refine va_get (D := D) (cl := vwCl) (ci := 5) (v := .int 0) (C := RX5) (T := TX5) (N := 12) hx hb hts in_X8_depth_X5 hown hK hP 4 rfl rfl 0 (by decide) (hts (.fieldLink RX8 105 "EightReasons$Suit" "points" "I") (List.mem_of_getElem? (i := 2) (by decide +kernel))) (fun _ h9 => h9) rfl dX8_depth_14 ?_
  refine lv_icmp_ge (tgt := 48) hx hb dX8_depth_17 (by decide) (fun _ => ?_) (fun c => absurd (by decide) c)
  refine lv_iload_n hx hb dX8_depth_48 rfl (lv_at hl 1 rfl) ?_
  exact rtI hx hb hr hlk rfl hP hD hS () [] rfl rfl rfl dX8_depth_49
set_option maxHeartbeats 4000000 in
set_option maxRecDepth 100000 in
theorem k_X9_depth_0 (l : Launch) (D : va_G) (cy : Nat → ClassId) (a0 a1 a2 a3 : Nat) (v0_0 : Value) (v0_1 : Value) (v0_2 : Value) (v0_3 : Value) (v0_4 : Value) (v0_5 : Value) (v0_6 : Value) (v0_7 : Value) (v0_8 : Value) (v0_9 : Value) (v0_10 : Value) (v0_13 : Value) (v0_14 : Value) (v0_15 : Value) (v0_16 : Value) (v0_17 : Value) (v0_18 : Value) (v0_19 : Value) (v0_20 : Value) (v0_21 : Value) (v0_22 : Value) (v0_23 : Value) (v0_24 : Value) (v0_25 : Value) (v0_26 : Value) (v0_27 : Value) (v0_28 : Value) (v0_30 : Value) (v0_31 : Value) (v0_32 : Value) (v0_33 : Value) (v0_34 : Value) (v0_35 : Value) (v0_36 : Value) (v0_38 : Value) (v0_39 : Value) (v0_40 : Value) (v0_41 : Value) (v0_42 : Value) (v0_43 : Value) (v0_44 : Value) (v0_45 : Value) (v0_46 : Value) (v0_47 : Value) (v0_48 : Value) (v0_49 : Value) (v0_50 : Value) (v0_51 : Value) (v0_52 : Value) (v0_53 : Value) (v0_54 : Value) (v0_55 : Value) (v0_56 : Value) (v0_57 : Value) (v0_58 : Value) (v0_59 : Value) (v0_60 : Value) (v0_61 : Value) (v0_62 : Value) (v0_63 : Value) (sz : Nat) : CtI l yX9_depth wsX9_depth 4 89 [.ref a0] D cy [(a0, .inr (9, [v0_0, v0_1, v0_2, v0_3, v0_4, v0_5, v0_6, v0_7, v0_8, v0_9, v0_10, .ref a3, .ref a2, v0_13, v0_14, v0_15, v0_16, v0_17, v0_18, v0_19, v0_20, v0_21, v0_22, v0_23, v0_24, v0_25, v0_26, v0_27, v0_28, .int 0, v0_30, v0_31, v0_32, v0_33, v0_34, v0_35, v0_36, .ref a1, v0_38, v0_39, v0_40, v0_41, v0_42, v0_43, v0_44, v0_45, v0_46, v0_47, v0_48, v0_49, v0_50, v0_51, v0_52, v0_53, v0_54, v0_55, v0_56, v0_57, v0_58, v0_59, v0_60, v0_61, v0_62, v0_63])), (a1, .inl (cy 0, 16, .inl zI)), (a2, .inl (cy 0, 2, .inl zI)), (a3, .inl (cy 0, 2, .inl zI))] sz 0 0 (fun (r : Int32) (_ : Unit) => r = (-1)) (fun _ => []) := by
  refine CtI.of (cc := cX9_depth) (maxL := 4) (ty := .int) (own := RX9) (by decide) rfl (Nat.le_of_ble_eq_true rfl) rfl ?_
  intro p e s m below meth c A ls hx hb hr hml hts hown hlk hK hP hD hS hA hl
  have hl : lv_has ls 4 [(0, .ref a0)] := hl
  refine st0 (fun H locs hP hS => ?_) hP hS
  have hP : va_P D vwCl [(a0, .inr (9, [v0_0, v0_1, v0_2, v0_3, v0_4, v0_5, v0_6, v0_7, v0_8, v0_9, v0_10, .ref a3, .ref a2, v0_13, v0_14, v0_15, v0_16, v0_17, v0_18, v0_19, v0_20, v0_21, v0_22, v0_23, v0_24, v0_25, v0_26, v0_27, v0_28, .int 0, v0_30, v0_31, v0_32, v0_33, v0_34, v0_35, v0_36, .ref a1, v0_38, v0_39, v0_40, v0_41, v0_42, v0_43, v0_44, v0_45, v0_46, v0_47, v0_48, v0_49, v0_50, v0_51, v0_52, v0_53, v0_54, v0_55, v0_56, v0_57, v0_58, v0_59, v0_60, v0_61, v0_62, v0_63])), (a1, .inl (cy 0, 16, .inl zI)), (a2, .inl (cy 0, 2, .inl zI)), (a3, .inl (cy 0, 2, .inl zI))] H := hP
  have hD : va_D A [(a0, .inr (9, [v0_0, v0_1, v0_2, v0_3, v0_4, v0_5, v0_6, v0_7, v0_8, v0_9, v0_10, .ref a3, .ref a2, v0_13, v0_14, v0_15, v0_16, v0_17, v0_18, v0_19, v0_20, v0_21, v0_22, v0_23, v0_24, v0_25, v0_26, v0_27, v0_28, .int 0, v0_30, v0_31, v0_32, v0_33, v0_34, v0_35, v0_36, .ref a1, v0_38, v0_39, v0_40, v0_41, v0_42, v0_43, v0_44, v0_45, v0_46, v0_47, v0_48, v0_49, v0_50, v0_51, v0_52, v0_53, v0_54, v0_55, v0_56, v0_57, v0_58, v0_59, v0_60, v0_61, v0_62, v0_63])), (a1, .inl (cy 0, 16, .inl zI)), (a2, .inl (cy 0, 2, .inl zI)), (a3, .inl (cy 0, 2, .inl zI))] := hD
  refine lv_aload_n hx hb dX9_depth_0 rfl (lv_at hl 0 rfl) ?_
  refine clVI (As := []) (rest := []) (wr := []) ⟨hx, hb, hml, hown, hts⟩ hK hP hD hS hA (k_X9_standNow_0 l D cy a0 a1 a2 a3 (v0_0) (v0_1) (v0_2) (v0_3) (v0_4) (v0_5) (v0_6) (v0_7) (v0_8) (v0_9) (v0_10) (v0_13) (v0_14) (v0_15) (v0_16) (v0_17) (v0_18) (v0_19) (v0_20) (v0_21) (v0_22) (v0_23) (v0_24) (v0_25) (v0_26) (v0_27) (v0_28) (v0_30) (v0_31) (v0_32) (v0_33) (v0_34) (v0_35) (v0_36) (v0_38) (v0_39) (v0_40) (v0_41) (v0_42) (v0_43) (v0_44) (v0_45) (v0_46) (v0_47) (v0_48) (v0_49) (v0_50) (v0_51) (v0_52) (v0_53) (v0_54) (v0_55) (v0_56) (v0_57) (v0_58) (v0_59) (v0_60) (v0_61) (v0_62) (v0_63) _) (cwV 0 hts gX9_depth_X9_standNow rfl rfl rfl (by decide +kernel) ⟨Nat.le_of_ble_eq_true rfl, Nat.le_of_ble_eq_true rfl⟩) 0 9 rfl rfl [0, 1, 2, 3] [] rfl rfl rfl rfl (by decide) rfl hl.1 rfl (Nat.le_of_ble_eq_true rfl) dX9_depth_1 ⟨Nat.le_of_ble_eq_true rfl, Nat.le_of_ble_eq_true rfl⟩ rfl rfl (fun r _ H locs hw hP hD hS => ?_)
  have hP : va_P D vwCl [(a0, .inr (9, [v0_0, v0_1, v0_2, v0_3, v0_4, v0_5, v0_6, v0_7, v0_8, v0_9, v0_10, .ref a3, .ref a2, v0_13, v0_14, v0_15, v0_16, v0_17, v0_18, v0_19, v0_20, v0_21, v0_22, v0_23, v0_24, v0_25, v0_26, v0_27, v0_28, .int 0, v0_30, v0_31, v0_32, v0_33, v0_34, v0_35, .int 0, .ref a1, v0_38, v0_39, v0_40, v0_41, v0_42, v0_43, v0_44, v0_45, v0_46, v0_47, v0_48, v0_49, v0_50, v0_51, v0_52, v0_53, v0_54, v0_55, v0_56, v0_57, v0_58, v0_59, v0_60, v0_61, v0_62, v0_63])), (a1, .inl (cy 0, 16, .inl zI)), (a2, .inl (cy 0, 2, .inl zI)), (a3, .inl (cy 0, 2, .inl zI))] H := hP
  have hD : va_D A [(a0, .inr (9, [v0_0, v0_1, v0_2, v0_3, v0_4, v0_5, v0_6, v0_7, v0_8, v0_9, v0_10, .ref a3, .ref a2, v0_13, v0_14, v0_15, v0_16, v0_17, v0_18, v0_19, v0_20, v0_21, v0_22, v0_23, v0_24, v0_25, v0_26, v0_27, v0_28, .int 0, v0_30, v0_31, v0_32, v0_33, v0_34, v0_35, .int 0, .ref a1, v0_38, v0_39, v0_40, v0_41, v0_42, v0_43, v0_44, v0_45, v0_46, v0_47, v0_48, v0_49, v0_50, v0_51, v0_52, v0_53, v0_54, v0_55, v0_56, v0_57, v0_58, v0_59, v0_60, v0_61, v0_62, v0_63])), (a1, .inl (cy 0, 16, .inl zI)), (a2, .inl (cy 0, 2, .inl zI)), (a3, .inl (cy 0, 2, .inl zI))] := hD
  obtain rfl : r = 0 := hw
  refine lv_istore_n (lv' := [(1, .int 0), (0, .ref a0)]) hx hb dX9_depth_4 rfl hl (by decide) rfl (fun ls hl => ?_)
  refine lv_iconst (v := (-1)) hx hb dX9_depth_5 (by decide) ?_
  refine lv_istore_n (lv' := [(2, .int (-1)), (1, .int 0), (0, .ref a0)]) hx hb dX9_depth_6 rfl hl (by decide) rfl (fun ls hl => ?_)
  refine lv_iconst (v := 0) hx hb dX9_depth_7 (by decide) ?_
  refine lv_istore_n (lv' := [(3, .int 0), (2, .int (-1)), (1, .int 0), (0, .ref a0)]) hx hb dX9_depth_8 rfl hl (by decide) rfl (fun ls hl => ?_)
  refine lv_iload_n hx hb dX9_depth_9 rfl (lv_at hl 0 rfl) ?_
  refine lv_aload_n hx hb dX9_depth_10 rfl (lv_at hl 3 rfl) ?_
  refine clVI (As := []) (rest := [.int 0]) (wr := [(a1, .inl (cy 0, 16, .inl zI)), (a2, .inl (cy 0, 2, .inl zI))]) ⟨hx, hb, hml, hown, hts⟩ hK hP hD hS hA (k_X9_many_0 l D cy a0 a3 (v0_0) (v0_1) (v0_2) (v0_3) (v0_4) (v0_5) (v0_6) (v0_7) (v0_8) (v0_9) (v0_10) (.ref a2) (v0_13) (v0_14) (v0_15) (v0_16) (v0_17) (v0_18) (v0_19) (v0_20) (v0_21) (v0_22) (v0_23) (v0_24) (v0_25) (v0_26) (v0_27) (v0_28) (v0_30) (v0_31) (v0_32) (v0_33) (v0_34) (v0_35) (.int 0) (.ref a1) (v0_38) (v0_39) (v0_40) (v0_41) (v0_42) (v0_43) (v0_44) (v0_45) (v0_46) (v0_47) (v0_48) (v0_49) (v0_50) (v0_51) (v0_52) (v0_53) (v0_54) (v0_55) (v0_56) (v0_57) (v0_58) (v0_59) (v0_60) (v0_61) (v0_62) (v0_63) _) (cwV 0 hts gX9_depth_X9_many rfl rfl rfl (by decide +kernel) ⟨Nat.le_of_ble_eq_true rfl, Nat.le_of_ble_eq_true rfl⟩) 0 9 rfl rfl [0, 3] [1, 2] rfl rfl rfl rfl (by decide) rfl hl.1 rfl (Nat.le_of_ble_eq_true rfl) dX9_depth_11 ⟨Nat.le_of_ble_eq_true rfl, Nat.le_of_ble_eq_true rfl⟩ rfl rfl (fun r _ H locs hw hP hD hS => ?_)
  have hP : va_P D vwCl [(a1, .inl (cy 0, 16, .inl zI)), (a2, .inl (cy 0, 2, .inl zI)), (a0, .inr (9, [v0_0, v0_1, v0_2, v0_3, v0_4, v0_5, v0_6, v0_7, v0_8, v0_9, v0_10, .ref a3, .ref a2, v0_13, v0_14, v0_15, v0_16, v0_17, v0_18, v0_19, v0_20, v0_21, v0_22, v0_23, v0_24, v0_25, v0_26, v0_27, v0_28, .int 0, v0_30, v0_31, v0_32, v0_33, v0_34, v0_35, .int 0, .ref a1, v0_38, v0_39, v0_40, v0_41, v0_42, v0_43, v0_44, v0_45, v0_46, v0_47, v0_48, v0_49, v0_50, v0_51, v0_52, v0_53, v0_54, v0_55, v0_56, v0_57, v0_58, v0_59, v0_60, v0_61, v0_62, v0_63])), (a3, .inl (cy 0, 2, .inl zI))] H := hP
  have hD : va_D A [(a1, .inl (cy 0, 16, .inl zI)), (a2, .inl (cy 0, 2, .inl zI)), (a0, .inr (9, [v0_0, v0_1, v0_2, v0_3, v0_4, v0_5, v0_6, v0_7, v0_8, v0_9, v0_10, .ref a3, .ref a2, v0_13, v0_14, v0_15, v0_16, v0_17, v0_18, v0_19, v0_20, v0_21, v0_22, v0_23, v0_24, v0_25, v0_26, v0_27, v0_28, .int 0, v0_30, v0_31, v0_32, v0_33, v0_34, v0_35, .int 0, .ref a1, v0_38, v0_39, v0_40, v0_41, v0_42, v0_43, v0_44, v0_45, v0_46, v0_47, v0_48, v0_49, v0_50, v0_51, v0_52, v0_53, v0_54, v0_55, v0_56, v0_57, v0_58, v0_59, v0_60, v0_61, v0_62, v0_63])), (a3, .inl (cy 0, 2, .inl zI))] := hD
  obtain rfl : r = 0 := hw
  refine lv_icmp_ge (tgt := 48) hx hb dX9_depth_14 (by decide) (fun _ => ?_) (fun c => absurd (by decide) c)
  refine lv_iload_n hx hb dX9_depth_48 rfl (lv_at hl 1 rfl) ?_
  exact rtI hx hb hr hlk rfl hP hD hS () [] rfl rfl rfl dX9_depth_49
set_option maxHeartbeats 4000000 in
set_option maxRecDepth 100000 in
theorem k_X8_weakest_0 (l : Launch) (D : va_G) (cy : Nat → ClassId) (a0 a1 a2 a3 a4 a5 a6 a7 a8 a9 r0 : Nat) (v0_0 : Value) (v0_3 : Value) (v0_4 : Value) (v0_5 : Value) (v0_7 : Value) (v0_8 : Value) (v0_9 : Value) (v0_10 : Value) (v0_11 : Value) (v0_12 : Value) (v1_2 : Value) (v1_3 : Value) (g2_ : Nat → Option Nat) (v3_0 : Value) (v3_1 : Value) (v3_2 : Value) (v3_3 : Value) (v3_5 : Value) (v3_8 : Value) (v4_0 : Value) (v4_3 : Value) (v4_4 : Value) (v4_6 : Value) (v4_7 : Value) (v4_8 : Value) (v4_9 : Value) (v4_10 : Value) (v4_11 : Value) (x5_1 : Int32) (x5_3 : Int32) (v5_4 : Value) (sz : Nat) (hf2_0 : g2_ 0 = some a5) : CtI l yX8_weakest wsX8_weakest 3 102 [.ref a0] D cy [(a0, .inr (8, [v0_0, .ref a4, .ref a1, v0_3, v0_4, v0_5, .ref a3, v0_7, v0_8, v0_9, v0_10, v0_11, v0_12])), (a1, .inr (0, [.ref a2, .int 0, v1_2, v1_3])), (a2, .inl (cy 4, 41, .inr (.inr (.inr (.inr g2_))))), (a3, .inr (2, [v3_0, v3_1, v3_2, v3_3, .ref r0, v3_5, .ref a7, .ref a9, v3_8, .int 0])), (a4, .inr (5, [v4_0, .int 0, .int 0, v4_3, v4_4, .ref a8, v4_6, v4_7, v4_8, v4_9, v4_10, v4_11])), (a5, .inr (4, [.ref a6, .int x5_1, .int 0, .int x5_3, v5_4])), (a6, .inl (cy 0, 12, .inl zI)), (a7, .inl (cy 0, 12, .inl zI)), (a8, .inl (cy 0, 10, .inl zI)), (a9, .inl (cy 0, 10, .inl zI))] sz 0 0 (fun (r : Int32) (_ : Unit) => r = (-1)) (fun _ => []) := by
  refine CtI.of (cc := cX8_weakest) (maxL := 4) (ty := .int) (own := RX8) (by decide) rfl (Nat.le_of_ble_eq_true rfl) rfl ?_
  intro p e s m below meth c A ls hx hb hr hml hts hown hlk hK hP hD hS hA hl
  have hl : lv_has ls 4 [(0, .ref a0)] := hl
  refine st0 (fun H locs hP hS => ?_) hP hS
  have hP : va_P D vwCl [(a0, .inr (8, [v0_0, .ref a4, .ref a1, v0_3, v0_4, v0_5, .ref a3, v0_7, v0_8, v0_9, v0_10, v0_11, v0_12])), (a1, .inr (0, [.ref a2, .int 0, v1_2, v1_3])), (a2, .inl (cy 4, 41, .inr (.inr (.inr (.inr g2_))))), (a3, .inr (2, [v3_0, v3_1, v3_2, v3_3, .ref r0, v3_5, .ref a7, .ref a9, v3_8, .int 0])), (a4, .inr (5, [v4_0, .int 0, .int 0, v4_3, v4_4, .ref a8, v4_6, v4_7, v4_8, v4_9, v4_10, v4_11])), (a5, .inr (4, [.ref a6, .int x5_1, .int 0, .int x5_3, v5_4])), (a6, .inl (cy 0, 12, .inl zI)), (a7, .inl (cy 0, 12, .inl zI)), (a8, .inl (cy 0, 10, .inl zI)), (a9, .inl (cy 0, 10, .inl zI))] H := hP
  have hD : va_D A [(a0, .inr (8, [v0_0, .ref a4, .ref a1, v0_3, v0_4, v0_5, .ref a3, v0_7, v0_8, v0_9, v0_10, v0_11, v0_12])), (a1, .inr (0, [.ref a2, .int 0, v1_2, v1_3])), (a2, .inl (cy 4, 41, .inr (.inr (.inr (.inr g2_))))), (a3, .inr (2, [v3_0, v3_1, v3_2, v3_3, .ref r0, v3_5, .ref a7, .ref a9, v3_8, .int 0])), (a4, .inr (5, [v4_0, .int 0, .int 0, v4_3, v4_4, .ref a8, v4_6, v4_7, v4_8, v4_9, v4_10, v4_11])), (a5, .inr (4, [.ref a6, .int x5_1, .int 0, .int x5_3, v5_4])), (a6, .inl (cy 0, 12, .inl zI)), (a7, .inl (cy 0, 12, .inl zI)), (a8, .inl (cy 0, 10, .inl zI)), (a9, .inl (cy 0, 10, .inl zI))] := hD
  refine lv_aload_n hx hb dX8_weakest_0 rfl (lv_at hl 0 rfl) ?_
  refine clVV (As := []) (rest := []) (wr := []) ⟨hx, hb, hml, hown, hts⟩ hK hP hD hS hA (k_X8_look_0 l D cy a0 a1 a2 a3 a4 a5 a6 a7 a8 a9 (v0_0) (v0_3) (v0_4) (v0_5) (v0_7) (v0_8) (v0_9) (v0_10) (v0_11) (v0_12) (v1_2) (v1_3) g2_ (v3_0) (v3_1) (v3_2) (v3_3) (.ref r0) (v3_5) (v3_8) (v4_0) (.int 0) (v4_3) (v4_4) (v4_6) (v4_7) (v4_8) (v4_9) (v4_10) (v4_11) (.int x5_1) x5_3 (v5_4) _ hf2_0) (cwV 0 hts gX8_weakest_X8_look rfl rfl rfl (by decide +kernel) ⟨Nat.le_of_ble_eq_true rfl, Nat.le_of_ble_eq_true rfl⟩) 0 8 rfl rfl [0, 1, 2, 3, 4, 5, 6, 7, 8, 9] [] rfl rfl rfl rfl (by decide) rfl hl.1 rfl (Nat.le_of_ble_eq_true rfl) dX8_weakest_1 ⟨Nat.le_of_ble_eq_true rfl, Nat.le_of_ble_eq_true rfl⟩ rfl rfl (fun _ H locs _ hP hD hS => ?_)
  have hP : va_P D vwCl [(a0, .inr (8, [v0_0, .ref a4, .ref a1, v0_3, v0_4, v0_5, .ref a3, v0_7, v0_8, v0_9, v0_10, v0_11, v0_12])), (a1, .inr (0, [.ref a2, .int 0, v1_2, v1_3])), (a2, .inl (cy 4, 41, .inr (.inr (.inr (.inr g2_))))), (a3, .inr (2, [.int 0, v3_1, v3_2, v3_3, .ref a4, .int x5_3, .ref a7, .ref a9, v3_8, .int 1])), (a4, .inr (5, [v4_0, .int 0, .int 0, v4_3, v4_4, .ref a8, v4_6, v4_7, v4_8, v4_9, v4_10, v4_11])), (a5, .inr (4, [.ref a6, .int x5_1, .int 0, .int x5_3, v5_4])), (a6, .inl (cy 0, 12, .inl zI)), (a7, .inl (cy 0, 12, .inl zI)), (a8, .inl (cy 0, 10, .inl zI)), (a9, .inl (cy 0, 10, .inl zI))] H := hP
  have hD : va_D A [(a0, .inr (8, [v0_0, .ref a4, .ref a1, v0_3, v0_4, v0_5, .ref a3, v0_7, v0_8, v0_9, v0_10, v0_11, v0_12])), (a1, .inr (0, [.ref a2, .int 0, v1_2, v1_3])), (a2, .inl (cy 4, 41, .inr (.inr (.inr (.inr g2_))))), (a3, .inr (2, [.int 0, v3_1, v3_2, v3_3, .ref a4, .int x5_3, .ref a7, .ref a9, v3_8, .int 1])), (a4, .inr (5, [v4_0, .int 0, .int 0, v4_3, v4_4, .ref a8, v4_6, v4_7, v4_8, v4_9, v4_10, v4_11])), (a5, .inr (4, [.ref a6, .int x5_1, .int 0, .int x5_3, v5_4])), (a6, .inl (cy 0, 12, .inl zI)), (a7, .inl (cy 0, 12, .inl zI)), (a8, .inl (cy 0, 10, .inl zI)), (a9, .inl (cy 0, 10, .inl zI))] := hD
  refine lv_aload_n hx hb dX8_weakest_4 rfl (lv_at hl 0 rfl) ?_
  refine va_get (D := D) (cl := vwCl) (ci := 8) (v := .ref a3) (C := RX8) (T := TX8) (N := 13) hx hb hts in_X8_weakest_X8 hown hK hP 0 rfl rfl 6 (by decide) (hts (.fieldLink RX8 44 "EightReasons" "loom" "LEightReasons$Loom;") (List.mem_of_getElem? (i := 1) (by decide +kernel))) (fun _ h9 => h9) rfl dX8_weakest_5 ?_
  refine lv_aload_n hx hb dX8_weakest_8 rfl (lv_at hl 0 rfl) ?_
  refine clVR (As := []) (rest := [.ref a3]) (wr := [(a3, .inr (2, [.int 0, v3_1, v3_2, v3_3, .ref a4, .int x5_3, .ref a7, .ref a9, v3_8, .int 1])), (a4, .inr (5, [v4_0, .int 0, .int 0, v4_3, v4_4, .ref a8, v4_6, v4_7, v4_8, v4_9, v4_10, v4_11])), (a5, .inr (4, [.ref a6, .int x5_1, .int 0, .int x5_3, v5_4])), (a6, .inl (cy 0, 12, .inl zI)), (a7, .inl (cy 0, 12, .inl zI)), (a8, .inl (cy 0, 10, .inl zI)), (a9, .inl (cy 0, 10, .inl zI))]) ⟨hx, hb, hml, hown, hts⟩ hK hP hD hS hA (k_X8_now_0 l D cy a0 a1 a2 a5 (v0_0) (.ref a4) (v0_3) (v0_4) (v0_5) (.ref a3) (v0_7) (v0_8) (v0_9) (v0_10) (v0_11) (v0_12) (v1_2) (v1_3) g2_ _ hf2_0) (cwV 0 hts gX8_weakest_X8_now rfl rfl rfl (by decide +kernel) ⟨Nat.le_of_ble_eq_true rfl, Nat.le_of_ble_eq_true rfl⟩) 0 8 rfl rfl [0, 1, 2] [3, 4, 5, 6, 7, 8, 9] rfl rfl rfl rfl (by decide) rfl hl.1 rfl (Nat.le_of_ble_eq_true rfl) dX8_weakest_9 ⟨Nat.le_of_ble_eq_true rfl, Nat.le_of_ble_eq_true rfl⟩ rfl rfl (fun _ H locs _ hP hD hS => ?_)
  have hP : va_P D vwCl [(a3, .inr (2, [.int 0, v3_1, v3_2, v3_3, .ref a4, .int x5_3, .ref a7, .ref a9, v3_8, .int 1])), (a4, .inr (5, [v4_0, .int 0, .int 0, v4_3, v4_4, .ref a8, v4_6, v4_7, v4_8, v4_9, v4_10, v4_11])), (a5, .inr (4, [.ref a6, .int x5_1, .int 0, .int x5_3, v5_4])), (a6, .inl (cy 0, 12, .inl zI)), (a7, .inl (cy 0, 12, .inl zI)), (a8, .inl (cy 0, 10, .inl zI)), (a9, .inl (cy 0, 10, .inl zI)), (a0, .inr (8, [v0_0, .ref a4, .ref a1, v0_3, v0_4, v0_5, .ref a3, v0_7, v0_8, v0_9, v0_10, v0_11, v0_12])), (a1, .inr (0, [.ref a2, .int 0, v1_2, v1_3])), (a2, .inl (cy 4, 41, .inr (.inr (.inr (.inr g2_)))))] H := hP
  have hD : va_D A [(a3, .inr (2, [.int 0, v3_1, v3_2, v3_3, .ref a4, .int x5_3, .ref a7, .ref a9, v3_8, .int 1])), (a4, .inr (5, [v4_0, .int 0, .int 0, v4_3, v4_4, .ref a8, v4_6, v4_7, v4_8, v4_9, v4_10, v4_11])), (a5, .inr (4, [.ref a6, .int x5_1, .int 0, .int x5_3, v5_4])), (a6, .inl (cy 0, 12, .inl zI)), (a7, .inl (cy 0, 12, .inl zI)), (a8, .inl (cy 0, 10, .inl zI)), (a9, .inl (cy 0, 10, .inl zI)), (a0, .inr (8, [v0_0, .ref a4, .ref a1, v0_3, v0_4, v0_5, .ref a3, v0_7, v0_8, v0_9, v0_10, v0_11, v0_12])), (a1, .inr (0, [.ref a2, .int 0, v1_2, v1_3])), (a2, .inl (cy 4, 41, .inr (.inr (.inr (.inr g2_)))))] := hD
  refine W.eq (g2 := F0 m 12 ls (.ref a5 :: [.ref a3])) rfl ?_
  refine va_get (D := D) (cl := vwCl) (ci := 4) (v := .int x5_1) (C := RX4) (T := TX4) (N := 5) hx hb hts in_X8_weakest_X4 hown hK hP 2 rfl rfl 1 (by decide) (hts (.fieldLink RX8 145 "EightReasons$State" "tied" "I") (List.mem_of_getElem? (i := 2) (by decide +kernel))) (fun _ h9 => h9) rfl dX8_weakest_12 ?_
  refine clVV (As := [.int x5_1]) (rest := []) (wr := [(a5, .inr (4, [.ref a6, .int x5_1, .int 0, .int x5_3, v5_4])), (a6, .inl (cy 0, 12, .inl zI)), (a7, .inl (cy 0, 12, .inl zI)), (a8, .inl (cy 0, 10, .inl zI)), (a9, .inl (cy 0, 10, .inl zI)), (a0, .inr (8, [v0_0, .ref a4, .ref a1, v0_3, v0_4, v0_5, .ref a3, v0_7, v0_8, v0_9, v0_10, v0_11, v0_12])), (a1, .inr (0, [.ref a2, .int 0, v1_2, v1_3])), (a2, .inl (cy 4, 41, .inr (.inr (.inr (.inr g2_)))))]) ⟨hx, hb, hml, hown, hts⟩ hK hP hD hS hA (k_X2_weigh_0 l D cy a3 a4 (.int 0) (v3_1) (v3_2) (v3_3) (.int x5_3) (.ref a7) (.ref a9) (v3_8) (.int 1) (v4_0) (.int 0) (v4_3) (v4_4) (.ref a8) (v4_6) (v4_7) (v4_8) (v4_9) (v4_10) (v4_11) x5_1 _) (cwV 1 hts gX8_weakest_X2_weigh rfl rfl rfl (by decide +kernel) ⟨Nat.le_of_ble_eq_true rfl, Nat.le_of_ble_eq_true rfl⟩) 0 2 rfl rfl [0, 1] [2, 3, 4, 5, 6, 7, 8, 9] rfl rfl rfl rfl (by decide) rfl hl.1 rfl (Nat.le_of_ble_eq_true rfl) dX8_weakest_15 ⟨Nat.le_of_ble_eq_true rfl, Nat.le_of_ble_eq_true rfl⟩ rfl rfl (fun _ H locs _ hP hD hS => ?_)
  have hP : va_P D vwCl [(a5, .inr (4, [.ref a6, .int x5_1, .int 0, .int x5_3, v5_4])), (a6, .inl (cy 0, 12, .inl zI)), (a7, .inl (cy 0, 12, .inl zI)), (a8, .inl (cy 0, 10, .inl zI)), (a9, .inl (cy 0, 10, .inl zI)), (a0, .inr (8, [v0_0, .ref a4, .ref a1, v0_3, v0_4, v0_5, .ref a3, v0_7, v0_8, v0_9, v0_10, v0_11, v0_12])), (a1, .inr (0, [.ref a2, .int 0, v1_2, v1_3])), (a2, .inl (cy 4, 41, .inr (.inr (.inr (.inr g2_))))), (a3, .inr (2, [.int 0, v3_1, v3_2, v3_3, .ref a4, .int x5_3, .ref a7, .ref a9, v3_8, .int 1])), (a4, .inr (5, [v4_0, .int 0, .int 0, v4_3, v4_4, .ref a8, v4_6, v4_7, v4_8, v4_9, v4_10, v4_11]))] H := hP
  have hD : va_D A [(a5, .inr (4, [.ref a6, .int x5_1, .int 0, .int x5_3, v5_4])), (a6, .inl (cy 0, 12, .inl zI)), (a7, .inl (cy 0, 12, .inl zI)), (a8, .inl (cy 0, 10, .inl zI)), (a9, .inl (cy 0, 10, .inl zI)), (a0, .inr (8, [v0_0, .ref a4, .ref a1, v0_3, v0_4, v0_5, .ref a3, v0_7, v0_8, v0_9, v0_10, v0_11, v0_12])), (a1, .inr (0, [.ref a2, .int 0, v1_2, v1_3])), (a2, .inl (cy 4, 41, .inr (.inr (.inr (.inr g2_))))), (a3, .inr (2, [.int 0, v3_1, v3_2, v3_3, .ref a4, .int x5_3, .ref a7, .ref a9, v3_8, .int 1])), (a4, .inr (5, [v4_0, .int 0, .int 0, v4_3, v4_4, .ref a8, v4_6, v4_7, v4_8, v4_9, v4_10, v4_11]))] := hD
  refine lv_iconst (v := (-1)) hx hb dX8_weakest_18 (by decide) ?_
  refine lv_istore_n (lv' := [(1, .int (-1)), (0, .ref a0)]) hx hb dX8_weakest_19 rfl hl (by decide) rfl (fun ls hl => ?_)
  refine lv_sipush (v := 1000) hx hb dX8_weakest_20 (by decide) ?_
  refine lv_istore_n (lv' := [(2, .int 1000), (1, .int (-1)), (0, .ref a0)]) hx hb dX8_weakest_23 rfl hl (by decide) rfl (fun ls hl => ?_)
  refine lv_iconst (v := 0) hx hb dX8_weakest_24 (by decide) ?_
  refine lv_istore_n (lv' := [(3, .int 0), (2, .int 1000), (1, .int (-1)), (0, .ref a0)]) hx hb dX8_weakest_25 rfl hl (by decide) rfl (fun ls hl => ?_)
  refine lv_iload_n hx hb dX8_weakest_26 rfl (lv_at hl 0 rfl) ?_
  refine lv_aload_n hx hb dX8_weakest_27 rfl (lv_at hl 3 rfl) ?_
  refine va_get (D := D) (cl := vwCl) (ci := 8) (v := .ref a4) (C := RX8) (T := TX8) (N := 13) hx hb hts in_X8_weakest_X8 hown hK hP 5 rfl rfl 1 (by decide) (hts (.fieldLink RX8 19 "EightReasons" "told" "LEightReasons$Suit;") (List.mem_of_getElem? (i := 3) (by decide +kernel))) (fun _ h9 => h9) rfl dX8_weakest_28 ?_
  refine va_get (D := D) (cl := vwCl) (ci := 5) (v := .int 0) (C := RX5) (T := TX5) (N := 12) hx hb hts in_X8_weakest_X5 hown hK hP 9 rfl rfl 2 (by decide) (hts (.fieldLink RX8 157 "EightReasons$Suit" "strands" "I") (List.mem_of_getElem? (i := 4) (by decide +kernel))) (fun _ h9 => h9) rfl dX8_weakest_31 ?_
  refine lv_icmp_ge (tgt := 76) hx hb dX8_weakest_34 (by decide) (fun _ => ?_) (fun c => absurd (by decide) c)
  refine lv_iload_n hx hb dX8_weakest_76 rfl (lv_at hl 2 rfl) ?_
  exact rtI hx hb hr hlk rfl hP hD hS () [] rfl rfl rfl dX8_weakest_77
set_option maxHeartbeats 4000000 in
set_option maxRecDepth 100000 in
theorem k_X9_weakest_0 (l : Launch) (D : va_G) (cy : Nat → ClassId) (a0 a1 a2 : Nat) (v0_0 : Value) (v0_1 : Value) (v0_2 : Value) (v0_3 : Value) (v0_4 : Value) (v0_5 : Value) (v0_6 : Value) (v0_7 : Value) (v0_8 : Value) (v0_9 : Value) (v0_10 : Value) (v0_11 : Value) (v0_13 : Value) (v0_14 : Value) (v0_15 : Value) (v0_16 : Value) (v0_17 : Value) (v0_18 : Value) (v0_19 : Value) (v0_20 : Value) (v0_21 : Value) (v0_22 : Value) (v0_23 : Value) (v0_24 : Value) (v0_25 : Value) (v0_26 : Value) (v0_27 : Value) (v0_28 : Value) (v0_30 : Value) (v0_31 : Value) (v0_32 : Value) (v0_33 : Value) (v0_34 : Value) (v0_35 : Value) (v0_36 : Value) (v0_38 : Value) (v0_39 : Value) (v0_40 : Value) (v0_41 : Value) (v0_42 : Value) (v0_43 : Value) (v0_44 : Value) (v0_45 : Value) (v0_46 : Value) (v0_47 : Value) (v0_48 : Value) (v0_49 : Value) (v0_50 : Value) (v0_51 : Value) (v0_52 : Value) (v0_53 : Value) (v0_54 : Value) (v0_55 : Value) (v0_56 : Value) (v0_57 : Value) (v0_58 : Value) (v0_59 : Value) (v0_60 : Value) (v0_61 : Value) (v0_62 : Value) (v0_63 : Value) (sz : Nat) : CtI l yX9_weakest wsX9_weakest 2 43 [.ref a0] D cy [(a0, .inr (9, [v0_0, v0_1, v0_2, v0_3, v0_4, v0_5, v0_6, v0_7, v0_8, v0_9, v0_10, v0_11, .ref a2, v0_13, v0_14, v0_15, v0_16, v0_17, v0_18, v0_19, v0_20, v0_21, v0_22, v0_23, v0_24, v0_25, v0_26, v0_27, v0_28, .int 0, v0_30, v0_31, v0_32, v0_33, v0_34, v0_35, v0_36, .ref a1, v0_38, v0_39, v0_40, v0_41, v0_42, v0_43, v0_44, v0_45, v0_46, v0_47, v0_48, v0_49, v0_50, v0_51, v0_52, v0_53, v0_54, v0_55, v0_56, v0_57, v0_58, v0_59, v0_60, v0_61, v0_62, v0_63])), (a1, .inl (cy 0, 16, .inl zI)), (a2, .inl (cy 0, 2, .inl zI))] sz 0 0 (fun (r : Int32) (_ : Unit) => r = (-1)) (fun _ => []) := by
  refine CtI.of (cc := cX9_weakest) (maxL := 3) (ty := .int) (own := RX9) (by decide) rfl (Nat.le_of_ble_eq_true rfl) rfl ?_
  intro p e s m below meth c A ls hx hb hr hml hts hown hlk hK hP hD hS hA hl
  have hl : lv_has ls 3 [(0, .ref a0)] := hl
  refine st0 (fun H locs hP hS => ?_) hP hS
  have hP : va_P D vwCl [(a0, .inr (9, [v0_0, v0_1, v0_2, v0_3, v0_4, v0_5, v0_6, v0_7, v0_8, v0_9, v0_10, v0_11, .ref a2, v0_13, v0_14, v0_15, v0_16, v0_17, v0_18, v0_19, v0_20, v0_21, v0_22, v0_23, v0_24, v0_25, v0_26, v0_27, v0_28, .int 0, v0_30, v0_31, v0_32, v0_33, v0_34, v0_35, v0_36, .ref a1, v0_38, v0_39, v0_40, v0_41, v0_42, v0_43, v0_44, v0_45, v0_46, v0_47, v0_48, v0_49, v0_50, v0_51, v0_52, v0_53, v0_54, v0_55, v0_56, v0_57, v0_58, v0_59, v0_60, v0_61, v0_62, v0_63])), (a1, .inl (cy 0, 16, .inl zI)), (a2, .inl (cy 0, 2, .inl zI))] H := hP
  have hD : va_D A [(a0, .inr (9, [v0_0, v0_1, v0_2, v0_3, v0_4, v0_5, v0_6, v0_7, v0_8, v0_9, v0_10, v0_11, .ref a2, v0_13, v0_14, v0_15, v0_16, v0_17, v0_18, v0_19, v0_20, v0_21, v0_22, v0_23, v0_24, v0_25, v0_26, v0_27, v0_28, .int 0, v0_30, v0_31, v0_32, v0_33, v0_34, v0_35, v0_36, .ref a1, v0_38, v0_39, v0_40, v0_41, v0_42, v0_43, v0_44, v0_45, v0_46, v0_47, v0_48, v0_49, v0_50, v0_51, v0_52, v0_53, v0_54, v0_55, v0_56, v0_57, v0_58, v0_59, v0_60, v0_61, v0_62, v0_63])), (a1, .inl (cy 0, 16, .inl zI)), (a2, .inl (cy 0, 2, .inl zI))] := hD
  refine lv_aload_n hx hb dX9_weakest_0 rfl (lv_at hl 0 rfl) ?_
  refine lv_aload_n hx hb dX9_weakest_1 rfl (lv_at hl 0 rfl) ?_
  refine va_get (D := D) (cl := vwCl) (ci := 9) (v := .ref a1) (C := RX9) (T := TX9) (N := 64) hx hb hts in_X9_weakest_X9 hown hK hP 0 rfl rfl 37 (by decide) (hts (.fieldLink RX9 76 "EightReasonsModel" "all" "[I") (List.mem_of_getElem? (i := 1) (by decide +kernel))) (fun _ h9 => h9) rfl dX9_weakest_2 ?_
  refine lv_iconst (v := 1) hx hb dX9_weakest_5 (by decide) ?_
  refine va_iald hx hb hK hP 1 0 rfl rfl (vin (by decide)) dX9_weakest_6 (tpi (v := 0) rfl ?_)
  refine clVV (As := [.int 0]) (rest := []) (wr := [(a1, .inl (cy 0, 16, .inl zI))]) ⟨hx, hb, hml, hown, hts⟩ hK hP hD hS hA (k_X9_layWeights_0 l D cy a0 a2 (v0_0) (v0_1) (v0_2) (v0_3) (v0_4) (v0_5) (v0_6) (v0_7) (v0_8) (v0_9) (v0_10) (v0_11) (v0_13) (v0_14) (v0_15) (v0_16) (v0_17) (v0_18) (v0_19) (v0_20) (v0_21) (v0_22) (v0_23) (v0_24) (v0_25) (v0_26) (v0_27) (v0_28) (v0_30) (v0_31) (v0_32) (v0_33) (v0_34) (v0_35) (v0_36) (.ref a1) (v0_38) (v0_39) (v0_40) (v0_41) (v0_42) (v0_43) (v0_44) (v0_45) (v0_46) (v0_47) (v0_48) (v0_49) (v0_50) (v0_51) (v0_52) (v0_53) (v0_54) (v0_55) (v0_56) (v0_57) (v0_58) (v0_59) (v0_60) (v0_61) (v0_62) (v0_63) 0 _) (cwV 1 hts gX9_weakest_X9_layWeights rfl rfl rfl (by decide +kernel) ⟨Nat.le_of_ble_eq_true rfl, Nat.le_of_ble_eq_true rfl⟩) 0 9 rfl rfl [0, 2] [1] rfl rfl rfl rfl (by decide) rfl hl.1 rfl (Nat.le_of_ble_eq_true rfl) dX9_weakest_7 ⟨Nat.le_of_ble_eq_true rfl, Nat.le_of_ble_eq_true rfl⟩ rfl rfl (fun _ H locs _ hP hD hS => ?_)
  have hP : va_P D vwCl [(a1, .inl (cy 0, 16, .inl zI)), (a0, .inr (9, [v0_0, v0_1, v0_2, v0_3, v0_4, v0_5, v0_6, v0_7, v0_8, v0_9, v0_10, v0_11, .ref a2, v0_13, v0_14, v0_15, v0_16, v0_17, v0_18, v0_19, v0_20, v0_21, v0_22, v0_23, v0_24, v0_25, v0_26, v0_27, v0_28, .int 0, v0_30, v0_31, v0_32, v0_33, v0_34, v0_35, .int 0, .ref a1, v0_38, v0_39, v0_40, v0_41, v0_42, v0_43, v0_44, v0_45, v0_46, v0_47, v0_48, v0_49, v0_50, v0_51, v0_52, v0_53, v0_54, v0_55, v0_56, v0_57, v0_58, v0_59, v0_60, v0_61, v0_62, v0_63])), (a2, .inl (cy 0, 2, .inl zI))] H := hP
  have hD : va_D A [(a1, .inl (cy 0, 16, .inl zI)), (a0, .inr (9, [v0_0, v0_1, v0_2, v0_3, v0_4, v0_5, v0_6, v0_7, v0_8, v0_9, v0_10, v0_11, .ref a2, v0_13, v0_14, v0_15, v0_16, v0_17, v0_18, v0_19, v0_20, v0_21, v0_22, v0_23, v0_24, v0_25, v0_26, v0_27, v0_28, .int 0, v0_30, v0_31, v0_32, v0_33, v0_34, v0_35, .int 0, .ref a1, v0_38, v0_39, v0_40, v0_41, v0_42, v0_43, v0_44, v0_45, v0_46, v0_47, v0_48, v0_49, v0_50, v0_51, v0_52, v0_53, v0_54, v0_55, v0_56, v0_57, v0_58, v0_59, v0_60, v0_61, v0_62, v0_63])), (a2, .inl (cy 0, 2, .inl zI))] := hD
  refine lv_iconst (v := (-1)) hx hb dX9_weakest_10 (by decide) ?_
  refine lv_istore_n (lv' := [(1, .int (-1)), (0, .ref a0)]) hx hb dX9_weakest_11 rfl hl (by decide) rfl (fun ls hl => ?_)
  refine lv_iconst (v := 0) hx hb dX9_weakest_12 (by decide) ?_
  refine lv_istore_n (lv' := [(2, .int 0), (1, .int (-1)), (0, .ref a0)]) hx hb dX9_weakest_13 rfl hl (by decide) rfl (fun ls hl => ?_)
  refine lv_iload_n hx hb dX9_weakest_14 rfl (lv_at hl 0 rfl) ?_
  refine lv_aload_n hx hb dX9_weakest_15 rfl (lv_at hl 2 rfl) ?_
  refine clVI (As := []) (rest := [.int 0]) (wr := [(a1, .inl (cy 0, 16, .inl zI))]) ⟨hx, hb, hml, hown, hts⟩ hK hP hD hS hA (k_X9_threads_1 l D cy a0 a2 (v0_0) (v0_1) (v0_2) (v0_3) (v0_4) (v0_5) (v0_6) (v0_7) (v0_8) (v0_9) (v0_10) (v0_11) (v0_13) (v0_14) (v0_15) (v0_16) (v0_17) (v0_18) (v0_19) (v0_20) (v0_21) (v0_22) (v0_23) (v0_24) (v0_25) (v0_26) (v0_27) (v0_28) (v0_30) (v0_31) (v0_32) (v0_33) (v0_34) (v0_35) (.int 0) (.ref a1) (v0_38) (v0_39) (v0_40) (v0_41) (v0_42) (v0_43) (v0_44) (v0_45) (v0_46) (v0_47) (v0_48) (v0_49) (v0_50) (v0_51) (v0_52) (v0_53) (v0_54) (v0_55) (v0_56) (v0_57) (v0_58) (v0_59) (v0_60) (v0_61) (v0_62) (v0_63) _) (cwV 0 hts gX9_weakest_X9_threads rfl rfl rfl (by decide +kernel) ⟨Nat.le_of_ble_eq_true rfl, Nat.le_of_ble_eq_true rfl⟩) 1 9 rfl rfl [1, 2] [0] rfl rfl rfl rfl (by decide) rfl hl.1 rfl (Nat.le_of_ble_eq_true rfl) dX9_weakest_16 ⟨Nat.le_of_ble_eq_true rfl, Nat.le_of_ble_eq_true rfl⟩ rfl rfl (fun r _ H locs hw hP hD hS => ?_)
  have hP : va_P D vwCl [(a1, .inl (cy 0, 16, .inl zI)), (a0, .inr (9, [v0_0, v0_1, v0_2, v0_3, v0_4, v0_5, v0_6, v0_7, v0_8, v0_9, v0_10, v0_11, .ref a2, v0_13, v0_14, v0_15, v0_16, v0_17, v0_18, v0_19, v0_20, v0_21, v0_22, v0_23, v0_24, v0_25, v0_26, v0_27, v0_28, .int 0, v0_30, v0_31, v0_32, v0_33, v0_34, v0_35, .int 0, .ref a1, v0_38, v0_39, v0_40, v0_41, v0_42, v0_43, v0_44, v0_45, v0_46, v0_47, v0_48, v0_49, v0_50, v0_51, v0_52, v0_53, v0_54, v0_55, v0_56, v0_57, v0_58, v0_59, v0_60, v0_61, v0_62, v0_63])), (a2, .inl (cy 0, 2, .inl zI))] H := hP
  have hD : va_D A [(a1, .inl (cy 0, 16, .inl zI)), (a0, .inr (9, [v0_0, v0_1, v0_2, v0_3, v0_4, v0_5, v0_6, v0_7, v0_8, v0_9, v0_10, v0_11, .ref a2, v0_13, v0_14, v0_15, v0_16, v0_17, v0_18, v0_19, v0_20, v0_21, v0_22, v0_23, v0_24, v0_25, v0_26, v0_27, v0_28, .int 0, v0_30, v0_31, v0_32, v0_33, v0_34, v0_35, .int 0, .ref a1, v0_38, v0_39, v0_40, v0_41, v0_42, v0_43, v0_44, v0_45, v0_46, v0_47, v0_48, v0_49, v0_50, v0_51, v0_52, v0_53, v0_54, v0_55, v0_56, v0_57, v0_58, v0_59, v0_60, v0_61, v0_62, v0_63])), (a2, .inl (cy 0, 2, .inl zI))] := hD
  obtain rfl : r = 0 := hw
  refine lv_icmp_ge (tgt := 62) hx hb dX9_weakest_19 (by decide) (fun _ => ?_) (fun c => absurd (by decide) c)
  refine lv_iload_n hx hb dX9_weakest_62 rfl (lv_at hl 1 rfl) ?_
  exact rtI hx hb hr hlk rfl hP hD hS () [] rfl rfl rfl dX9_weakest_63
set_option maxHeartbeats 4000000 in
set_option maxRecDepth 100000 in
theorem k_X8_lies_0 (l : Launch) (D : va_G) (cy : Nat → ClassId) (a0 : Nat) (v0_0 : Value) (v0_1 : Value) (v0_2 : Value) (v0_3 : Value) (v0_4 : Value) (v0_5 : Value) (v0_6 : Value) (v0_7 : Value) (v0_8 : Value) (v0_10 : Value) (v0_11 : Value) (v0_12 : Value) (p1 : Int32) (sz : Nat) : CtI l yX8_lies wsX8_lies 0 0 [.ref a0, .int p1] D cy [(a0, .inr (8, [v0_0, v0_1, v0_2, v0_3, v0_4, v0_5, v0_6, v0_7, v0_8, .int 0, v0_10, v0_11, v0_12]))] sz 0 0 (fun (r : Int32) (_ : Unit) => r = (-1)) (fun _ => []) := by
  refine CtI.of (cc := cX8_lies) (maxL := 2) (ty := .int) (own := RX8) (by decide) rfl (Nat.le_of_ble_eq_true rfl) rfl ?_
  intro p e s m below meth c A ls hx hb hr hml hts hown hlk hK hP hD hS hA hl
  have hl : lv_has ls 2 [(0, .ref a0), (1, .int p1)] := hl
  refine st0 (fun H locs hP hS => ?_) hP hS
  have hP : va_P D vwCl [(a0, .inr (8, [v0_0, v0_1, v0_2, v0_3, v0_4, v0_5, v0_6, v0_7, v0_8, .int 0, v0_10, v0_11, v0_12]))] H := hP
  have hD : va_D A [(a0, .inr (8, [v0_0, v0_1, v0_2, v0_3, v0_4, v0_5, v0_6, v0_7, v0_8, .int 0, v0_10, v0_11, v0_12]))] := hD
  refine lv_iload_n hx hb dX8_lies_0 rfl (lv_at hl 1 rfl) ?_
  refine lv_if_lt (tgt := 21) hx hb dX8_lies_1 (by decide) (fun c1 => ?_) (fun c1 => ?_)
  · refine lv_iconst (v := (-1)) hx hb dX8_lies_21 (by decide) ?_
    exact rtI hx hb hr hlk rfl hP hD hS () [] rfl rfl rfl dX8_lies_22
  · refine lv_iload_n hx hb dX8_lies_4 rfl (lv_at hl 1 rfl) ?_
    refine lv_aload_n hx hb dX8_lies_5 rfl (lv_at hl 0 rfl) ?_
    refine va_get (D := D) (cl := vwCl) (ci := 8) (v := .int 0) (C := RX8) (T := TX8) (N := 13) hx hb hts in_X8_lies_X8 hown hK hP 0 rfl rfl 9 (by decide) (hts (.fieldLink RX8 102 "EightReasons" "lyingCount" "I") (List.mem_of_getElem? (i := 1) (by decide +kernel))) (fun _ h9 => h9) rfl dX8_lies_6 ?_
    refine lv_icmp_ge (tgt := 21) hx hb dX8_lies_9 (by decide) (fun c2 => ?_) (fun c2 => ?_)
    · refine lv_iconst (v := (-1)) hx hb dX8_lies_21 (by decide) ?_
      exact rtI hx hb hr hlk rfl hP hD hS () [] rfl rfl rfl dX8_lies_22
    · exact False.elim (by simp only [i_lt, i_le, i_eq, tl_m1, tl_0, tl_1, tl_2, tl_3, tl_4, tl_20, tl_60, tl_99, tl_1000, tl_100000] at c1 c2 <;> omega)
set_option maxHeartbeats 4000000 in
set_option maxRecDepth 100000 in
theorem k_X9_lies_0 (l : Launch) (D : va_G) (cy : Nat → ClassId) (a0 : Nat) (v0_0 : Value) (v0_1 : Value) (v0_2 : Value) (v0_3 : Value) (v0_4 : Value) (v0_5 : Value) (v0_6 : Value) (v0_7 : Value) (v0_8 : Value) (v0_9 : Value) (v0_10 : Value) (v0_11 : Value) (v0_12 : Value) (v0_13 : Value) (v0_14 : Value) (v0_15 : Value) (v0_16 : Value) (v0_17 : Value) (v0_18 : Value) (v0_19 : Value) (v0_20 : Value) (v0_21 : Value) (v0_22 : Value) (v0_23 : Value) (v0_24 : Value) (v0_25 : Value) (v0_26 : Value) (v0_27 : Value) (v0_28 : Value) (v0_29 : Value) (v0_30 : Value) (v0_31 : Value) (v0_32 : Value) (v0_33 : Value) (v0_34 : Value) (v0_35 : Value) (v0_36 : Value) (v0_37 : Value) (v0_38 : Value) (v0_39 : Value) (v0_40 : Value) (v0_41 : Value) (v0_42 : Value) (v0_43 : Value) (v0_44 : Value) (v0_45 : Value) (v0_46 : Value) (v0_47 : Value) (v0_49 : Value) (v0_50 : Value) (v0_51 : Value) (v0_52 : Value) (v0_53 : Value) (v0_54 : Value) (v0_55 : Value) (v0_56 : Value) (v0_57 : Value) (v0_58 : Value) (v0_59 : Value) (v0_60 : Value) (v0_61 : Value) (v0_62 : Value) (v0_63 : Value) (p1 : Int32) (sz : Nat) : CtI l yX9_lies wsX9_lies 1 22 [.ref a0, .int p1] D cy [(a0, .inr (9, [v0_0, v0_1, v0_2, v0_3, v0_4, v0_5, v0_6, v0_7, v0_8, v0_9, v0_10, v0_11, v0_12, v0_13, v0_14, v0_15, v0_16, v0_17, v0_18, v0_19, v0_20, v0_21, v0_22, v0_23, v0_24, v0_25, v0_26, v0_27, v0_28, v0_29, v0_30, v0_31, v0_32, v0_33, v0_34, v0_35, v0_36, v0_37, v0_38, v0_39, v0_40, v0_41, v0_42, v0_43, v0_44, v0_45, v0_46, v0_47, .int 0, v0_49, v0_50, v0_51, v0_52, v0_53, v0_54, v0_55, v0_56, v0_57, v0_58, v0_59, v0_60, v0_61, v0_62, v0_63]))] sz 0 0 (fun (r : Int32) (_ : Unit) => r = (-1)) (fun _ => []) := by
  refine CtI.of (cc := cX9_lies) (maxL := 2) (ty := .int) (own := RX9) (by decide) rfl (Nat.le_of_ble_eq_true rfl) rfl ?_
  intro p e s m below meth c A ls hx hb hr hml hts hown hlk hK hP hD hS hA hl
  have hl : lv_has ls 2 [(0, .ref a0), (1, .int p1)] := hl
  refine st0 (fun H locs hP hS => ?_) hP hS
  have hP : va_P D vwCl [(a0, .inr (9, [v0_0, v0_1, v0_2, v0_3, v0_4, v0_5, v0_6, v0_7, v0_8, v0_9, v0_10, v0_11, v0_12, v0_13, v0_14, v0_15, v0_16, v0_17, v0_18, v0_19, v0_20, v0_21, v0_22, v0_23, v0_24, v0_25, v0_26, v0_27, v0_28, v0_29, v0_30, v0_31, v0_32, v0_33, v0_34, v0_35, v0_36, v0_37, v0_38, v0_39, v0_40, v0_41, v0_42, v0_43, v0_44, v0_45, v0_46, v0_47, .int 0, v0_49, v0_50, v0_51, v0_52, v0_53, v0_54, v0_55, v0_56, v0_57, v0_58, v0_59, v0_60, v0_61, v0_62, v0_63]))] H := hP
  have hD : va_D A [(a0, .inr (9, [v0_0, v0_1, v0_2, v0_3, v0_4, v0_5, v0_6, v0_7, v0_8, v0_9, v0_10, v0_11, v0_12, v0_13, v0_14, v0_15, v0_16, v0_17, v0_18, v0_19, v0_20, v0_21, v0_22, v0_23, v0_24, v0_25, v0_26, v0_27, v0_28, v0_29, v0_30, v0_31, v0_32, v0_33, v0_34, v0_35, v0_36, v0_37, v0_38, v0_39, v0_40, v0_41, v0_42, v0_43, v0_44, v0_45, v0_46, v0_47, .int 0, v0_49, v0_50, v0_51, v0_52, v0_53, v0_54, v0_55, v0_56, v0_57, v0_58, v0_59, v0_60, v0_61, v0_62, v0_63]))] := hD
  refine lv_iload_n hx hb dX9_lies_0 rfl (lv_at hl 1 rfl) ?_
  refine lv_iconst (v := 0) hx hb dX9_lies_1 (by decide) ?_
  refine lv_aload_n hx hb dX9_lies_2 rfl (lv_at hl 0 rfl) ?_
  refine va_get (D := D) (cl := vwCl) (ci := 9) (v := .int 0) (C := RX9) (T := TX9) (N := 64) hx hb hts in_X9_lies_X9 hown hK hP 0 rfl rfl 48 (by decide) (hts (.fieldLink RX9 377 "EightReasonsModel" "laid" "I") (List.mem_of_getElem? (i := 1) (by decide +kernel))) (fun _ h9 => h9) rfl dX9_lies_3 ?_
  refine lv_iconst (v := 1) hx hb dX9_lies_6 (by decide) ?_
  refine lv_isub hx hb dX9_lies_7 (tpi (v := (-1)) (by decide) ?_)
  refine clSI (As := [.int p1, .int 0, .int (-1)]) (rest := []) (wr := [(a0, .inr (9, [v0_0, v0_1, v0_2, v0_3, v0_4, v0_5, v0_6, v0_7, v0_8, v0_9, v0_10, v0_11, v0_12, v0_13, v0_14, v0_15, v0_16, v0_17, v0_18, v0_19, v0_20, v0_21, v0_22, v0_23, v0_24, v0_25, v0_26, v0_27, v0_28, v0_29, v0_30, v0_31, v0_32, v0_33, v0_34, v0_35, v0_36, v0_37, v0_38, v0_39, v0_40, v0_41, v0_42, v0_43, v0_44, v0_45, v0_46, v0_47, .int 0, v0_49, v0_50, v0_51, v0_52, v0_53, v0_54, v0_55, v0_56, v0_57, v0_58, v0_59, v0_60, v0_61, v0_62, v0_63]))]) ⟨hx, hb, hml, hown, hts⟩ hK hP hD hS hA (k_X9_isIn_0 l D cy p1 _) (va_cwS 3 hts gX9_lies_X9_isIn rfl rfl rfl (by decide +kernel) ⟨Nat.le_of_ble_eq_true rfl, Nat.le_of_ble_eq_true rfl⟩) [] [0] rfl rfl rfl rfl (by decide) rfl hl.1 rfl (Nat.le_of_ble_eq_true rfl) dX9_lies_8 ⟨Nat.le_of_ble_eq_true rfl, Nat.le_of_ble_eq_true rfl⟩ rfl rfl (fun r _ H locs hw hP hD hS => ?_)
  have hP : va_P D vwCl [(a0, .inr (9, [v0_0, v0_1, v0_2, v0_3, v0_4, v0_5, v0_6, v0_7, v0_8, v0_9, v0_10, v0_11, v0_12, v0_13, v0_14, v0_15, v0_16, v0_17, v0_18, v0_19, v0_20, v0_21, v0_22, v0_23, v0_24, v0_25, v0_26, v0_27, v0_28, v0_29, v0_30, v0_31, v0_32, v0_33, v0_34, v0_35, v0_36, v0_37, v0_38, v0_39, v0_40, v0_41, v0_42, v0_43, v0_44, v0_45, v0_46, v0_47, .int 0, v0_49, v0_50, v0_51, v0_52, v0_53, v0_54, v0_55, v0_56, v0_57, v0_58, v0_59, v0_60, v0_61, v0_62, v0_63]))] H := hP
  have hD : va_D A [(a0, .inr (9, [v0_0, v0_1, v0_2, v0_3, v0_4, v0_5, v0_6, v0_7, v0_8, v0_9, v0_10, v0_11, v0_12, v0_13, v0_14, v0_15, v0_16, v0_17, v0_18, v0_19, v0_20, v0_21, v0_22, v0_23, v0_24, v0_25, v0_26, v0_27, v0_28, v0_29, v0_30, v0_31, v0_32, v0_33, v0_34, v0_35, v0_36, v0_37, v0_38, v0_39, v0_40, v0_41, v0_42, v0_43, v0_44, v0_45, v0_46, v0_47, .int 0, v0_49, v0_50, v0_51, v0_52, v0_53, v0_54, v0_55, v0_56, v0_57, v0_58, v0_59, v0_60, v0_61, v0_62, v0_63]))] := hD
  obtain rfl : r = 0 := hw
  refine lv_if_eq (tgt := 23) hx hb dX9_lies_11 (by decide) (fun _ => ?_) (fun c => absurd (by decide) c)
  refine lv_iconst (v := (-1)) hx hb dX9_lies_23 (by decide) ?_
  exact rtI hx hb hr hlk rfl hP hD hS () [] rfl rfl rfl dX9_lies_24
set_option maxHeartbeats 4000000 in
set_option maxRecDepth 100000 in
theorem k_X8_commonDivisor_0 (l : Launch) (D : va_G) (cy : Nat → ClassId)  (sz : Nat) : CtI l yX8_commonDivisor wsX8_commonDivisor 1 40 [.int 1, .int 1] D cy [] sz 0 0 (fun (r : Int32) (_ : Unit) => r = 1) (fun _ => []) := by
  refine CtI.of (cc := cX8_commonDivisor) (maxL := 6) (ty := .int) (own := RX8) (by decide) rfl (Nat.le_of_ble_eq_true rfl) rfl ?_
  intro p e s m below meth c A ls hx hb hr hml hts hown hlk hK hP hD hS hA hl
  have hl : lv_has ls 6 [(0, .int 1), (1, .int 1)] := hl
  refine st0 (fun H locs hP hS => ?_) hP hS
  have hP : va_P D vwCl [] H := hP
  have hD : va_D A [] := hD
  refine lv_iload_n hx hb dX8_commonDivisor_0 rfl (lv_at hl 0 rfl) ?_
  refine lv_istore_n (lv' := [(2, .int 1), (0, .int 1), (1, .int 1)]) hx hb dX8_commonDivisor_1 rfl hl (by decide) rfl (fun ls hl => ?_)
  refine lv_iload_n hx hb dX8_commonDivisor_2 rfl (lv_at hl 2 rfl) ?_
  refine lv_istore_n (lv' := [(3, .int 1), (2, .int 1), (0, .int 1), (1, .int 1)]) hx hb dX8_commonDivisor_3 rfl hl (by decide) rfl (fun ls hl => ?_)
  refine lv_iconst (v := 0) hx hb dX8_commonDivisor_4 (by decide) ?_
  refine lv_istore (lv' := [(4, .int 0), (3, .int 1), (2, .int 1), (0, .int 1), (1, .int 1)]) hx hb dX8_commonDivisor_5 hl (by decide) rfl (fun ls hl => ?_)
  refine lv_iload hx hb dX8_commonDivisor_7 (lv_at hl 0 rfl) ?_
  refine lv_bipush (v := 64) hx hb dX8_commonDivisor_9 (by decide) ?_
  refine lv_icmp_ge (tgt := 34) hx hb dX8_commonDivisor_11 (by decide) (fun c => absurd c (by decide)) (fun _ => ?_)
  refine lv_iload_n hx hb dX8_commonDivisor_14 rfl (lv_at hl 1 rfl) ?_
  refine lv_if_eq (tgt := 34) hx hb dX8_commonDivisor_15 (by decide) (fun c => absurd c (by decide)) (fun _ => ?_)
  refine lv_iload_n hx hb dX8_commonDivisor_18 rfl (lv_at hl 2 rfl) ?_
  refine lv_iload_n hx hb dX8_commonDivisor_19 rfl (lv_at hl 1 rfl) ?_
  refine lv_irem hx hb dX8_commonDivisor_20 (by decide) (tpi (v := 0) (by decide) ?_)
  refine lv_istore (lv' := [(5, .int 0), (4, .int 0), (3, .int 1), (2, .int 1), (0, .int 1), (1, .int 1)]) hx hb dX8_commonDivisor_21 hl (by decide) rfl (fun ls hl => ?_)
  refine lv_iload_n hx hb dX8_commonDivisor_23 rfl (lv_at hl 2 rfl) ?_
  refine lv_istore_n (lv' := [(2, .int 1), (5, .int 0), (4, .int 0), (3, .int 1), (0, .int 1), (1, .int 1)]) hx hb dX8_commonDivisor_24 rfl hl (by decide) rfl (fun ls hl => ?_)
  refine lv_iload hx hb dX8_commonDivisor_25 (lv_at hl 1 rfl) ?_
  refine lv_istore_n (lv' := [(3, .int 0), (2, .int 1), (5, .int 0), (4, .int 0), (0, .int 1), (1, .int 1)]) hx hb dX8_commonDivisor_27 rfl hl (by decide) rfl (fun ls hl => ?_)
  refine lv_iinc (v := 1) (lv' := [(4, .int 1), (3, .int 0), (2, .int 1), (5, .int 0), (0, .int 1), (1, .int 1)]) hx hb dX8_commonDivisor_28 hl (k := 3) rfl (by decide) (by decide) rfl (fun ls hl => ?_)
  refine lv_goto (tgt := 7) hx hb dX8_commonDivisor_31 (by decide) ?_
  refine lv_iload hx hb dX8_commonDivisor_7 (lv_at hl 0 rfl) ?_
  refine lv_bipush (v := 64) hx hb dX8_commonDivisor_9 (by decide) ?_
  refine lv_icmp_ge (tgt := 34) hx hb dX8_commonDivisor_11 (by decide) (fun c => absurd c (by decide)) (fun _ => ?_)
  refine lv_iload_n hx hb dX8_commonDivisor_14 rfl (lv_at hl 1 rfl) ?_
  refine lv_if_eq (tgt := 34) hx hb dX8_commonDivisor_15 (by decide) (fun _ => ?_) (fun c => absurd (by decide) c)
  refine lv_iconst (v := 1) hx hb dX8_commonDivisor_34 (by decide) ?_
  refine lv_iload_n hx hb dX8_commonDivisor_35 rfl (lv_at hl 2 rfl) ?_
  refine va_mmax hx hb (hml.trans hl.1.symm) hown (hts (.methodLink RX8 282 Lib.Math.max.name) (List.mem_of_getElem? (i := 1) (by decide +kernel))) (hts (.static Lib.Math.max.name) (List.mem_of_getElem? (i := 2) (by decide +kernel))) (hts (.initialized "java/lang/Math") (List.mem_of_getElem? (i := 3) (by decide +kernel))) (hts (.code Lib.Math.max.name Lib.Math.max.code 2 (some .int)) (List.mem_of_getElem? (i := 4) (by decide +kernel))) (Nat.le_of_ble_eq_true rfl) (Nat.le_of_ble_eq_true rfl) (Nat.le_of_ble_eq_true rfl) (Nat.le_of_ble_eq_true rfl) dX8_commonDivisor_36 (tpi (v := 1) (by decide) ?_)
  exact rtI hx hb hr hlk rfl hP hD hS () [] rfl rfl rfl dX8_commonDivisor_39
set_option maxHeartbeats 4000000 in
set_option maxRecDepth 100000 in
theorem k_X8_commonDivisor_1 (l : Launch) (D : va_G) (cy : Nat → ClassId)  (sz : Nat) : CtI l yX8_commonDivisor wsX8_commonDivisor 1 40 [.int 100, .int 100] D cy [] sz 0 0 (fun (r : Int32) (_ : Unit) => r = 100) (fun _ => []) := by
  refine CtI.of (cc := cX8_commonDivisor) (maxL := 6) (ty := .int) (own := RX8) (by decide) rfl (Nat.le_of_ble_eq_true rfl) rfl ?_
  intro p e s m below meth c A ls hx hb hr hml hts hown hlk hK hP hD hS hA hl
  have hl : lv_has ls 6 [(0, .int 100), (1, .int 100)] := hl
  refine st0 (fun H locs hP hS => ?_) hP hS
  have hP : va_P D vwCl [] H := hP
  have hD : va_D A [] := hD
  refine lv_iload_n hx hb dX8_commonDivisor_0 rfl (lv_at hl 0 rfl) ?_
  refine lv_istore_n (lv' := [(2, .int 100), (0, .int 100), (1, .int 100)]) hx hb dX8_commonDivisor_1 rfl hl (by decide) rfl (fun ls hl => ?_)
  refine lv_iload_n hx hb dX8_commonDivisor_2 rfl (lv_at hl 2 rfl) ?_
  refine lv_istore_n (lv' := [(3, .int 100), (2, .int 100), (0, .int 100), (1, .int 100)]) hx hb dX8_commonDivisor_3 rfl hl (by decide) rfl (fun ls hl => ?_)
  refine lv_iconst (v := 0) hx hb dX8_commonDivisor_4 (by decide) ?_
  refine lv_istore (lv' := [(4, .int 0), (3, .int 100), (2, .int 100), (0, .int 100), (1, .int 100)]) hx hb dX8_commonDivisor_5 hl (by decide) rfl (fun ls hl => ?_)
  refine lv_iload hx hb dX8_commonDivisor_7 (lv_at hl 0 rfl) ?_
  refine lv_bipush (v := 64) hx hb dX8_commonDivisor_9 (by decide) ?_
  refine lv_icmp_ge (tgt := 34) hx hb dX8_commonDivisor_11 (by decide) (fun c => absurd c (by decide)) (fun _ => ?_)
  refine lv_iload_n hx hb dX8_commonDivisor_14 rfl (lv_at hl 1 rfl) ?_
  refine lv_if_eq (tgt := 34) hx hb dX8_commonDivisor_15 (by decide) (fun c => absurd c (by decide)) (fun _ => ?_)
  refine lv_iload_n hx hb dX8_commonDivisor_18 rfl (lv_at hl 2 rfl) ?_
  refine lv_iload_n hx hb dX8_commonDivisor_19 rfl (lv_at hl 1 rfl) ?_
  refine lv_irem hx hb dX8_commonDivisor_20 (by decide) (tpi (v := 0) (by decide) ?_)
  refine lv_istore (lv' := [(5, .int 0), (4, .int 0), (3, .int 100), (2, .int 100), (0, .int 100), (1, .int 100)]) hx hb dX8_commonDivisor_21 hl (by decide) rfl (fun ls hl => ?_)
  refine lv_iload_n hx hb dX8_commonDivisor_23 rfl (lv_at hl 2 rfl) ?_
  refine lv_istore_n (lv' := [(2, .int 100), (5, .int 0), (4, .int 0), (3, .int 100), (0, .int 100), (1, .int 100)]) hx hb dX8_commonDivisor_24 rfl hl (by decide) rfl (fun ls hl => ?_)
  refine lv_iload hx hb dX8_commonDivisor_25 (lv_at hl 1 rfl) ?_
  refine lv_istore_n (lv' := [(3, .int 0), (2, .int 100), (5, .int 0), (4, .int 0), (0, .int 100), (1, .int 100)]) hx hb dX8_commonDivisor_27 rfl hl (by decide) rfl (fun ls hl => ?_)
  refine lv_iinc (v := 1) (lv' := [(4, .int 1), (3, .int 0), (2, .int 100), (5, .int 0), (0, .int 100), (1, .int 100)]) hx hb dX8_commonDivisor_28 hl (k := 3) rfl (by decide) (by decide) rfl (fun ls hl => ?_)
  refine lv_goto (tgt := 7) hx hb dX8_commonDivisor_31 (by decide) ?_
  refine lv_iload hx hb dX8_commonDivisor_7 (lv_at hl 0 rfl) ?_
  refine lv_bipush (v := 64) hx hb dX8_commonDivisor_9 (by decide) ?_
  refine lv_icmp_ge (tgt := 34) hx hb dX8_commonDivisor_11 (by decide) (fun c => absurd c (by decide)) (fun _ => ?_)
  refine lv_iload_n hx hb dX8_commonDivisor_14 rfl (lv_at hl 1 rfl) ?_
  refine lv_if_eq (tgt := 34) hx hb dX8_commonDivisor_15 (by decide) (fun _ => ?_) (fun c => absurd (by decide) c)
  refine lv_iconst (v := 1) hx hb dX8_commonDivisor_34 (by decide) ?_
  refine lv_iload_n hx hb dX8_commonDivisor_35 rfl (lv_at hl 2 rfl) ?_
  refine va_mmax hx hb (hml.trans hl.1.symm) hown (hts (.methodLink RX8 282 Lib.Math.max.name) (List.mem_of_getElem? (i := 1) (by decide +kernel))) (hts (.static Lib.Math.max.name) (List.mem_of_getElem? (i := 2) (by decide +kernel))) (hts (.initialized "java/lang/Math") (List.mem_of_getElem? (i := 3) (by decide +kernel))) (hts (.code Lib.Math.max.name Lib.Math.max.code 2 (some .int)) (List.mem_of_getElem? (i := 4) (by decide +kernel))) (Nat.le_of_ble_eq_true rfl) (Nat.le_of_ble_eq_true rfl) (Nat.le_of_ble_eq_true rfl) (Nat.le_of_ble_eq_true rfl) dX8_commonDivisor_36 (tpi (v := 100) (by decide) ?_)
  exact rtI hx hb hr hlk rfl hP hD hS () [] rfl rfl rfl dX8_commonDivisor_39
set_option maxHeartbeats 4000000 in
set_option maxRecDepth 100000 in
theorem k_X8_commonDivisor_2 (l : Launch) (D : va_G) (cy : Nat → ClassId)  (sz : Nat) : CtI l yX8_commonDivisor wsX8_commonDivisor 1 40 [.int 10000, .int 10000] D cy [] sz 0 0 (fun (r : Int32) (_ : Unit) => r = 10000) (fun _ => []) := by
  refine CtI.of (cc := cX8_commonDivisor) (maxL := 6) (ty := .int) (own := RX8) (by decide) rfl (Nat.le_of_ble_eq_true rfl) rfl ?_
  intro p e s m below meth c A ls hx hb hr hml hts hown hlk hK hP hD hS hA hl
  have hl : lv_has ls 6 [(0, .int 10000), (1, .int 10000)] := hl
  refine st0 (fun H locs hP hS => ?_) hP hS
  have hP : va_P D vwCl [] H := hP
  have hD : va_D A [] := hD
  refine lv_iload_n hx hb dX8_commonDivisor_0 rfl (lv_at hl 0 rfl) ?_
  refine lv_istore_n (lv' := [(2, .int 10000), (0, .int 10000), (1, .int 10000)]) hx hb dX8_commonDivisor_1 rfl hl (by decide) rfl (fun ls hl => ?_)
  refine lv_iload_n hx hb dX8_commonDivisor_2 rfl (lv_at hl 2 rfl) ?_
  refine lv_istore_n (lv' := [(3, .int 10000), (2, .int 10000), (0, .int 10000), (1, .int 10000)]) hx hb dX8_commonDivisor_3 rfl hl (by decide) rfl (fun ls hl => ?_)
  refine lv_iconst (v := 0) hx hb dX8_commonDivisor_4 (by decide) ?_
  refine lv_istore (lv' := [(4, .int 0), (3, .int 10000), (2, .int 10000), (0, .int 10000), (1, .int 10000)]) hx hb dX8_commonDivisor_5 hl (by decide) rfl (fun ls hl => ?_)
  refine lv_iload hx hb dX8_commonDivisor_7 (lv_at hl 0 rfl) ?_
  refine lv_bipush (v := 64) hx hb dX8_commonDivisor_9 (by decide) ?_
  refine lv_icmp_ge (tgt := 34) hx hb dX8_commonDivisor_11 (by decide) (fun c => absurd c (by decide)) (fun _ => ?_)
  refine lv_iload_n hx hb dX8_commonDivisor_14 rfl (lv_at hl 1 rfl) ?_
  refine lv_if_eq (tgt := 34) hx hb dX8_commonDivisor_15 (by decide) (fun c => absurd c (by decide)) (fun _ => ?_)
  refine lv_iload_n hx hb dX8_commonDivisor_18 rfl (lv_at hl 2 rfl) ?_
  refine lv_iload_n hx hb dX8_commonDivisor_19 rfl (lv_at hl 1 rfl) ?_
  refine lv_irem hx hb dX8_commonDivisor_20 (by decide) (tpi (v := 0) (by decide) ?_)
  refine lv_istore (lv' := [(5, .int 0), (4, .int 0), (3, .int 10000), (2, .int 10000), (0, .int 10000), (1, .int 10000)]) hx hb dX8_commonDivisor_21 hl (by decide) rfl (fun ls hl => ?_)
  refine lv_iload_n hx hb dX8_commonDivisor_23 rfl (lv_at hl 2 rfl) ?_
  refine lv_istore_n (lv' := [(2, .int 10000), (5, .int 0), (4, .int 0), (3, .int 10000), (0, .int 10000), (1, .int 10000)]) hx hb dX8_commonDivisor_24 rfl hl (by decide) rfl (fun ls hl => ?_)
  refine lv_iload hx hb dX8_commonDivisor_25 (lv_at hl 1 rfl) ?_
  refine lv_istore_n (lv' := [(3, .int 0), (2, .int 10000), (5, .int 0), (4, .int 0), (0, .int 10000), (1, .int 10000)]) hx hb dX8_commonDivisor_27 rfl hl (by decide) rfl (fun ls hl => ?_)
  refine lv_iinc (v := 1) (lv' := [(4, .int 1), (3, .int 0), (2, .int 10000), (5, .int 0), (0, .int 10000), (1, .int 10000)]) hx hb dX8_commonDivisor_28 hl (k := 3) rfl (by decide) (by decide) rfl (fun ls hl => ?_)
  refine lv_goto (tgt := 7) hx hb dX8_commonDivisor_31 (by decide) ?_
  refine lv_iload hx hb dX8_commonDivisor_7 (lv_at hl 0 rfl) ?_
  refine lv_bipush (v := 64) hx hb dX8_commonDivisor_9 (by decide) ?_
  refine lv_icmp_ge (tgt := 34) hx hb dX8_commonDivisor_11 (by decide) (fun c => absurd c (by decide)) (fun _ => ?_)
  refine lv_iload_n hx hb dX8_commonDivisor_14 rfl (lv_at hl 1 rfl) ?_
  refine lv_if_eq (tgt := 34) hx hb dX8_commonDivisor_15 (by decide) (fun _ => ?_) (fun c => absurd (by decide) c)
  refine lv_iconst (v := 1) hx hb dX8_commonDivisor_34 (by decide) ?_
  refine lv_iload_n hx hb dX8_commonDivisor_35 rfl (lv_at hl 2 rfl) ?_
  refine va_mmax hx hb (hml.trans hl.1.symm) hown (hts (.methodLink RX8 282 Lib.Math.max.name) (List.mem_of_getElem? (i := 1) (by decide +kernel))) (hts (.static Lib.Math.max.name) (List.mem_of_getElem? (i := 2) (by decide +kernel))) (hts (.initialized "java/lang/Math") (List.mem_of_getElem? (i := 3) (by decide +kernel))) (hts (.code Lib.Math.max.name Lib.Math.max.code 2 (some .int)) (List.mem_of_getElem? (i := 4) (by decide +kernel))) (Nat.le_of_ble_eq_true rfl) (Nat.le_of_ble_eq_true rfl) (Nat.le_of_ble_eq_true rfl) (Nat.le_of_ble_eq_true rfl) dX8_commonDivisor_36 (tpi (v := 10000) (by decide) ?_)
  exact rtI hx hb hr hlk rfl hP hD hS () [] rfl rfl rfl dX8_commonDivisor_39
set_option maxHeartbeats 4000000 in
set_option maxRecDepth 100000 in
theorem k_X8_commonDivisor_3 (l : Launch) (D : va_G) (cy : Nat → ClassId)  (sz : Nat) : CtI l yX8_commonDivisor wsX8_commonDivisor 1 40 [.int 1000000, .int 1000000] D cy [] sz 0 0 (fun (r : Int32) (_ : Unit) => r = 1000000) (fun _ => []) := by
  refine CtI.of (cc := cX8_commonDivisor) (maxL := 6) (ty := .int) (own := RX8) (by decide) rfl (Nat.le_of_ble_eq_true rfl) rfl ?_
  intro p e s m below meth c A ls hx hb hr hml hts hown hlk hK hP hD hS hA hl
  have hl : lv_has ls 6 [(0, .int 1000000), (1, .int 1000000)] := hl
  refine st0 (fun H locs hP hS => ?_) hP hS
  have hP : va_P D vwCl [] H := hP
  have hD : va_D A [] := hD
  refine lv_iload_n hx hb dX8_commonDivisor_0 rfl (lv_at hl 0 rfl) ?_
  refine lv_istore_n (lv' := [(2, .int 1000000), (0, .int 1000000), (1, .int 1000000)]) hx hb dX8_commonDivisor_1 rfl hl (by decide) rfl (fun ls hl => ?_)
  refine lv_iload_n hx hb dX8_commonDivisor_2 rfl (lv_at hl 2 rfl) ?_
  refine lv_istore_n (lv' := [(3, .int 1000000), (2, .int 1000000), (0, .int 1000000), (1, .int 1000000)]) hx hb dX8_commonDivisor_3 rfl hl (by decide) rfl (fun ls hl => ?_)
  refine lv_iconst (v := 0) hx hb dX8_commonDivisor_4 (by decide) ?_
  refine lv_istore (lv' := [(4, .int 0), (3, .int 1000000), (2, .int 1000000), (0, .int 1000000), (1, .int 1000000)]) hx hb dX8_commonDivisor_5 hl (by decide) rfl (fun ls hl => ?_)
  refine lv_iload hx hb dX8_commonDivisor_7 (lv_at hl 0 rfl) ?_
  refine lv_bipush (v := 64) hx hb dX8_commonDivisor_9 (by decide) ?_
  refine lv_icmp_ge (tgt := 34) hx hb dX8_commonDivisor_11 (by decide) (fun c => absurd c (by decide)) (fun _ => ?_)
  refine lv_iload_n hx hb dX8_commonDivisor_14 rfl (lv_at hl 1 rfl) ?_
  refine lv_if_eq (tgt := 34) hx hb dX8_commonDivisor_15 (by decide) (fun c => absurd c (by decide)) (fun _ => ?_)
  refine lv_iload_n hx hb dX8_commonDivisor_18 rfl (lv_at hl 2 rfl) ?_
  refine lv_iload_n hx hb dX8_commonDivisor_19 rfl (lv_at hl 1 rfl) ?_
  refine lv_irem hx hb dX8_commonDivisor_20 (by decide) (tpi (v := 0) (by decide) ?_)
  refine lv_istore (lv' := [(5, .int 0), (4, .int 0), (3, .int 1000000), (2, .int 1000000), (0, .int 1000000), (1, .int 1000000)]) hx hb dX8_commonDivisor_21 hl (by decide) rfl (fun ls hl => ?_)
  refine lv_iload_n hx hb dX8_commonDivisor_23 rfl (lv_at hl 2 rfl) ?_
  refine lv_istore_n (lv' := [(2, .int 1000000), (5, .int 0), (4, .int 0), (3, .int 1000000), (0, .int 1000000), (1, .int 1000000)]) hx hb dX8_commonDivisor_24 rfl hl (by decide) rfl (fun ls hl => ?_)
  refine lv_iload hx hb dX8_commonDivisor_25 (lv_at hl 1 rfl) ?_
  refine lv_istore_n (lv' := [(3, .int 0), (2, .int 1000000), (5, .int 0), (4, .int 0), (0, .int 1000000), (1, .int 1000000)]) hx hb dX8_commonDivisor_27 rfl hl (by decide) rfl (fun ls hl => ?_)
  refine lv_iinc (v := 1) (lv' := [(4, .int 1), (3, .int 0), (2, .int 1000000), (5, .int 0), (0, .int 1000000), (1, .int 1000000)]) hx hb dX8_commonDivisor_28 hl (k := 3) rfl (by decide) (by decide) rfl (fun ls hl => ?_)
  refine lv_goto (tgt := 7) hx hb dX8_commonDivisor_31 (by decide) ?_
  refine lv_iload hx hb dX8_commonDivisor_7 (lv_at hl 0 rfl) ?_
  refine lv_bipush (v := 64) hx hb dX8_commonDivisor_9 (by decide) ?_
  refine lv_icmp_ge (tgt := 34) hx hb dX8_commonDivisor_11 (by decide) (fun c => absurd c (by decide)) (fun _ => ?_)
  refine lv_iload_n hx hb dX8_commonDivisor_14 rfl (lv_at hl 1 rfl) ?_
  refine lv_if_eq (tgt := 34) hx hb dX8_commonDivisor_15 (by decide) (fun _ => ?_) (fun c => absurd (by decide) c)
  refine lv_iconst (v := 1) hx hb dX8_commonDivisor_34 (by decide) ?_
  refine lv_iload_n hx hb dX8_commonDivisor_35 rfl (lv_at hl 2 rfl) ?_
  refine va_mmax hx hb (hml.trans hl.1.symm) hown (hts (.methodLink RX8 282 Lib.Math.max.name) (List.mem_of_getElem? (i := 1) (by decide +kernel))) (hts (.static Lib.Math.max.name) (List.mem_of_getElem? (i := 2) (by decide +kernel))) (hts (.initialized "java/lang/Math") (List.mem_of_getElem? (i := 3) (by decide +kernel))) (hts (.code Lib.Math.max.name Lib.Math.max.code 2 (some .int)) (List.mem_of_getElem? (i := 4) (by decide +kernel))) (Nat.le_of_ble_eq_true rfl) (Nat.le_of_ble_eq_true rfl) (Nat.le_of_ble_eq_true rfl) (Nat.le_of_ble_eq_true rfl) dX8_commonDivisor_36 (tpi (v := 1000000) (by decide) ?_)
  exact rtI hx hb hr hlk rfl hP hD hS () [] rfl rfl rfl dX8_commonDivisor_39
set_option maxHeartbeats 4000000 in
set_option maxRecDepth 100000 in
theorem k_X8_commonDivisor_4 (l : Launch) (D : va_G) (cy : Nat → ClassId)  (sz : Nat) : CtI l yX8_commonDivisor wsX8_commonDivisor 1 40 [.int 100000000, .int 100000000] D cy [] sz 0 0 (fun (r : Int32) (_ : Unit) => r = 100000000) (fun _ => []) := by
  refine CtI.of (cc := cX8_commonDivisor) (maxL := 6) (ty := .int) (own := RX8) (by decide) rfl (Nat.le_of_ble_eq_true rfl) rfl ?_
  intro p e s m below meth c A ls hx hb hr hml hts hown hlk hK hP hD hS hA hl
  have hl : lv_has ls 6 [(0, .int 100000000), (1, .int 100000000)] := hl
  refine st0 (fun H locs hP hS => ?_) hP hS
  have hP : va_P D vwCl [] H := hP
  have hD : va_D A [] := hD
  refine lv_iload_n hx hb dX8_commonDivisor_0 rfl (lv_at hl 0 rfl) ?_
  refine lv_istore_n (lv' := [(2, .int 100000000), (0, .int 100000000), (1, .int 100000000)]) hx hb dX8_commonDivisor_1 rfl hl (by decide) rfl (fun ls hl => ?_)
  refine lv_iload_n hx hb dX8_commonDivisor_2 rfl (lv_at hl 2 rfl) ?_
  refine lv_istore_n (lv' := [(3, .int 100000000), (2, .int 100000000), (0, .int 100000000), (1, .int 100000000)]) hx hb dX8_commonDivisor_3 rfl hl (by decide) rfl (fun ls hl => ?_)
  refine lv_iconst (v := 0) hx hb dX8_commonDivisor_4 (by decide) ?_
  refine lv_istore (lv' := [(4, .int 0), (3, .int 100000000), (2, .int 100000000), (0, .int 100000000), (1, .int 100000000)]) hx hb dX8_commonDivisor_5 hl (by decide) rfl (fun ls hl => ?_)
  refine lv_iload hx hb dX8_commonDivisor_7 (lv_at hl 0 rfl) ?_
  refine lv_bipush (v := 64) hx hb dX8_commonDivisor_9 (by decide) ?_
  refine lv_icmp_ge (tgt := 34) hx hb dX8_commonDivisor_11 (by decide) (fun c => absurd c (by decide)) (fun _ => ?_)
  refine lv_iload_n hx hb dX8_commonDivisor_14 rfl (lv_at hl 1 rfl) ?_
  refine lv_if_eq (tgt := 34) hx hb dX8_commonDivisor_15 (by decide) (fun c => absurd c (by decide)) (fun _ => ?_)
  refine lv_iload_n hx hb dX8_commonDivisor_18 rfl (lv_at hl 2 rfl) ?_
  refine lv_iload_n hx hb dX8_commonDivisor_19 rfl (lv_at hl 1 rfl) ?_
  refine lv_irem hx hb dX8_commonDivisor_20 (by decide) (tpi (v := 0) (by decide) ?_)
  refine lv_istore (lv' := [(5, .int 0), (4, .int 0), (3, .int 100000000), (2, .int 100000000), (0, .int 100000000), (1, .int 100000000)]) hx hb dX8_commonDivisor_21 hl (by decide) rfl (fun ls hl => ?_)
  refine lv_iload_n hx hb dX8_commonDivisor_23 rfl (lv_at hl 2 rfl) ?_
  refine lv_istore_n (lv' := [(2, .int 100000000), (5, .int 0), (4, .int 0), (3, .int 100000000), (0, .int 100000000), (1, .int 100000000)]) hx hb dX8_commonDivisor_24 rfl hl (by decide) rfl (fun ls hl => ?_)
  refine lv_iload hx hb dX8_commonDivisor_25 (lv_at hl 1 rfl) ?_
  refine lv_istore_n (lv' := [(3, .int 0), (2, .int 100000000), (5, .int 0), (4, .int 0), (0, .int 100000000), (1, .int 100000000)]) hx hb dX8_commonDivisor_27 rfl hl (by decide) rfl (fun ls hl => ?_)
  refine lv_iinc (v := 1) (lv' := [(4, .int 1), (3, .int 0), (2, .int 100000000), (5, .int 0), (0, .int 100000000), (1, .int 100000000)]) hx hb dX8_commonDivisor_28 hl (k := 3) rfl (by decide) (by decide) rfl (fun ls hl => ?_)
  refine lv_goto (tgt := 7) hx hb dX8_commonDivisor_31 (by decide) ?_
  refine lv_iload hx hb dX8_commonDivisor_7 (lv_at hl 0 rfl) ?_
  refine lv_bipush (v := 64) hx hb dX8_commonDivisor_9 (by decide) ?_
  refine lv_icmp_ge (tgt := 34) hx hb dX8_commonDivisor_11 (by decide) (fun c => absurd c (by decide)) (fun _ => ?_)
  refine lv_iload_n hx hb dX8_commonDivisor_14 rfl (lv_at hl 1 rfl) ?_
  refine lv_if_eq (tgt := 34) hx hb dX8_commonDivisor_15 (by decide) (fun _ => ?_) (fun c => absurd (by decide) c)
  refine lv_iconst (v := 1) hx hb dX8_commonDivisor_34 (by decide) ?_
  refine lv_iload_n hx hb dX8_commonDivisor_35 rfl (lv_at hl 2 rfl) ?_
  refine va_mmax hx hb (hml.trans hl.1.symm) hown (hts (.methodLink RX8 282 Lib.Math.max.name) (List.mem_of_getElem? (i := 1) (by decide +kernel))) (hts (.static Lib.Math.max.name) (List.mem_of_getElem? (i := 2) (by decide +kernel))) (hts (.initialized "java/lang/Math") (List.mem_of_getElem? (i := 3) (by decide +kernel))) (hts (.code Lib.Math.max.name Lib.Math.max.code 2 (some .int)) (List.mem_of_getElem? (i := 4) (by decide +kernel))) (Nat.le_of_ble_eq_true rfl) (Nat.le_of_ble_eq_true rfl) (Nat.le_of_ble_eq_true rfl) (Nat.le_of_ble_eq_true rfl) dX8_commonDivisor_36 (tpi (v := 100000000) (by decide) ?_)
  exact rtI hx hb hr hlk rfl hP hD hS () [] rfl rfl rfl dX8_commonDivisor_39
set_option maxHeartbeats 4000000 in
set_option maxRecDepth 100000 in
theorem k_X8_odds_0 (l : Launch) (D : va_G) (cy : Nat → ClassId) (a0 a1 : Nat) (v0_0 : Value) (v0_2 : Value) (v0_3 : Value) (v0_4 : Value) (v0_5 : Value) (v0_6 : Value) (v0_7 : Value) (v0_8 : Value) (v0_9 : Value) (v0_10 : Value) (v0_11 : Value) (v0_12 : Value) (v1_0 : Value) (v1_1 : Value) (v1_2 : Value) (v1_4 : Value) (v1_5 : Value) (v1_6 : Value) (v1_7 : Value) (v1_8 : Value) (v1_9 : Value) (v1_10 : Value) (v1_11 : Value) (p1 : Int32) (p2 : Int32) (sz : Nat) : CtI l yX8_odds wsX8_odds 2 65 [.ref a0, .int p1, .int p2] D cy [(a0, .inr (8, [v0_0, .ref a1, v0_2, v0_3, v0_4, v0_5, v0_6, v0_7, v0_8, v0_9, v0_10, v0_11, v0_12])), (a1, .inr (5, [v1_0, v1_1, v1_2, .int 0, v1_4, v1_5, v1_6, v1_7, v1_8, v1_9, v1_10, v1_11]))] sz 0 0 (fun (r : Int32) (_ : Unit) => (r = (-1) ∧ (((p1 < 0)) ∨ ((¬ p1 < 0) ∧ (4 < p1)) ∨ ((¬ p1 < 0) ∧ (¬ 4 < p1) ∧ ((((¬ p2 = 0) ∧ (¬ p2 = 1))))))) ∨ (r = 1 ∧ (((¬ p1 < 0) ∧ (¬ 4 < p1) ∧ ((((p2 = 0)) ∨ ((¬ p2 = 0) ∧ (p2 = 1)))) ∧ (p1 = 0) ∧ (p2 = 0)) ∨ ((¬ p1 < 0) ∧ (¬ 4 < p1) ∧ ((((p2 = 0)) ∨ ((¬ p2 = 0) ∧ (p2 = 1)))) ∧ (p1 = 0) ∧ (p2 = 1)) ∨ ((¬ p1 < 0) ∧ (¬ 4 < p1) ∧ ((((p2 = 0)) ∨ ((¬ p2 = 0) ∧ (p2 = 1)))) ∧ (p1 = 1) ∧ (p2 = 0)) ∨ ((¬ p1 < 0) ∧ (¬ 4 < p1) ∧ ((((p2 = 0)) ∨ ((¬ p2 = 0) ∧ (p2 = 1)))) ∧ (p1 = 1) ∧ (p2 = 1)) ∨ ((¬ p1 < 0) ∧ (¬ 4 < p1) ∧ ((((p2 = 0)) ∨ ((¬ p2 = 0) ∧ (p2 = 1)))) ∧ (p1 = 2) ∧ (p2 = 0)) ∨ ((¬ p1 < 0) ∧ (¬ 4 < p1) ∧ ((((p2 = 0)) ∨ ((¬ p2 = 0) ∧ (p2 = 1)))) ∧ (p1 = 2) ∧ (p2 = 1)) ∨ ((¬ p1 < 0) ∧ (¬ 4 < p1) ∧ ((((p2 = 0)) ∨ ((¬ p2 = 0) ∧ (p2 = 1)))) ∧ (p1 = 3) ∧ (p2 = 0)) ∨ ((¬ p1 < 0) ∧ (¬ 4 < p1) ∧ ((((p2 = 0)) ∨ ((¬ p2 = 0) ∧ (p2 = 1)))) ∧ (p1 = 3) ∧ (p2 = 1)) ∨ ((¬ p1 < 0) ∧ (¬ 4 < p1) ∧ ((((p2 = 0)) ∨ ((¬ p2 = 0) ∧ (p2 = 1)))) ∧ (p1 = 4) ∧ (p2 = 0)) ∨ ((¬ p1 < 0) ∧ (¬ 4 < p1) ∧ ((((p2 = 0)) ∨ ((¬ p2 = 0) ∧ (p2 = 1)))) ∧ (p1 = 4) ∧ (p2 = 1))))) (fun _ => []) := by
  refine CtI.of (cc := cX8_odds) (maxL := 6) (ty := .int) (own := RX8) (by decide) rfl (Nat.le_of_ble_eq_true rfl) rfl ?_
  intro p e s m below meth c A ls hx hb hr hml hts hown hlk hK hP hD hS hA hl
  have hl : lv_has ls 6 [(0, .ref a0), (1, .int p1), (2, .int p2)] := hl
  refine st0 (fun H locs hP hS => ?_) hP hS
  have hP : va_P D vwCl [(a0, .inr (8, [v0_0, .ref a1, v0_2, v0_3, v0_4, v0_5, v0_6, v0_7, v0_8, v0_9, v0_10, v0_11, v0_12])), (a1, .inr (5, [v1_0, v1_1, v1_2, .int 0, v1_4, v1_5, v1_6, v1_7, v1_8, v1_9, v1_10, v1_11]))] H := hP
  have hD : va_D A [(a0, .inr (8, [v0_0, .ref a1, v0_2, v0_3, v0_4, v0_5, v0_6, v0_7, v0_8, v0_9, v0_10, v0_11, v0_12])), (a1, .inr (5, [v1_0, v1_1, v1_2, .int 0, v1_4, v1_5, v1_6, v1_7, v1_8, v1_9, v1_10, v1_11]))] := hD
  refine lv_iload_n hx hb dX8_odds_0 rfl (lv_at hl 1 rfl) ?_
  refine lv_if_lt (tgt := 16) hx hb dX8_odds_1 (by decide) (fun c1 => ?_) (fun c1 => ?_)
  · refine lv_iconst (v := (-1)) hx hb dX8_odds_16 (by decide) ?_
    exact rtI hx hb hr hlk rfl hP hD hS () [] rfl rfl (Or.inl ⟨rfl, (Or.inl c1)⟩) dX8_odds_17
  · refine lv_iload_n hx hb dX8_odds_4 rfl (lv_at hl 1 rfl) ?_
    refine lv_iconst (v := 4) hx hb dX8_odds_5 (by decide) ?_
    refine lv_icmp_gt (tgt := 16) hx hb dX8_odds_6 (by decide) (fun c2 => ?_) (fun c2 => ?_)
    · refine lv_iconst (v := (-1)) hx hb dX8_odds_16 (by decide) ?_
      exact rtI hx hb hr hlk rfl hP hD hS () [] rfl rfl (Or.inl ⟨rfl, (Or.inr (Or.inl ⟨c1, c2⟩))⟩) dX8_odds_17
    · refine lv_iload_n hx hb dX8_odds_9 rfl (lv_at hl 2 rfl) ?_
      refine clSI (As := [.int p2]) (rest := []) (wr := [(a0, .inr (8, [v0_0, .ref a1, v0_2, v0_3, v0_4, v0_5, v0_6, v0_7, v0_8, v0_9, v0_10, v0_11, v0_12])), (a1, .inr (5, [v1_0, v1_1, v1_2, .int 0, v1_4, v1_5, v1_6, v1_7, v1_8, v1_9, v1_10, v1_11]))]) ⟨hx, hb, hml, hown, hts⟩ hK hP hD hS hA (k_X8_isZeroOrOne_0 l D cy p2 _) (va_cwS 1 hts gX8_odds_X8_isZeroOrOne rfl rfl rfl (by decide +kernel) ⟨Nat.le_of_ble_eq_true rfl, Nat.le_of_ble_eq_true rfl⟩) [] [0, 1] rfl rfl rfl rfl (by decide) rfl hl.1 rfl (Nat.le_of_ble_eq_true rfl) dX8_odds_10 ⟨Nat.le_of_ble_eq_true rfl, Nat.le_of_ble_eq_true rfl⟩ rfl rfl (fun r _ H locs hw hP hD hS => ?_)
      have hP : va_P D vwCl [(a0, .inr (8, [v0_0, .ref a1, v0_2, v0_3, v0_4, v0_5, v0_6, v0_7, v0_8, v0_9, v0_10, v0_11, v0_12])), (a1, .inr (5, [v1_0, v1_1, v1_2, .int 0, v1_4, v1_5, v1_6, v1_7, v1_8, v1_9, v1_10, v1_11]))] H := hP
      have hD : va_D A [(a0, .inr (8, [v0_0, .ref a1, v0_2, v0_3, v0_4, v0_5, v0_6, v0_7, v0_8, v0_9, v0_10, v0_11, v0_12])), (a1, .inr (5, [v1_0, v1_1, v1_2, .int 0, v1_4, v1_5, v1_6, v1_7, v1_8, v1_9, v1_10, v1_11]))] := hD
      rcases (show (r = 1 ∧ (((p2 = 0)) ∨ ((¬ p2 = 0) ∧ (p2 = 1)))) ∨ (r = 0 ∧ (((¬ p2 = 0) ∧ (¬ p2 = 1)))) from hw) with ⟨rfl, c4⟩ | ⟨rfl, c4⟩
      · refine lv_if_ne (tgt := 18) hx hb dX8_odds_13 (by decide) (fun _ => ?_) (fun c => absurd c (by decide))
        have hsp5 : p1 = 0 ∨ p1 = 1 ∨ p1 = 2 ∨ p1 = 3 ∨ p1 = 4 := by
          simp only [i_lt, i_le, i_eq, tl_m1, tl_0, tl_1, tl_2, tl_3, tl_4, tl_20, tl_60, tl_99, tl_1000, tl_100000] at c1 c2 ⊢
          omega
        rcases hsp5 with rfl | rfl | rfl | rfl | rfl
        · have hsp6 : p2 = 0 ∨ p2 = 1 := by
            simp only [i_lt, i_le, i_eq, tl_m1, tl_0, tl_1, tl_2, tl_3, tl_4, tl_20, tl_60, tl_99, tl_1000, tl_100000] at c4 ⊢
            omega
          rcases hsp6 with rfl | rfl
          · refine lv_iconst (v := 1) hx hb dX8_odds_18 (by decide) ?_
            refine lv_istore_n (lv' := [(3, .int 1), (0, .ref a0), (1, .int 0), (2, .int 0)]) hx hb dX8_odds_19 rfl hl (by decide) rfl (fun ls hl => ?_)
            refine lv_iconst (v := 1) hx hb dX8_odds_20 (by decide) ?_
            refine lv_istore (lv' := [(4, .int 1), (3, .int 1), (0, .ref a0), (1, .int 0), (2, .int 0)]) hx hb dX8_odds_21 hl (by decide) rfl (fun ls hl => ?_)
            refine lv_iconst (v := 0) hx hb dX8_odds_23 (by decide) ?_
            refine lv_istore (lv' := [(5, .int 0), (4, .int 1), (3, .int 1), (0, .ref a0), (1, .int 0), (2, .int 0)]) hx hb dX8_odds_24 hl (by decide) rfl (fun ls hl => ?_)
            refine lv_iload hx hb dX8_odds_26 (lv_at hl 0 rfl) ?_
            refine lv_iload_n hx hb dX8_odds_28 rfl (lv_at hl 4 rfl) ?_
            refine lv_icmp_ge (tgt := 58) hx hb dX8_odds_29 (by decide) (fun _ => ?_) (fun c => absurd (by decide) c)
            refine lv_iload hx hb dX8_odds_58 (lv_at hl 1 rfl) ?_
            refine lv_iload_n hx hb dX8_odds_60 rfl (lv_at hl 2 rfl) ?_
            refine clSI (As := [.int 1, .int 1]) (rest := []) (wr := [(a0, .inr (8, [v0_0, .ref a1, v0_2, v0_3, v0_4, v0_5, v0_6, v0_7, v0_8, v0_9, v0_10, v0_11, v0_12])), (a1, .inr (5, [v1_0, v1_1, v1_2, .int 0, v1_4, v1_5, v1_6, v1_7, v1_8, v1_9, v1_10, v1_11]))]) ⟨hx, hb, hml, hown, hts⟩ hK hP hD hS hA (k_X8_commonDivisor_0 l D cy _) (va_cwS 2 hts gX8_odds_X8_commonDivisor rfl rfl rfl (by decide +kernel) ⟨Nat.le_of_ble_eq_true rfl, Nat.le_of_ble_eq_true rfl⟩) [] [0, 1] rfl rfl rfl rfl (by decide) rfl hl.1 rfl (Nat.le_of_ble_eq_true rfl) dX8_odds_61 ⟨Nat.le_of_ble_eq_true rfl, Nat.le_of_ble_eq_true rfl⟩ rfl rfl (fun r _ H locs hw hP hD hS => ?_)
            have hP : va_P D vwCl [(a0, .inr (8, [v0_0, .ref a1, v0_2, v0_3, v0_4, v0_5, v0_6, v0_7, v0_8, v0_9, v0_10, v0_11, v0_12])), (a1, .inr (5, [v1_0, v1_1, v1_2, .int 0, v1_4, v1_5, v1_6, v1_7, v1_8, v1_9, v1_10, v1_11]))] H := hP
            have hD : va_D A [(a0, .inr (8, [v0_0, .ref a1, v0_2, v0_3, v0_4, v0_5, v0_6, v0_7, v0_8, v0_9, v0_10, v0_11, v0_12])), (a1, .inr (5, [v1_0, v1_1, v1_2, .int 0, v1_4, v1_5, v1_6, v1_7, v1_8, v1_9, v1_10, v1_11]))] := hD
            obtain rfl : r = 1 := hw
            refine lv_istore (lv' := [(5, .int 1), (4, .int 1), (3, .int 1), (0, .ref a0), (1, .int 0), (2, .int 0)]) hx hb dX8_odds_64 hl (by decide) rfl (fun ls hl => ?_)
            refine lv_iload_n hx hb dX8_odds_66 rfl (lv_at hl 5 rfl) ?_
            refine lv_if_ne (tgt := 74) hx hb dX8_odds_67 (by decide) (fun c => absurd (by decide) c) (fun _ => ?_)
            refine lv_iload_n hx hb dX8_odds_70 rfl (lv_at hl 2 rfl) ?_
            refine lv_goto (tgt := 76) hx hb dX8_odds_71 (by decide) ?_
            refine lv_iload hx hb dX8_odds_76 (lv_at hl 0 rfl) ?_
            refine lv_idiv hx hb dX8_odds_78 (by decide) (tpi (v := 1) (by decide) ?_)
            exact rtI hx hb hr hlk rfl hP hD hS () [] rfl rfl (Or.inr ⟨rfl, (Or.inl ⟨c1, c2, c4, rfl, rfl⟩)⟩) dX8_odds_79
          · refine lv_iconst (v := 1) hx hb dX8_odds_18 (by decide) ?_
            refine lv_istore_n (lv' := [(3, .int 1), (0, .ref a0), (1, .int 0), (2, .int 1)]) hx hb dX8_odds_19 rfl hl (by decide) rfl (fun ls hl => ?_)
            refine lv_iconst (v := 1) hx hb dX8_odds_20 (by decide) ?_
            refine lv_istore (lv' := [(4, .int 1), (3, .int 1), (0, .ref a0), (1, .int 0), (2, .int 1)]) hx hb dX8_odds_21 hl (by decide) rfl (fun ls hl => ?_)
            refine lv_iconst (v := 0) hx hb dX8_odds_23 (by decide) ?_
            refine lv_istore (lv' := [(5, .int 0), (4, .int 1), (3, .int 1), (0, .ref a0), (1, .int 0), (2, .int 1)]) hx hb dX8_odds_24 hl (by decide) rfl (fun ls hl => ?_)
            refine lv_iload hx hb dX8_odds_26 (lv_at hl 0 rfl) ?_
            refine lv_iload_n hx hb dX8_odds_28 rfl (lv_at hl 4 rfl) ?_
            refine lv_icmp_ge (tgt := 58) hx hb dX8_odds_29 (by decide) (fun _ => ?_) (fun c => absurd (by decide) c)
            refine lv_iload hx hb dX8_odds_58 (lv_at hl 1 rfl) ?_
            refine lv_iload_n hx hb dX8_odds_60 rfl (lv_at hl 2 rfl) ?_
            refine clSI (As := [.int 1, .int 1]) (rest := []) (wr := [(a0, .inr (8, [v0_0, .ref a1, v0_2, v0_3, v0_4, v0_5, v0_6, v0_7, v0_8, v0_9, v0_10, v0_11, v0_12])), (a1, .inr (5, [v1_0, v1_1, v1_2, .int 0, v1_4, v1_5, v1_6, v1_7, v1_8, v1_9, v1_10, v1_11]))]) ⟨hx, hb, hml, hown, hts⟩ hK hP hD hS hA (k_X8_commonDivisor_0 l D cy _) (va_cwS 2 hts gX8_odds_X8_commonDivisor rfl rfl rfl (by decide +kernel) ⟨Nat.le_of_ble_eq_true rfl, Nat.le_of_ble_eq_true rfl⟩) [] [0, 1] rfl rfl rfl rfl (by decide) rfl hl.1 rfl (Nat.le_of_ble_eq_true rfl) dX8_odds_61 ⟨Nat.le_of_ble_eq_true rfl, Nat.le_of_ble_eq_true rfl⟩ rfl rfl (fun r _ H locs hw hP hD hS => ?_)
            have hP : va_P D vwCl [(a0, .inr (8, [v0_0, .ref a1, v0_2, v0_3, v0_4, v0_5, v0_6, v0_7, v0_8, v0_9, v0_10, v0_11, v0_12])), (a1, .inr (5, [v1_0, v1_1, v1_2, .int 0, v1_4, v1_5, v1_6, v1_7, v1_8, v1_9, v1_10, v1_11]))] H := hP
            have hD : va_D A [(a0, .inr (8, [v0_0, .ref a1, v0_2, v0_3, v0_4, v0_5, v0_6, v0_7, v0_8, v0_9, v0_10, v0_11, v0_12])), (a1, .inr (5, [v1_0, v1_1, v1_2, .int 0, v1_4, v1_5, v1_6, v1_7, v1_8, v1_9, v1_10, v1_11]))] := hD
            obtain rfl : r = 1 := hw
            refine lv_istore (lv' := [(5, .int 1), (4, .int 1), (3, .int 1), (0, .ref a0), (1, .int 0), (2, .int 1)]) hx hb dX8_odds_64 hl (by decide) rfl (fun ls hl => ?_)
            refine lv_iload_n hx hb dX8_odds_66 rfl (lv_at hl 5 rfl) ?_
            refine lv_if_ne (tgt := 74) hx hb dX8_odds_67 (by decide) (fun _ => ?_) (fun c => absurd c (by decide))
            refine lv_iload hx hb dX8_odds_74 (lv_at hl 1 rfl) ?_
            refine lv_iload hx hb dX8_odds_76 (lv_at hl 0 rfl) ?_
            refine lv_idiv hx hb dX8_odds_78 (by decide) (tpi (v := 1) (by decide) ?_)
            exact rtI hx hb hr hlk rfl hP hD hS () [] rfl rfl (Or.inr ⟨rfl, (Or.inr (Or.inl ⟨c1, c2, c4, rfl, rfl⟩))⟩) dX8_odds_79
        · have hsp9 : p2 = 0 ∨ p2 = 1 := by
            simp only [i_lt, i_le, i_eq, tl_m1, tl_0, tl_1, tl_2, tl_3, tl_4, tl_20, tl_60, tl_99, tl_1000, tl_100000] at c4 ⊢
            omega
          rcases hsp9 with rfl | rfl
          · refine lv_iconst (v := 1) hx hb dX8_odds_18 (by decide) ?_
            refine lv_istore_n (lv' := [(3, .int 1), (0, .ref a0), (1, .int 1), (2, .int 0)]) hx hb dX8_odds_19 rfl hl (by decide) rfl (fun ls hl => ?_)
            refine lv_iconst (v := 1) hx hb dX8_odds_20 (by decide) ?_
            refine lv_istore (lv' := [(4, .int 1), (3, .int 1), (0, .ref a0), (1, .int 1), (2, .int 0)]) hx hb dX8_odds_21 hl (by decide) rfl (fun ls hl => ?_)
            refine lv_iconst (v := 0) hx hb dX8_odds_23 (by decide) ?_
            refine lv_istore (lv' := [(5, .int 0), (4, .int 1), (3, .int 1), (0, .ref a0), (1, .int 1), (2, .int 0)]) hx hb dX8_odds_24 hl (by decide) rfl (fun ls hl => ?_)
            refine lv_iload hx hb dX8_odds_26 (lv_at hl 0 rfl) ?_
            refine lv_iload_n hx hb dX8_odds_28 rfl (lv_at hl 4 rfl) ?_
            refine lv_icmp_ge (tgt := 58) hx hb dX8_odds_29 (by decide) (fun c => absurd c (by decide)) (fun _ => ?_)
            refine lv_iload_n hx hb dX8_odds_32 rfl (lv_at hl 2 rfl) ?_
            refine lv_bipush (v := 100) hx hb dX8_odds_33 (by decide) ?_
            refine lv_aload_n hx hb dX8_odds_35 rfl (lv_at hl 3 rfl) ?_
            refine va_get (D := D) (cl := vwCl) (ci := 8) (v := .ref a1) (C := RX8) (T := TX8) (N := 13) hx hb hts in_X8_odds_X8 hown hK hP 0 rfl rfl 1 (by decide) (hts (.fieldLink RX8 19 "EightReasons" "told" "LEightReasons$Suit;") (List.mem_of_getElem? (i := 1) (by decide +kernel))) (fun _ h9 => h9) rfl dX8_odds_36 ?_
            refine va_get (D := D) (cl := vwCl) (ci := 5) (v := .int 0) (C := RX5) (T := TX5) (N := 12) hx hb hts in_X8_odds_X5 hown hK hP 1 rfl rfl 3 (by decide) (hts (.fieldLink RX8 184 "EightReasons$Suit" "fray" "I") (List.mem_of_getElem? (i := 2) (by decide +kernel))) (fun _ h9 => h9) rfl dX8_odds_39 ?_
            refine lv_isub hx hb dX8_odds_42 (tpi (v := 100) (by decide) ?_)
            refine lv_imul hx hb dX8_odds_43 (tpi (v := 100) (by decide) ?_)
            refine lv_istore_n (lv' := [(3, .int 100), (5, .int 0), (4, .int 1), (0, .ref a0), (1, .int 1), (2, .int 0)]) hx hb dX8_odds_44 rfl hl (by decide) rfl (fun ls hl => ?_)
            refine lv_iload hx hb dX8_odds_45 (lv_at hl 2 rfl) ?_
            refine lv_bipush (v := 100) hx hb dX8_odds_47 (by decide) ?_
            refine lv_imul hx hb dX8_odds_49 (tpi (v := 100) (by decide) ?_)
            refine lv_istore (lv' := [(4, .int 100), (3, .int 100), (5, .int 0), (0, .ref a0), (1, .int 1), (2, .int 0)]) hx hb dX8_odds_50 hl (by decide) rfl (fun ls hl => ?_)
            refine lv_iinc (v := 1) (lv' := [(5, .int 1), (4, .int 100), (3, .int 100), (0, .ref a0), (1, .int 1), (2, .int 0)]) hx hb dX8_odds_52 hl (k := 2) rfl (by decide) (by decide) rfl (fun ls hl => ?_)
            refine lv_goto (tgt := 26) hx hb dX8_odds_55 (by decide) ?_
            refine lv_iload hx hb dX8_odds_26 (lv_at hl 0 rfl) ?_
            refine lv_iload_n hx hb dX8_odds_28 rfl (lv_at hl 4 rfl) ?_
            refine lv_icmp_ge (tgt := 58) hx hb dX8_odds_29 (by decide) (fun _ => ?_) (fun c => absurd (by decide) c)
            refine lv_iload hx hb dX8_odds_58 (lv_at hl 1 rfl) ?_
            refine lv_iload_n hx hb dX8_odds_60 rfl (lv_at hl 2 rfl) ?_
            refine clSI (As := [.int 100, .int 100]) (rest := []) (wr := [(a0, .inr (8, [v0_0, .ref a1, v0_2, v0_3, v0_4, v0_5, v0_6, v0_7, v0_8, v0_9, v0_10, v0_11, v0_12])), (a1, .inr (5, [v1_0, v1_1, v1_2, .int 0, v1_4, v1_5, v1_6, v1_7, v1_8, v1_9, v1_10, v1_11]))]) ⟨hx, hb, hml, hown, hts⟩ hK hP hD hS hA (k_X8_commonDivisor_1 l D cy _) (va_cwS 2 hts gX8_odds_X8_commonDivisor rfl rfl rfl (by decide +kernel) ⟨Nat.le_of_ble_eq_true rfl, Nat.le_of_ble_eq_true rfl⟩) [] [0, 1] rfl rfl rfl rfl (by decide) rfl hl.1 rfl (Nat.le_of_ble_eq_true rfl) dX8_odds_61 ⟨Nat.le_of_ble_eq_true rfl, Nat.le_of_ble_eq_true rfl⟩ rfl rfl (fun r _ H locs hw hP hD hS => ?_)
            have hP : va_P D vwCl [(a0, .inr (8, [v0_0, .ref a1, v0_2, v0_3, v0_4, v0_5, v0_6, v0_7, v0_8, v0_9, v0_10, v0_11, v0_12])), (a1, .inr (5, [v1_0, v1_1, v1_2, .int 0, v1_4, v1_5, v1_6, v1_7, v1_8, v1_9, v1_10, v1_11]))] H := hP
            have hD : va_D A [(a0, .inr (8, [v0_0, .ref a1, v0_2, v0_3, v0_4, v0_5, v0_6, v0_7, v0_8, v0_9, v0_10, v0_11, v0_12])), (a1, .inr (5, [v1_0, v1_1, v1_2, .int 0, v1_4, v1_5, v1_6, v1_7, v1_8, v1_9, v1_10, v1_11]))] := hD
            obtain rfl : r = 100 := hw
            refine lv_istore (lv' := [(5, .int 100), (4, .int 100), (3, .int 100), (0, .ref a0), (1, .int 1), (2, .int 0)]) hx hb dX8_odds_64 hl (by decide) rfl (fun ls hl => ?_)
            refine lv_iload_n hx hb dX8_odds_66 rfl (lv_at hl 5 rfl) ?_
            refine lv_if_ne (tgt := 74) hx hb dX8_odds_67 (by decide) (fun c => absurd (by decide) c) (fun _ => ?_)
            refine lv_iload_n hx hb dX8_odds_70 rfl (lv_at hl 2 rfl) ?_
            refine lv_goto (tgt := 76) hx hb dX8_odds_71 (by decide) ?_
            refine lv_iload hx hb dX8_odds_76 (lv_at hl 0 rfl) ?_
            refine lv_idiv hx hb dX8_odds_78 (by decide) (tpi (v := 1) (by decide) ?_)
            exact rtI hx hb hr hlk rfl hP hD hS () [] rfl rfl (Or.inr ⟨rfl, (Or.inr (Or.inr (Or.inl ⟨c1, c2, c4, rfl, rfl⟩)))⟩) dX8_odds_79
          · refine lv_iconst (v := 1) hx hb dX8_odds_18 (by decide) ?_
            refine lv_istore_n (lv' := [(3, .int 1), (0, .ref a0), (1, .int 1), (2, .int 1)]) hx hb dX8_odds_19 rfl hl (by decide) rfl (fun ls hl => ?_)
            refine lv_iconst (v := 1) hx hb dX8_odds_20 (by decide) ?_
            refine lv_istore (lv' := [(4, .int 1), (3, .int 1), (0, .ref a0), (1, .int 1), (2, .int 1)]) hx hb dX8_odds_21 hl (by decide) rfl (fun ls hl => ?_)
            refine lv_iconst (v := 0) hx hb dX8_odds_23 (by decide) ?_
            refine lv_istore (lv' := [(5, .int 0), (4, .int 1), (3, .int 1), (0, .ref a0), (1, .int 1), (2, .int 1)]) hx hb dX8_odds_24 hl (by decide) rfl (fun ls hl => ?_)
            refine lv_iload hx hb dX8_odds_26 (lv_at hl 0 rfl) ?_
            refine lv_iload_n hx hb dX8_odds_28 rfl (lv_at hl 4 rfl) ?_
            refine lv_icmp_ge (tgt := 58) hx hb dX8_odds_29 (by decide) (fun c => absurd c (by decide)) (fun _ => ?_)
            refine lv_iload_n hx hb dX8_odds_32 rfl (lv_at hl 2 rfl) ?_
            refine lv_bipush (v := 100) hx hb dX8_odds_33 (by decide) ?_
            refine lv_aload_n hx hb dX8_odds_35 rfl (lv_at hl 3 rfl) ?_
            refine va_get (D := D) (cl := vwCl) (ci := 8) (v := .ref a1) (C := RX8) (T := TX8) (N := 13) hx hb hts in_X8_odds_X8 hown hK hP 0 rfl rfl 1 (by decide) (hts (.fieldLink RX8 19 "EightReasons" "told" "LEightReasons$Suit;") (List.mem_of_getElem? (i := 1) (by decide +kernel))) (fun _ h9 => h9) rfl dX8_odds_36 ?_
            refine va_get (D := D) (cl := vwCl) (ci := 5) (v := .int 0) (C := RX5) (T := TX5) (N := 12) hx hb hts in_X8_odds_X5 hown hK hP 1 rfl rfl 3 (by decide) (hts (.fieldLink RX8 184 "EightReasons$Suit" "fray" "I") (List.mem_of_getElem? (i := 2) (by decide +kernel))) (fun _ h9 => h9) rfl dX8_odds_39 ?_
            refine lv_isub hx hb dX8_odds_42 (tpi (v := 100) (by decide) ?_)
            refine lv_imul hx hb dX8_odds_43 (tpi (v := 100) (by decide) ?_)
            refine lv_istore_n (lv' := [(3, .int 100), (5, .int 0), (4, .int 1), (0, .ref a0), (1, .int 1), (2, .int 1)]) hx hb dX8_odds_44 rfl hl (by decide) rfl (fun ls hl => ?_)
            refine lv_iload hx hb dX8_odds_45 (lv_at hl 2 rfl) ?_
            refine lv_bipush (v := 100) hx hb dX8_odds_47 (by decide) ?_
            refine lv_imul hx hb dX8_odds_49 (tpi (v := 100) (by decide) ?_)
            refine lv_istore (lv' := [(4, .int 100), (3, .int 100), (5, .int 0), (0, .ref a0), (1, .int 1), (2, .int 1)]) hx hb dX8_odds_50 hl (by decide) rfl (fun ls hl => ?_)
            refine lv_iinc (v := 1) (lv' := [(5, .int 1), (4, .int 100), (3, .int 100), (0, .ref a0), (1, .int 1), (2, .int 1)]) hx hb dX8_odds_52 hl (k := 2) rfl (by decide) (by decide) rfl (fun ls hl => ?_)
            refine lv_goto (tgt := 26) hx hb dX8_odds_55 (by decide) ?_
            refine lv_iload hx hb dX8_odds_26 (lv_at hl 0 rfl) ?_
            refine lv_iload_n hx hb dX8_odds_28 rfl (lv_at hl 4 rfl) ?_
            refine lv_icmp_ge (tgt := 58) hx hb dX8_odds_29 (by decide) (fun _ => ?_) (fun c => absurd (by decide) c)
            refine lv_iload hx hb dX8_odds_58 (lv_at hl 1 rfl) ?_
            refine lv_iload_n hx hb dX8_odds_60 rfl (lv_at hl 2 rfl) ?_
            refine clSI (As := [.int 100, .int 100]) (rest := []) (wr := [(a0, .inr (8, [v0_0, .ref a1, v0_2, v0_3, v0_4, v0_5, v0_6, v0_7, v0_8, v0_9, v0_10, v0_11, v0_12])), (a1, .inr (5, [v1_0, v1_1, v1_2, .int 0, v1_4, v1_5, v1_6, v1_7, v1_8, v1_9, v1_10, v1_11]))]) ⟨hx, hb, hml, hown, hts⟩ hK hP hD hS hA (k_X8_commonDivisor_1 l D cy _) (va_cwS 2 hts gX8_odds_X8_commonDivisor rfl rfl rfl (by decide +kernel) ⟨Nat.le_of_ble_eq_true rfl, Nat.le_of_ble_eq_true rfl⟩) [] [0, 1] rfl rfl rfl rfl (by decide) rfl hl.1 rfl (Nat.le_of_ble_eq_true rfl) dX8_odds_61 ⟨Nat.le_of_ble_eq_true rfl, Nat.le_of_ble_eq_true rfl⟩ rfl rfl (fun r _ H locs hw hP hD hS => ?_)
            have hP : va_P D vwCl [(a0, .inr (8, [v0_0, .ref a1, v0_2, v0_3, v0_4, v0_5, v0_6, v0_7, v0_8, v0_9, v0_10, v0_11, v0_12])), (a1, .inr (5, [v1_0, v1_1, v1_2, .int 0, v1_4, v1_5, v1_6, v1_7, v1_8, v1_9, v1_10, v1_11]))] H := hP
            have hD : va_D A [(a0, .inr (8, [v0_0, .ref a1, v0_2, v0_3, v0_4, v0_5, v0_6, v0_7, v0_8, v0_9, v0_10, v0_11, v0_12])), (a1, .inr (5, [v1_0, v1_1, v1_2, .int 0, v1_4, v1_5, v1_6, v1_7, v1_8, v1_9, v1_10, v1_11]))] := hD
            obtain rfl : r = 100 := hw
            refine lv_istore (lv' := [(5, .int 100), (4, .int 100), (3, .int 100), (0, .ref a0), (1, .int 1), (2, .int 1)]) hx hb dX8_odds_64 hl (by decide) rfl (fun ls hl => ?_)
            refine lv_iload_n hx hb dX8_odds_66 rfl (lv_at hl 5 rfl) ?_
            refine lv_if_ne (tgt := 74) hx hb dX8_odds_67 (by decide) (fun _ => ?_) (fun c => absurd c (by decide))
            refine lv_iload hx hb dX8_odds_74 (lv_at hl 1 rfl) ?_
            refine lv_iload hx hb dX8_odds_76 (lv_at hl 0 rfl) ?_
            refine lv_idiv hx hb dX8_odds_78 (by decide) (tpi (v := 1) (by decide) ?_)
            exact rtI hx hb hr hlk rfl hP hD hS () [] rfl rfl (Or.inr ⟨rfl, (Or.inr (Or.inr (Or.inr (Or.inl ⟨c1, c2, c4, rfl, rfl⟩))))⟩) dX8_odds_79
        · have hsp12 : p2 = 0 ∨ p2 = 1 := by
            simp only [i_lt, i_le, i_eq, tl_m1, tl_0, tl_1, tl_2, tl_3, tl_4, tl_20, tl_60, tl_99, tl_1000, tl_100000] at c4 ⊢
            omega
          rcases hsp12 with rfl | rfl
          · refine lv_iconst (v := 1) hx hb dX8_odds_18 (by decide) ?_
            refine lv_istore_n (lv' := [(3, .int 1), (0, .ref a0), (1, .int 2), (2, .int 0)]) hx hb dX8_odds_19 rfl hl (by decide) rfl (fun ls hl => ?_)
            refine lv_iconst (v := 1) hx hb dX8_odds_20 (by decide) ?_
            refine lv_istore (lv' := [(4, .int 1), (3, .int 1), (0, .ref a0), (1, .int 2), (2, .int 0)]) hx hb dX8_odds_21 hl (by decide) rfl (fun ls hl => ?_)
            refine lv_iconst (v := 0) hx hb dX8_odds_23 (by decide) ?_
            refine lv_istore (lv' := [(5, .int 0), (4, .int 1), (3, .int 1), (0, .ref a0), (1, .int 2), (2, .int 0)]) hx hb dX8_odds_24 hl (by decide) rfl (fun ls hl => ?_)
            refine lv_iload hx hb dX8_odds_26 (lv_at hl 0 rfl) ?_
            refine lv_iload_n hx hb dX8_odds_28 rfl (lv_at hl 4 rfl) ?_
            refine lv_icmp_ge (tgt := 58) hx hb dX8_odds_29 (by decide) (fun c => absurd c (by decide)) (fun _ => ?_)
            refine lv_iload_n hx hb dX8_odds_32 rfl (lv_at hl 2 rfl) ?_
            refine lv_bipush (v := 100) hx hb dX8_odds_33 (by decide) ?_
            refine lv_aload_n hx hb dX8_odds_35 rfl (lv_at hl 3 rfl) ?_
            refine va_get (D := D) (cl := vwCl) (ci := 8) (v := .ref a1) (C := RX8) (T := TX8) (N := 13) hx hb hts in_X8_odds_X8 hown hK hP 0 rfl rfl 1 (by decide) (hts (.fieldLink RX8 19 "EightReasons" "told" "LEightReasons$Suit;") (List.mem_of_getElem? (i := 1) (by decide +kernel))) (fun _ h9 => h9) rfl dX8_odds_36 ?_
            refine va_get (D := D) (cl := vwCl) (ci := 5) (v := .int 0) (C := RX5) (T := TX5) (N := 12) hx hb hts in_X8_odds_X5 hown hK hP 1 rfl rfl 3 (by decide) (hts (.fieldLink RX8 184 "EightReasons$Suit" "fray" "I") (List.mem_of_getElem? (i := 2) (by decide +kernel))) (fun _ h9 => h9) rfl dX8_odds_39 ?_
            refine lv_isub hx hb dX8_odds_42 (tpi (v := 100) (by decide) ?_)
            refine lv_imul hx hb dX8_odds_43 (tpi (v := 100) (by decide) ?_)
            refine lv_istore_n (lv' := [(3, .int 100), (5, .int 0), (4, .int 1), (0, .ref a0), (1, .int 2), (2, .int 0)]) hx hb dX8_odds_44 rfl hl (by decide) rfl (fun ls hl => ?_)
            refine lv_iload hx hb dX8_odds_45 (lv_at hl 2 rfl) ?_
            refine lv_bipush (v := 100) hx hb dX8_odds_47 (by decide) ?_
            refine lv_imul hx hb dX8_odds_49 (tpi (v := 100) (by decide) ?_)
            refine lv_istore (lv' := [(4, .int 100), (3, .int 100), (5, .int 0), (0, .ref a0), (1, .int 2), (2, .int 0)]) hx hb dX8_odds_50 hl (by decide) rfl (fun ls hl => ?_)
            refine lv_iinc (v := 1) (lv' := [(5, .int 1), (4, .int 100), (3, .int 100), (0, .ref a0), (1, .int 2), (2, .int 0)]) hx hb dX8_odds_52 hl (k := 2) rfl (by decide) (by decide) rfl (fun ls hl => ?_)
            refine lv_goto (tgt := 26) hx hb dX8_odds_55 (by decide) ?_
            refine lv_iload hx hb dX8_odds_26 (lv_at hl 0 rfl) ?_
            refine lv_iload_n hx hb dX8_odds_28 rfl (lv_at hl 4 rfl) ?_
            refine lv_icmp_ge (tgt := 58) hx hb dX8_odds_29 (by decide) (fun c => absurd c (by decide)) (fun _ => ?_)
            refine lv_iload_n hx hb dX8_odds_32 rfl (lv_at hl 2 rfl) ?_
            refine lv_bipush (v := 100) hx hb dX8_odds_33 (by decide) ?_
            refine lv_aload_n hx hb dX8_odds_35 rfl (lv_at hl 3 rfl) ?_
            refine va_get (D := D) (cl := vwCl) (ci := 8) (v := .ref a1) (C := RX8) (T := TX8) (N := 13) hx hb hts in_X8_odds_X8 hown hK hP 0 rfl rfl 1 (by decide) (hts (.fieldLink RX8 19 "EightReasons" "told" "LEightReasons$Suit;") (List.mem_of_getElem? (i := 1) (by decide +kernel))) (fun _ h9 => h9) rfl dX8_odds_36 ?_
            refine va_get (D := D) (cl := vwCl) (ci := 5) (v := .int 0) (C := RX5) (T := TX5) (N := 12) hx hb hts in_X8_odds_X5 hown hK hP 1 rfl rfl 3 (by decide) (hts (.fieldLink RX8 184 "EightReasons$Suit" "fray" "I") (List.mem_of_getElem? (i := 2) (by decide +kernel))) (fun _ h9 => h9) rfl dX8_odds_39 ?_
            refine lv_isub hx hb dX8_odds_42 (tpi (v := 100) (by decide) ?_)
            refine lv_imul hx hb dX8_odds_43 (tpi (v := 10000) (by decide) ?_)
            refine lv_istore_n (lv' := [(3, .int 10000), (5, .int 1), (4, .int 100), (0, .ref a0), (1, .int 2), (2, .int 0)]) hx hb dX8_odds_44 rfl hl (by decide) rfl (fun ls hl => ?_)
            refine lv_iload hx hb dX8_odds_45 (lv_at hl 2 rfl) ?_
            refine lv_bipush (v := 100) hx hb dX8_odds_47 (by decide) ?_
            refine lv_imul hx hb dX8_odds_49 (tpi (v := 10000) (by decide) ?_)
            refine lv_istore (lv' := [(4, .int 10000), (3, .int 10000), (5, .int 1), (0, .ref a0), (1, .int 2), (2, .int 0)]) hx hb dX8_odds_50 hl (by decide) rfl (fun ls hl => ?_)
            refine lv_iinc (v := 2) (lv' := [(5, .int 2), (4, .int 10000), (3, .int 10000), (0, .ref a0), (1, .int 2), (2, .int 0)]) hx hb dX8_odds_52 hl (k := 2) rfl (by decide) (by decide) rfl (fun ls hl => ?_)
            refine lv_goto (tgt := 26) hx hb dX8_odds_55 (by decide) ?_
            refine lv_iload hx hb dX8_odds_26 (lv_at hl 0 rfl) ?_
            refine lv_iload_n hx hb dX8_odds_28 rfl (lv_at hl 4 rfl) ?_
            refine lv_icmp_ge (tgt := 58) hx hb dX8_odds_29 (by decide) (fun _ => ?_) (fun c => absurd (by decide) c)
            refine lv_iload hx hb dX8_odds_58 (lv_at hl 1 rfl) ?_
            refine lv_iload_n hx hb dX8_odds_60 rfl (lv_at hl 2 rfl) ?_
            refine clSI (As := [.int 10000, .int 10000]) (rest := []) (wr := [(a0, .inr (8, [v0_0, .ref a1, v0_2, v0_3, v0_4, v0_5, v0_6, v0_7, v0_8, v0_9, v0_10, v0_11, v0_12])), (a1, .inr (5, [v1_0, v1_1, v1_2, .int 0, v1_4, v1_5, v1_6, v1_7, v1_8, v1_9, v1_10, v1_11]))]) ⟨hx, hb, hml, hown, hts⟩ hK hP hD hS hA (k_X8_commonDivisor_2 l D cy _) (va_cwS 2 hts gX8_odds_X8_commonDivisor rfl rfl rfl (by decide +kernel) ⟨Nat.le_of_ble_eq_true rfl, Nat.le_of_ble_eq_true rfl⟩) [] [0, 1] rfl rfl rfl rfl (by decide) rfl hl.1 rfl (Nat.le_of_ble_eq_true rfl) dX8_odds_61 ⟨Nat.le_of_ble_eq_true rfl, Nat.le_of_ble_eq_true rfl⟩ rfl rfl (fun r _ H locs hw hP hD hS => ?_)
            have hP : va_P D vwCl [(a0, .inr (8, [v0_0, .ref a1, v0_2, v0_3, v0_4, v0_5, v0_6, v0_7, v0_8, v0_9, v0_10, v0_11, v0_12])), (a1, .inr (5, [v1_0, v1_1, v1_2, .int 0, v1_4, v1_5, v1_6, v1_7, v1_8, v1_9, v1_10, v1_11]))] H := hP
            have hD : va_D A [(a0, .inr (8, [v0_0, .ref a1, v0_2, v0_3, v0_4, v0_5, v0_6, v0_7, v0_8, v0_9, v0_10, v0_11, v0_12])), (a1, .inr (5, [v1_0, v1_1, v1_2, .int 0, v1_4, v1_5, v1_6, v1_7, v1_8, v1_9, v1_10, v1_11]))] := hD
            obtain rfl : r = 10000 := hw
            refine lv_istore (lv' := [(5, .int 10000), (4, .int 10000), (3, .int 10000), (0, .ref a0), (1, .int 2), (2, .int 0)]) hx hb dX8_odds_64 hl (by decide) rfl (fun ls hl => ?_)
            refine lv_iload_n hx hb dX8_odds_66 rfl (lv_at hl 5 rfl) ?_
            refine lv_if_ne (tgt := 74) hx hb dX8_odds_67 (by decide) (fun c => absurd (by decide) c) (fun _ => ?_)
            refine lv_iload_n hx hb dX8_odds_70 rfl (lv_at hl 2 rfl) ?_
            refine lv_goto (tgt := 76) hx hb dX8_odds_71 (by decide) ?_
            refine lv_iload hx hb dX8_odds_76 (lv_at hl 0 rfl) ?_
            refine lv_idiv hx hb dX8_odds_78 (by decide) (tpi (v := 1) (by decide) ?_)
            exact rtI hx hb hr hlk rfl hP hD hS () [] rfl rfl (Or.inr ⟨rfl, (Or.inr (Or.inr (Or.inr (Or.inr (Or.inl ⟨c1, c2, c4, rfl, rfl⟩)))))⟩) dX8_odds_79
          · refine lv_iconst (v := 1) hx hb dX8_odds_18 (by decide) ?_
            refine lv_istore_n (lv' := [(3, .int 1), (0, .ref a0), (1, .int 2), (2, .int 1)]) hx hb dX8_odds_19 rfl hl (by decide) rfl (fun ls hl => ?_)
            refine lv_iconst (v := 1) hx hb dX8_odds_20 (by decide) ?_
            refine lv_istore (lv' := [(4, .int 1), (3, .int 1), (0, .ref a0), (1, .int 2), (2, .int 1)]) hx hb dX8_odds_21 hl (by decide) rfl (fun ls hl => ?_)
            refine lv_iconst (v := 0) hx hb dX8_odds_23 (by decide) ?_
            refine lv_istore (lv' := [(5, .int 0), (4, .int 1), (3, .int 1), (0, .ref a0), (1, .int 2), (2, .int 1)]) hx hb dX8_odds_24 hl (by decide) rfl (fun ls hl => ?_)
            refine lv_iload hx hb dX8_odds_26 (lv_at hl 0 rfl) ?_
            refine lv_iload_n hx hb dX8_odds_28 rfl (lv_at hl 4 rfl) ?_
            refine lv_icmp_ge (tgt := 58) hx hb dX8_odds_29 (by decide) (fun c => absurd c (by decide)) (fun _ => ?_)
            refine lv_iload_n hx hb dX8_odds_32 rfl (lv_at hl 2 rfl) ?_
            refine lv_bipush (v := 100) hx hb dX8_odds_33 (by decide) ?_
            refine lv_aload_n hx hb dX8_odds_35 rfl (lv_at hl 3 rfl) ?_
            refine va_get (D := D) (cl := vwCl) (ci := 8) (v := .ref a1) (C := RX8) (T := TX8) (N := 13) hx hb hts in_X8_odds_X8 hown hK hP 0 rfl rfl 1 (by decide) (hts (.fieldLink RX8 19 "EightReasons" "told" "LEightReasons$Suit;") (List.mem_of_getElem? (i := 1) (by decide +kernel))) (fun _ h9 => h9) rfl dX8_odds_36 ?_
            refine va_get (D := D) (cl := vwCl) (ci := 5) (v := .int 0) (C := RX5) (T := TX5) (N := 12) hx hb hts in_X8_odds_X5 hown hK hP 1 rfl rfl 3 (by decide) (hts (.fieldLink RX8 184 "EightReasons$Suit" "fray" "I") (List.mem_of_getElem? (i := 2) (by decide +kernel))) (fun _ h9 => h9) rfl dX8_odds_39 ?_
            refine lv_isub hx hb dX8_odds_42 (tpi (v := 100) (by decide) ?_)
            refine lv_imul hx hb dX8_odds_43 (tpi (v := 100) (by decide) ?_)
            refine lv_istore_n (lv' := [(3, .int 100), (5, .int 0), (4, .int 1), (0, .ref a0), (1, .int 2), (2, .int 1)]) hx hb dX8_odds_44 rfl hl (by decide) rfl (fun ls hl => ?_)
            refine lv_iload hx hb dX8_odds_45 (lv_at hl 2 rfl) ?_
            refine lv_bipush (v := 100) hx hb dX8_odds_47 (by decide) ?_
            refine lv_imul hx hb dX8_odds_49 (tpi (v := 100) (by decide) ?_)
            refine lv_istore (lv' := [(4, .int 100), (3, .int 100), (5, .int 0), (0, .ref a0), (1, .int 2), (2, .int 1)]) hx hb dX8_odds_50 hl (by decide) rfl (fun ls hl => ?_)
            refine lv_iinc (v := 1) (lv' := [(5, .int 1), (4, .int 100), (3, .int 100), (0, .ref a0), (1, .int 2), (2, .int 1)]) hx hb dX8_odds_52 hl (k := 2) rfl (by decide) (by decide) rfl (fun ls hl => ?_)
            refine lv_goto (tgt := 26) hx hb dX8_odds_55 (by decide) ?_
            refine lv_iload hx hb dX8_odds_26 (lv_at hl 0 rfl) ?_
            refine lv_iload_n hx hb dX8_odds_28 rfl (lv_at hl 4 rfl) ?_
            refine lv_icmp_ge (tgt := 58) hx hb dX8_odds_29 (by decide) (fun c => absurd c (by decide)) (fun _ => ?_)
            refine lv_iload_n hx hb dX8_odds_32 rfl (lv_at hl 2 rfl) ?_
            refine lv_bipush (v := 100) hx hb dX8_odds_33 (by decide) ?_
            refine lv_aload_n hx hb dX8_odds_35 rfl (lv_at hl 3 rfl) ?_
            refine va_get (D := D) (cl := vwCl) (ci := 8) (v := .ref a1) (C := RX8) (T := TX8) (N := 13) hx hb hts in_X8_odds_X8 hown hK hP 0 rfl rfl 1 (by decide) (hts (.fieldLink RX8 19 "EightReasons" "told" "LEightReasons$Suit;") (List.mem_of_getElem? (i := 1) (by decide +kernel))) (fun _ h9 => h9) rfl dX8_odds_36 ?_
            refine va_get (D := D) (cl := vwCl) (ci := 5) (v := .int 0) (C := RX5) (T := TX5) (N := 12) hx hb hts in_X8_odds_X5 hown hK hP 1 rfl rfl 3 (by decide) (hts (.fieldLink RX8 184 "EightReasons$Suit" "fray" "I") (List.mem_of_getElem? (i := 2) (by decide +kernel))) (fun _ h9 => h9) rfl dX8_odds_39 ?_
            refine lv_isub hx hb dX8_odds_42 (tpi (v := 100) (by decide) ?_)
            refine lv_imul hx hb dX8_odds_43 (tpi (v := 10000) (by decide) ?_)
            refine lv_istore_n (lv' := [(3, .int 10000), (5, .int 1), (4, .int 100), (0, .ref a0), (1, .int 2), (2, .int 1)]) hx hb dX8_odds_44 rfl hl (by decide) rfl (fun ls hl => ?_)
            refine lv_iload hx hb dX8_odds_45 (lv_at hl 2 rfl) ?_
            refine lv_bipush (v := 100) hx hb dX8_odds_47 (by decide) ?_
            refine lv_imul hx hb dX8_odds_49 (tpi (v := 10000) (by decide) ?_)
            refine lv_istore (lv' := [(4, .int 10000), (3, .int 10000), (5, .int 1), (0, .ref a0), (1, .int 2), (2, .int 1)]) hx hb dX8_odds_50 hl (by decide) rfl (fun ls hl => ?_)
            refine lv_iinc (v := 2) (lv' := [(5, .int 2), (4, .int 10000), (3, .int 10000), (0, .ref a0), (1, .int 2), (2, .int 1)]) hx hb dX8_odds_52 hl (k := 2) rfl (by decide) (by decide) rfl (fun ls hl => ?_)
            refine lv_goto (tgt := 26) hx hb dX8_odds_55 (by decide) ?_
            refine lv_iload hx hb dX8_odds_26 (lv_at hl 0 rfl) ?_
            refine lv_iload_n hx hb dX8_odds_28 rfl (lv_at hl 4 rfl) ?_
            refine lv_icmp_ge (tgt := 58) hx hb dX8_odds_29 (by decide) (fun _ => ?_) (fun c => absurd (by decide) c)
            refine lv_iload hx hb dX8_odds_58 (lv_at hl 1 rfl) ?_
            refine lv_iload_n hx hb dX8_odds_60 rfl (lv_at hl 2 rfl) ?_
            refine clSI (As := [.int 10000, .int 10000]) (rest := []) (wr := [(a0, .inr (8, [v0_0, .ref a1, v0_2, v0_3, v0_4, v0_5, v0_6, v0_7, v0_8, v0_9, v0_10, v0_11, v0_12])), (a1, .inr (5, [v1_0, v1_1, v1_2, .int 0, v1_4, v1_5, v1_6, v1_7, v1_8, v1_9, v1_10, v1_11]))]) ⟨hx, hb, hml, hown, hts⟩ hK hP hD hS hA (k_X8_commonDivisor_2 l D cy _) (va_cwS 2 hts gX8_odds_X8_commonDivisor rfl rfl rfl (by decide +kernel) ⟨Nat.le_of_ble_eq_true rfl, Nat.le_of_ble_eq_true rfl⟩) [] [0, 1] rfl rfl rfl rfl (by decide) rfl hl.1 rfl (Nat.le_of_ble_eq_true rfl) dX8_odds_61 ⟨Nat.le_of_ble_eq_true rfl, Nat.le_of_ble_eq_true rfl⟩ rfl rfl (fun r _ H locs hw hP hD hS => ?_)
            have hP : va_P D vwCl [(a0, .inr (8, [v0_0, .ref a1, v0_2, v0_3, v0_4, v0_5, v0_6, v0_7, v0_8, v0_9, v0_10, v0_11, v0_12])), (a1, .inr (5, [v1_0, v1_1, v1_2, .int 0, v1_4, v1_5, v1_6, v1_7, v1_8, v1_9, v1_10, v1_11]))] H := hP
            have hD : va_D A [(a0, .inr (8, [v0_0, .ref a1, v0_2, v0_3, v0_4, v0_5, v0_6, v0_7, v0_8, v0_9, v0_10, v0_11, v0_12])), (a1, .inr (5, [v1_0, v1_1, v1_2, .int 0, v1_4, v1_5, v1_6, v1_7, v1_8, v1_9, v1_10, v1_11]))] := hD
            obtain rfl : r = 10000 := hw
            refine lv_istore (lv' := [(5, .int 10000), (4, .int 10000), (3, .int 10000), (0, .ref a0), (1, .int 2), (2, .int 1)]) hx hb dX8_odds_64 hl (by decide) rfl (fun ls hl => ?_)
            refine lv_iload_n hx hb dX8_odds_66 rfl (lv_at hl 5 rfl) ?_
            refine lv_if_ne (tgt := 74) hx hb dX8_odds_67 (by decide) (fun _ => ?_) (fun c => absurd c (by decide))
            refine lv_iload hx hb dX8_odds_74 (lv_at hl 1 rfl) ?_
            refine lv_iload hx hb dX8_odds_76 (lv_at hl 0 rfl) ?_
            refine lv_idiv hx hb dX8_odds_78 (by decide) (tpi (v := 1) (by decide) ?_)
            exact rtI hx hb hr hlk rfl hP hD hS () [] rfl rfl (Or.inr ⟨rfl, (Or.inr (Or.inr (Or.inr (Or.inr (Or.inr (Or.inl ⟨c1, c2, c4, rfl, rfl⟩))))))⟩) dX8_odds_79
        · have hsp15 : p2 = 0 ∨ p2 = 1 := by
            simp only [i_lt, i_le, i_eq, tl_m1, tl_0, tl_1, tl_2, tl_3, tl_4, tl_20, tl_60, tl_99, tl_1000, tl_100000] at c4 ⊢
            omega
          rcases hsp15 with rfl | rfl
          · refine lv_iconst (v := 1) hx hb dX8_odds_18 (by decide) ?_
            refine lv_istore_n (lv' := [(3, .int 1), (0, .ref a0), (1, .int 3), (2, .int 0)]) hx hb dX8_odds_19 rfl hl (by decide) rfl (fun ls hl => ?_)
            refine lv_iconst (v := 1) hx hb dX8_odds_20 (by decide) ?_
            refine lv_istore (lv' := [(4, .int 1), (3, .int 1), (0, .ref a0), (1, .int 3), (2, .int 0)]) hx hb dX8_odds_21 hl (by decide) rfl (fun ls hl => ?_)
            refine lv_iconst (v := 0) hx hb dX8_odds_23 (by decide) ?_
            refine lv_istore (lv' := [(5, .int 0), (4, .int 1), (3, .int 1), (0, .ref a0), (1, .int 3), (2, .int 0)]) hx hb dX8_odds_24 hl (by decide) rfl (fun ls hl => ?_)
            refine lv_iload hx hb dX8_odds_26 (lv_at hl 0 rfl) ?_
            refine lv_iload_n hx hb dX8_odds_28 rfl (lv_at hl 4 rfl) ?_
            refine lv_icmp_ge (tgt := 58) hx hb dX8_odds_29 (by decide) (fun c => absurd c (by decide)) (fun _ => ?_)
            refine lv_iload_n hx hb dX8_odds_32 rfl (lv_at hl 2 rfl) ?_
            refine lv_bipush (v := 100) hx hb dX8_odds_33 (by decide) ?_
            refine lv_aload_n hx hb dX8_odds_35 rfl (lv_at hl 3 rfl) ?_
            refine va_get (D := D) (cl := vwCl) (ci := 8) (v := .ref a1) (C := RX8) (T := TX8) (N := 13) hx hb hts in_X8_odds_X8 hown hK hP 0 rfl rfl 1 (by decide) (hts (.fieldLink RX8 19 "EightReasons" "told" "LEightReasons$Suit;") (List.mem_of_getElem? (i := 1) (by decide +kernel))) (fun _ h9 => h9) rfl dX8_odds_36 ?_
            refine va_get (D := D) (cl := vwCl) (ci := 5) (v := .int 0) (C := RX5) (T := TX5) (N := 12) hx hb hts in_X8_odds_X5 hown hK hP 1 rfl rfl 3 (by decide) (hts (.fieldLink RX8 184 "EightReasons$Suit" "fray" "I") (List.mem_of_getElem? (i := 2) (by decide +kernel))) (fun _ h9 => h9) rfl dX8_odds_39 ?_
            refine lv_isub hx hb dX8_odds_42 (tpi (v := 100) (by decide) ?_)
            refine lv_imul hx hb dX8_odds_43 (tpi (v := 100) (by decide) ?_)
            refine lv_istore_n (lv' := [(3, .int 100), (5, .int 0), (4, .int 1), (0, .ref a0), (1, .int 3), (2, .int 0)]) hx hb dX8_odds_44 rfl hl (by decide) rfl (fun ls hl => ?_)
            refine lv_iload hx hb dX8_odds_45 (lv_at hl 2 rfl) ?_
            refine lv_bipush (v := 100) hx hb dX8_odds_47 (by decide) ?_
            refine lv_imul hx hb dX8_odds_49 (tpi (v := 100) (by decide) ?_)
            refine lv_istore (lv' := [(4, .int 100), (3, .int 100), (5, .int 0), (0, .ref a0), (1, .int 3), (2, .int 0)]) hx hb dX8_odds_50 hl (by decide) rfl (fun ls hl => ?_)
            refine lv_iinc (v := 1) (lv' := [(5, .int 1), (4, .int 100), (3, .int 100), (0, .ref a0), (1, .int 3), (2, .int 0)]) hx hb dX8_odds_52 hl (k := 2) rfl (by decide) (by decide) rfl (fun ls hl => ?_)
            refine lv_goto (tgt := 26) hx hb dX8_odds_55 (by decide) ?_
            refine lv_iload hx hb dX8_odds_26 (lv_at hl 0 rfl) ?_
            refine lv_iload_n hx hb dX8_odds_28 rfl (lv_at hl 4 rfl) ?_
            refine lv_icmp_ge (tgt := 58) hx hb dX8_odds_29 (by decide) (fun c => absurd c (by decide)) (fun _ => ?_)
            refine lv_iload_n hx hb dX8_odds_32 rfl (lv_at hl 2 rfl) ?_
            refine lv_bipush (v := 100) hx hb dX8_odds_33 (by decide) ?_
            refine lv_aload_n hx hb dX8_odds_35 rfl (lv_at hl 3 rfl) ?_
            refine va_get (D := D) (cl := vwCl) (ci := 8) (v := .ref a1) (C := RX8) (T := TX8) (N := 13) hx hb hts in_X8_odds_X8 hown hK hP 0 rfl rfl 1 (by decide) (hts (.fieldLink RX8 19 "EightReasons" "told" "LEightReasons$Suit;") (List.mem_of_getElem? (i := 1) (by decide +kernel))) (fun _ h9 => h9) rfl dX8_odds_36 ?_
            refine va_get (D := D) (cl := vwCl) (ci := 5) (v := .int 0) (C := RX5) (T := TX5) (N := 12) hx hb hts in_X8_odds_X5 hown hK hP 1 rfl rfl 3 (by decide) (hts (.fieldLink RX8 184 "EightReasons$Suit" "fray" "I") (List.mem_of_getElem? (i := 2) (by decide +kernel))) (fun _ h9 => h9) rfl dX8_odds_39 ?_
            refine lv_isub hx hb dX8_odds_42 (tpi (v := 100) (by decide) ?_)
            refine lv_imul hx hb dX8_odds_43 (tpi (v := 10000) (by decide) ?_)
            refine lv_istore_n (lv' := [(3, .int 10000), (5, .int 1), (4, .int 100), (0, .ref a0), (1, .int 3), (2, .int 0)]) hx hb dX8_odds_44 rfl hl (by decide) rfl (fun ls hl => ?_)
            refine lv_iload hx hb dX8_odds_45 (lv_at hl 2 rfl) ?_
            refine lv_bipush (v := 100) hx hb dX8_odds_47 (by decide) ?_
            refine lv_imul hx hb dX8_odds_49 (tpi (v := 10000) (by decide) ?_)
            refine lv_istore (lv' := [(4, .int 10000), (3, .int 10000), (5, .int 1), (0, .ref a0), (1, .int 3), (2, .int 0)]) hx hb dX8_odds_50 hl (by decide) rfl (fun ls hl => ?_)
            refine lv_iinc (v := 2) (lv' := [(5, .int 2), (4, .int 10000), (3, .int 10000), (0, .ref a0), (1, .int 3), (2, .int 0)]) hx hb dX8_odds_52 hl (k := 2) rfl (by decide) (by decide) rfl (fun ls hl => ?_)
            refine lv_goto (tgt := 26) hx hb dX8_odds_55 (by decide) ?_
            refine lv_iload hx hb dX8_odds_26 (lv_at hl 0 rfl) ?_
            refine lv_iload_n hx hb dX8_odds_28 rfl (lv_at hl 4 rfl) ?_
            refine lv_icmp_ge (tgt := 58) hx hb dX8_odds_29 (by decide) (fun c => absurd c (by decide)) (fun _ => ?_)
            refine lv_iload_n hx hb dX8_odds_32 rfl (lv_at hl 2 rfl) ?_
            refine lv_bipush (v := 100) hx hb dX8_odds_33 (by decide) ?_
            refine lv_aload_n hx hb dX8_odds_35 rfl (lv_at hl 3 rfl) ?_
            refine va_get (D := D) (cl := vwCl) (ci := 8) (v := .ref a1) (C := RX8) (T := TX8) (N := 13) hx hb hts in_X8_odds_X8 hown hK hP 0 rfl rfl 1 (by decide) (hts (.fieldLink RX8 19 "EightReasons" "told" "LEightReasons$Suit;") (List.mem_of_getElem? (i := 1) (by decide +kernel))) (fun _ h9 => h9) rfl dX8_odds_36 ?_
            refine va_get (D := D) (cl := vwCl) (ci := 5) (v := .int 0) (C := RX5) (T := TX5) (N := 12) hx hb hts in_X8_odds_X5 hown hK hP 1 rfl rfl 3 (by decide) (hts (.fieldLink RX8 184 "EightReasons$Suit" "fray" "I") (List.mem_of_getElem? (i := 2) (by decide +kernel))) (fun _ h9 => h9) rfl dX8_odds_39 ?_
            refine lv_isub hx hb dX8_odds_42 (tpi (v := 100) (by decide) ?_)
            refine lv_imul hx hb dX8_odds_43 (tpi (v := 1000000) (by decide) ?_)
            refine lv_istore_n (lv' := [(3, .int 1000000), (5, .int 2), (4, .int 10000), (0, .ref a0), (1, .int 3), (2, .int 0)]) hx hb dX8_odds_44 rfl hl (by decide) rfl (fun ls hl => ?_)
            refine lv_iload hx hb dX8_odds_45 (lv_at hl 2 rfl) ?_
            refine lv_bipush (v := 100) hx hb dX8_odds_47 (by decide) ?_
            refine lv_imul hx hb dX8_odds_49 (tpi (v := 1000000) (by decide) ?_)
            refine lv_istore (lv' := [(4, .int 1000000), (3, .int 1000000), (5, .int 2), (0, .ref a0), (1, .int 3), (2, .int 0)]) hx hb dX8_odds_50 hl (by decide) rfl (fun ls hl => ?_)
            refine lv_iinc (v := 3) (lv' := [(5, .int 3), (4, .int 1000000), (3, .int 1000000), (0, .ref a0), (1, .int 3), (2, .int 0)]) hx hb dX8_odds_52 hl (k := 2) rfl (by decide) (by decide) rfl (fun ls hl => ?_)
            refine lv_goto (tgt := 26) hx hb dX8_odds_55 (by decide) ?_
            refine lv_iload hx hb dX8_odds_26 (lv_at hl 0 rfl) ?_
            refine lv_iload_n hx hb dX8_odds_28 rfl (lv_at hl 4 rfl) ?_
            refine lv_icmp_ge (tgt := 58) hx hb dX8_odds_29 (by decide) (fun _ => ?_) (fun c => absurd (by decide) c)
            refine lv_iload hx hb dX8_odds_58 (lv_at hl 1 rfl) ?_
            refine lv_iload_n hx hb dX8_odds_60 rfl (lv_at hl 2 rfl) ?_
            refine clSI (As := [.int 1000000, .int 1000000]) (rest := []) (wr := [(a0, .inr (8, [v0_0, .ref a1, v0_2, v0_3, v0_4, v0_5, v0_6, v0_7, v0_8, v0_9, v0_10, v0_11, v0_12])), (a1, .inr (5, [v1_0, v1_1, v1_2, .int 0, v1_4, v1_5, v1_6, v1_7, v1_8, v1_9, v1_10, v1_11]))]) ⟨hx, hb, hml, hown, hts⟩ hK hP hD hS hA (k_X8_commonDivisor_3 l D cy _) (va_cwS 2 hts gX8_odds_X8_commonDivisor rfl rfl rfl (by decide +kernel) ⟨Nat.le_of_ble_eq_true rfl, Nat.le_of_ble_eq_true rfl⟩) [] [0, 1] rfl rfl rfl rfl (by decide) rfl hl.1 rfl (Nat.le_of_ble_eq_true rfl) dX8_odds_61 ⟨Nat.le_of_ble_eq_true rfl, Nat.le_of_ble_eq_true rfl⟩ rfl rfl (fun r _ H locs hw hP hD hS => ?_)
            have hP : va_P D vwCl [(a0, .inr (8, [v0_0, .ref a1, v0_2, v0_3, v0_4, v0_5, v0_6, v0_7, v0_8, v0_9, v0_10, v0_11, v0_12])), (a1, .inr (5, [v1_0, v1_1, v1_2, .int 0, v1_4, v1_5, v1_6, v1_7, v1_8, v1_9, v1_10, v1_11]))] H := hP
            have hD : va_D A [(a0, .inr (8, [v0_0, .ref a1, v0_2, v0_3, v0_4, v0_5, v0_6, v0_7, v0_8, v0_9, v0_10, v0_11, v0_12])), (a1, .inr (5, [v1_0, v1_1, v1_2, .int 0, v1_4, v1_5, v1_6, v1_7, v1_8, v1_9, v1_10, v1_11]))] := hD
            obtain rfl : r = 1000000 := hw
            refine lv_istore (lv' := [(5, .int 1000000), (4, .int 1000000), (3, .int 1000000), (0, .ref a0), (1, .int 3), (2, .int 0)]) hx hb dX8_odds_64 hl (by decide) rfl (fun ls hl => ?_)
            refine lv_iload_n hx hb dX8_odds_66 rfl (lv_at hl 5 rfl) ?_
            refine lv_if_ne (tgt := 74) hx hb dX8_odds_67 (by decide) (fun c => absurd (by decide) c) (fun _ => ?_)
            refine lv_iload_n hx hb dX8_odds_70 rfl (lv_at hl 2 rfl) ?_
            refine lv_goto (tgt := 76) hx hb dX8_odds_71 (by decide) ?_
            refine lv_iload hx hb dX8_odds_76 (lv_at hl 0 rfl) ?_
            refine lv_idiv hx hb dX8_odds_78 (by decide) (tpi (v := 1) (by decide) ?_)
            exact rtI hx hb hr hlk rfl hP hD hS () [] rfl rfl (Or.inr ⟨rfl, (Or.inr (Or.inr (Or.inr (Or.inr (Or.inr (Or.inr (Or.inl ⟨c1, c2, c4, rfl, rfl⟩)))))))⟩) dX8_odds_79
          · refine lv_iconst (v := 1) hx hb dX8_odds_18 (by decide) ?_
            refine lv_istore_n (lv' := [(3, .int 1), (0, .ref a0), (1, .int 3), (2, .int 1)]) hx hb dX8_odds_19 rfl hl (by decide) rfl (fun ls hl => ?_)
            refine lv_iconst (v := 1) hx hb dX8_odds_20 (by decide) ?_
            refine lv_istore (lv' := [(4, .int 1), (3, .int 1), (0, .ref a0), (1, .int 3), (2, .int 1)]) hx hb dX8_odds_21 hl (by decide) rfl (fun ls hl => ?_)
            refine lv_iconst (v := 0) hx hb dX8_odds_23 (by decide) ?_
            refine lv_istore (lv' := [(5, .int 0), (4, .int 1), (3, .int 1), (0, .ref a0), (1, .int 3), (2, .int 1)]) hx hb dX8_odds_24 hl (by decide) rfl (fun ls hl => ?_)
            refine lv_iload hx hb dX8_odds_26 (lv_at hl 0 rfl) ?_
            refine lv_iload_n hx hb dX8_odds_28 rfl (lv_at hl 4 rfl) ?_
            refine lv_icmp_ge (tgt := 58) hx hb dX8_odds_29 (by decide) (fun c => absurd c (by decide)) (fun _ => ?_)
            refine lv_iload_n hx hb dX8_odds_32 rfl (lv_at hl 2 rfl) ?_
            refine lv_bipush (v := 100) hx hb dX8_odds_33 (by decide) ?_
            refine lv_aload_n hx hb dX8_odds_35 rfl (lv_at hl 3 rfl) ?_
            refine va_get (D := D) (cl := vwCl) (ci := 8) (v := .ref a1) (C := RX8) (T := TX8) (N := 13) hx hb hts in_X8_odds_X8 hown hK hP 0 rfl rfl 1 (by decide) (hts (.fieldLink RX8 19 "EightReasons" "told" "LEightReasons$Suit;") (List.mem_of_getElem? (i := 1) (by decide +kernel))) (fun _ h9 => h9) rfl dX8_odds_36 ?_
            refine va_get (D := D) (cl := vwCl) (ci := 5) (v := .int 0) (C := RX5) (T := TX5) (N := 12) hx hb hts in_X8_odds_X5 hown hK hP 1 rfl rfl 3 (by decide) (hts (.fieldLink RX8 184 "EightReasons$Suit" "fray" "I") (List.mem_of_getElem? (i := 2) (by decide +kernel))) (fun _ h9 => h9) rfl dX8_odds_39 ?_
            refine lv_isub hx hb dX8_odds_42 (tpi (v := 100) (by decide) ?_)
            refine lv_imul hx hb dX8_odds_43 (tpi (v := 100) (by decide) ?_)
            refine lv_istore_n (lv' := [(3, .int 100), (5, .int 0), (4, .int 1), (0, .ref a0), (1, .int 3), (2, .int 1)]) hx hb dX8_odds_44 rfl hl (by decide) rfl (fun ls hl => ?_)
            refine lv_iload hx hb dX8_odds_45 (lv_at hl 2 rfl) ?_
            refine lv_bipush (v := 100) hx hb dX8_odds_47 (by decide) ?_
            refine lv_imul hx hb dX8_odds_49 (tpi (v := 100) (by decide) ?_)
            refine lv_istore (lv' := [(4, .int 100), (3, .int 100), (5, .int 0), (0, .ref a0), (1, .int 3), (2, .int 1)]) hx hb dX8_odds_50 hl (by decide) rfl (fun ls hl => ?_)
            refine lv_iinc (v := 1) (lv' := [(5, .int 1), (4, .int 100), (3, .int 100), (0, .ref a0), (1, .int 3), (2, .int 1)]) hx hb dX8_odds_52 hl (k := 2) rfl (by decide) (by decide) rfl (fun ls hl => ?_)
            refine lv_goto (tgt := 26) hx hb dX8_odds_55 (by decide) ?_
            refine lv_iload hx hb dX8_odds_26 (lv_at hl 0 rfl) ?_
            refine lv_iload_n hx hb dX8_odds_28 rfl (lv_at hl 4 rfl) ?_
            refine lv_icmp_ge (tgt := 58) hx hb dX8_odds_29 (by decide) (fun c => absurd c (by decide)) (fun _ => ?_)
            refine lv_iload_n hx hb dX8_odds_32 rfl (lv_at hl 2 rfl) ?_
            refine lv_bipush (v := 100) hx hb dX8_odds_33 (by decide) ?_
            refine lv_aload_n hx hb dX8_odds_35 rfl (lv_at hl 3 rfl) ?_
            refine va_get (D := D) (cl := vwCl) (ci := 8) (v := .ref a1) (C := RX8) (T := TX8) (N := 13) hx hb hts in_X8_odds_X8 hown hK hP 0 rfl rfl 1 (by decide) (hts (.fieldLink RX8 19 "EightReasons" "told" "LEightReasons$Suit;") (List.mem_of_getElem? (i := 1) (by decide +kernel))) (fun _ h9 => h9) rfl dX8_odds_36 ?_
            refine va_get (D := D) (cl := vwCl) (ci := 5) (v := .int 0) (C := RX5) (T := TX5) (N := 12) hx hb hts in_X8_odds_X5 hown hK hP 1 rfl rfl 3 (by decide) (hts (.fieldLink RX8 184 "EightReasons$Suit" "fray" "I") (List.mem_of_getElem? (i := 2) (by decide +kernel))) (fun _ h9 => h9) rfl dX8_odds_39 ?_
            refine lv_isub hx hb dX8_odds_42 (tpi (v := 100) (by decide) ?_)
            refine lv_imul hx hb dX8_odds_43 (tpi (v := 10000) (by decide) ?_)
            refine lv_istore_n (lv' := [(3, .int 10000), (5, .int 1), (4, .int 100), (0, .ref a0), (1, .int 3), (2, .int 1)]) hx hb dX8_odds_44 rfl hl (by decide) rfl (fun ls hl => ?_)
            refine lv_iload hx hb dX8_odds_45 (lv_at hl 2 rfl) ?_
            refine lv_bipush (v := 100) hx hb dX8_odds_47 (by decide) ?_
            refine lv_imul hx hb dX8_odds_49 (tpi (v := 10000) (by decide) ?_)
            refine lv_istore (lv' := [(4, .int 10000), (3, .int 10000), (5, .int 1), (0, .ref a0), (1, .int 3), (2, .int 1)]) hx hb dX8_odds_50 hl (by decide) rfl (fun ls hl => ?_)
            refine lv_iinc (v := 2) (lv' := [(5, .int 2), (4, .int 10000), (3, .int 10000), (0, .ref a0), (1, .int 3), (2, .int 1)]) hx hb dX8_odds_52 hl (k := 2) rfl (by decide) (by decide) rfl (fun ls hl => ?_)
            refine lv_goto (tgt := 26) hx hb dX8_odds_55 (by decide) ?_
            refine lv_iload hx hb dX8_odds_26 (lv_at hl 0 rfl) ?_
            refine lv_iload_n hx hb dX8_odds_28 rfl (lv_at hl 4 rfl) ?_
            refine lv_icmp_ge (tgt := 58) hx hb dX8_odds_29 (by decide) (fun c => absurd c (by decide)) (fun _ => ?_)
            refine lv_iload_n hx hb dX8_odds_32 rfl (lv_at hl 2 rfl) ?_
            refine lv_bipush (v := 100) hx hb dX8_odds_33 (by decide) ?_
            refine lv_aload_n hx hb dX8_odds_35 rfl (lv_at hl 3 rfl) ?_
            refine va_get (D := D) (cl := vwCl) (ci := 8) (v := .ref a1) (C := RX8) (T := TX8) (N := 13) hx hb hts in_X8_odds_X8 hown hK hP 0 rfl rfl 1 (by decide) (hts (.fieldLink RX8 19 "EightReasons" "told" "LEightReasons$Suit;") (List.mem_of_getElem? (i := 1) (by decide +kernel))) (fun _ h9 => h9) rfl dX8_odds_36 ?_
            refine va_get (D := D) (cl := vwCl) (ci := 5) (v := .int 0) (C := RX5) (T := TX5) (N := 12) hx hb hts in_X8_odds_X5 hown hK hP 1 rfl rfl 3 (by decide) (hts (.fieldLink RX8 184 "EightReasons$Suit" "fray" "I") (List.mem_of_getElem? (i := 2) (by decide +kernel))) (fun _ h9 => h9) rfl dX8_odds_39 ?_
            refine lv_isub hx hb dX8_odds_42 (tpi (v := 100) (by decide) ?_)
            refine lv_imul hx hb dX8_odds_43 (tpi (v := 1000000) (by decide) ?_)
            refine lv_istore_n (lv' := [(3, .int 1000000), (5, .int 2), (4, .int 10000), (0, .ref a0), (1, .int 3), (2, .int 1)]) hx hb dX8_odds_44 rfl hl (by decide) rfl (fun ls hl => ?_)
            refine lv_iload hx hb dX8_odds_45 (lv_at hl 2 rfl) ?_
            refine lv_bipush (v := 100) hx hb dX8_odds_47 (by decide) ?_
            refine lv_imul hx hb dX8_odds_49 (tpi (v := 1000000) (by decide) ?_)
            refine lv_istore (lv' := [(4, .int 1000000), (3, .int 1000000), (5, .int 2), (0, .ref a0), (1, .int 3), (2, .int 1)]) hx hb dX8_odds_50 hl (by decide) rfl (fun ls hl => ?_)
            refine lv_iinc (v := 3) (lv' := [(5, .int 3), (4, .int 1000000), (3, .int 1000000), (0, .ref a0), (1, .int 3), (2, .int 1)]) hx hb dX8_odds_52 hl (k := 2) rfl (by decide) (by decide) rfl (fun ls hl => ?_)
            refine lv_goto (tgt := 26) hx hb dX8_odds_55 (by decide) ?_
            refine lv_iload hx hb dX8_odds_26 (lv_at hl 0 rfl) ?_
            refine lv_iload_n hx hb dX8_odds_28 rfl (lv_at hl 4 rfl) ?_
            refine lv_icmp_ge (tgt := 58) hx hb dX8_odds_29 (by decide) (fun _ => ?_) (fun c => absurd (by decide) c)
            refine lv_iload hx hb dX8_odds_58 (lv_at hl 1 rfl) ?_
            refine lv_iload_n hx hb dX8_odds_60 rfl (lv_at hl 2 rfl) ?_
            refine clSI (As := [.int 1000000, .int 1000000]) (rest := []) (wr := [(a0, .inr (8, [v0_0, .ref a1, v0_2, v0_3, v0_4, v0_5, v0_6, v0_7, v0_8, v0_9, v0_10, v0_11, v0_12])), (a1, .inr (5, [v1_0, v1_1, v1_2, .int 0, v1_4, v1_5, v1_6, v1_7, v1_8, v1_9, v1_10, v1_11]))]) ⟨hx, hb, hml, hown, hts⟩ hK hP hD hS hA (k_X8_commonDivisor_3 l D cy _) (va_cwS 2 hts gX8_odds_X8_commonDivisor rfl rfl rfl (by decide +kernel) ⟨Nat.le_of_ble_eq_true rfl, Nat.le_of_ble_eq_true rfl⟩) [] [0, 1] rfl rfl rfl rfl (by decide) rfl hl.1 rfl (Nat.le_of_ble_eq_true rfl) dX8_odds_61 ⟨Nat.le_of_ble_eq_true rfl, Nat.le_of_ble_eq_true rfl⟩ rfl rfl (fun r _ H locs hw hP hD hS => ?_)
            have hP : va_P D vwCl [(a0, .inr (8, [v0_0, .ref a1, v0_2, v0_3, v0_4, v0_5, v0_6, v0_7, v0_8, v0_9, v0_10, v0_11, v0_12])), (a1, .inr (5, [v1_0, v1_1, v1_2, .int 0, v1_4, v1_5, v1_6, v1_7, v1_8, v1_9, v1_10, v1_11]))] H := hP
            have hD : va_D A [(a0, .inr (8, [v0_0, .ref a1, v0_2, v0_3, v0_4, v0_5, v0_6, v0_7, v0_8, v0_9, v0_10, v0_11, v0_12])), (a1, .inr (5, [v1_0, v1_1, v1_2, .int 0, v1_4, v1_5, v1_6, v1_7, v1_8, v1_9, v1_10, v1_11]))] := hD
            obtain rfl : r = 1000000 := hw
            refine lv_istore (lv' := [(5, .int 1000000), (4, .int 1000000), (3, .int 1000000), (0, .ref a0), (1, .int 3), (2, .int 1)]) hx hb dX8_odds_64 hl (by decide) rfl (fun ls hl => ?_)
            refine lv_iload_n hx hb dX8_odds_66 rfl (lv_at hl 5 rfl) ?_
            refine lv_if_ne (tgt := 74) hx hb dX8_odds_67 (by decide) (fun _ => ?_) (fun c => absurd c (by decide))
            refine lv_iload hx hb dX8_odds_74 (lv_at hl 1 rfl) ?_
            refine lv_iload hx hb dX8_odds_76 (lv_at hl 0 rfl) ?_
            refine lv_idiv hx hb dX8_odds_78 (by decide) (tpi (v := 1) (by decide) ?_)
            exact rtI hx hb hr hlk rfl hP hD hS () [] rfl rfl (Or.inr ⟨rfl, (Or.inr (Or.inr (Or.inr (Or.inr (Or.inr (Or.inr (Or.inr (Or.inl ⟨c1, c2, c4, rfl, rfl⟩))))))))⟩) dX8_odds_79
        · have hsp18 : p2 = 0 ∨ p2 = 1 := by
            simp only [i_lt, i_le, i_eq, tl_m1, tl_0, tl_1, tl_2, tl_3, tl_4, tl_20, tl_60, tl_99, tl_1000, tl_100000] at c4 ⊢
            omega
          rcases hsp18 with rfl | rfl
          · refine lv_iconst (v := 1) hx hb dX8_odds_18 (by decide) ?_
            refine lv_istore_n (lv' := [(3, .int 1), (0, .ref a0), (1, .int 4), (2, .int 0)]) hx hb dX8_odds_19 rfl hl (by decide) rfl (fun ls hl => ?_)
            refine lv_iconst (v := 1) hx hb dX8_odds_20 (by decide) ?_
            refine lv_istore (lv' := [(4, .int 1), (3, .int 1), (0, .ref a0), (1, .int 4), (2, .int 0)]) hx hb dX8_odds_21 hl (by decide) rfl (fun ls hl => ?_)
            refine lv_iconst (v := 0) hx hb dX8_odds_23 (by decide) ?_
            refine lv_istore (lv' := [(5, .int 0), (4, .int 1), (3, .int 1), (0, .ref a0), (1, .int 4), (2, .int 0)]) hx hb dX8_odds_24 hl (by decide) rfl (fun ls hl => ?_)
            refine lv_iload hx hb dX8_odds_26 (lv_at hl 0 rfl) ?_
            refine lv_iload_n hx hb dX8_odds_28 rfl (lv_at hl 4 rfl) ?_
            refine lv_icmp_ge (tgt := 58) hx hb dX8_odds_29 (by decide) (fun c => absurd c (by decide)) (fun _ => ?_)
            refine lv_iload_n hx hb dX8_odds_32 rfl (lv_at hl 2 rfl) ?_
            refine lv_bipush (v := 100) hx hb dX8_odds_33 (by decide) ?_
            refine lv_aload_n hx hb dX8_odds_35 rfl (lv_at hl 3 rfl) ?_
            refine va_get (D := D) (cl := vwCl) (ci := 8) (v := .ref a1) (C := RX8) (T := TX8) (N := 13) hx hb hts in_X8_odds_X8 hown hK hP 0 rfl rfl 1 (by decide) (hts (.fieldLink RX8 19 "EightReasons" "told" "LEightReasons$Suit;") (List.mem_of_getElem? (i := 1) (by decide +kernel))) (fun _ h9 => h9) rfl dX8_odds_36 ?_
            refine va_get (D := D) (cl := vwCl) (ci := 5) (v := .int 0) (C := RX5) (T := TX5) (N := 12) hx hb hts in_X8_odds_X5 hown hK hP 1 rfl rfl 3 (by decide) (hts (.fieldLink RX8 184 "EightReasons$Suit" "fray" "I") (List.mem_of_getElem? (i := 2) (by decide +kernel))) (fun _ h9 => h9) rfl dX8_odds_39 ?_
            refine lv_isub hx hb dX8_odds_42 (tpi (v := 100) (by decide) ?_)
            refine lv_imul hx hb dX8_odds_43 (tpi (v := 100) (by decide) ?_)
            refine lv_istore_n (lv' := [(3, .int 100), (5, .int 0), (4, .int 1), (0, .ref a0), (1, .int 4), (2, .int 0)]) hx hb dX8_odds_44 rfl hl (by decide) rfl (fun ls hl => ?_)
            refine lv_iload hx hb dX8_odds_45 (lv_at hl 2 rfl) ?_
            refine lv_bipush (v := 100) hx hb dX8_odds_47 (by decide) ?_
            refine lv_imul hx hb dX8_odds_49 (tpi (v := 100) (by decide) ?_)
            refine lv_istore (lv' := [(4, .int 100), (3, .int 100), (5, .int 0), (0, .ref a0), (1, .int 4), (2, .int 0)]) hx hb dX8_odds_50 hl (by decide) rfl (fun ls hl => ?_)
            refine lv_iinc (v := 1) (lv' := [(5, .int 1), (4, .int 100), (3, .int 100), (0, .ref a0), (1, .int 4), (2, .int 0)]) hx hb dX8_odds_52 hl (k := 2) rfl (by decide) (by decide) rfl (fun ls hl => ?_)
            refine lv_goto (tgt := 26) hx hb dX8_odds_55 (by decide) ?_
            refine lv_iload hx hb dX8_odds_26 (lv_at hl 0 rfl) ?_
            refine lv_iload_n hx hb dX8_odds_28 rfl (lv_at hl 4 rfl) ?_
            refine lv_icmp_ge (tgt := 58) hx hb dX8_odds_29 (by decide) (fun c => absurd c (by decide)) (fun _ => ?_)
            refine lv_iload_n hx hb dX8_odds_32 rfl (lv_at hl 2 rfl) ?_
            refine lv_bipush (v := 100) hx hb dX8_odds_33 (by decide) ?_
            refine lv_aload_n hx hb dX8_odds_35 rfl (lv_at hl 3 rfl) ?_
            refine va_get (D := D) (cl := vwCl) (ci := 8) (v := .ref a1) (C := RX8) (T := TX8) (N := 13) hx hb hts in_X8_odds_X8 hown hK hP 0 rfl rfl 1 (by decide) (hts (.fieldLink RX8 19 "EightReasons" "told" "LEightReasons$Suit;") (List.mem_of_getElem? (i := 1) (by decide +kernel))) (fun _ h9 => h9) rfl dX8_odds_36 ?_
            refine va_get (D := D) (cl := vwCl) (ci := 5) (v := .int 0) (C := RX5) (T := TX5) (N := 12) hx hb hts in_X8_odds_X5 hown hK hP 1 rfl rfl 3 (by decide) (hts (.fieldLink RX8 184 "EightReasons$Suit" "fray" "I") (List.mem_of_getElem? (i := 2) (by decide +kernel))) (fun _ h9 => h9) rfl dX8_odds_39 ?_
            refine lv_isub hx hb dX8_odds_42 (tpi (v := 100) (by decide) ?_)
            refine lv_imul hx hb dX8_odds_43 (tpi (v := 10000) (by decide) ?_)
            refine lv_istore_n (lv' := [(3, .int 10000), (5, .int 1), (4, .int 100), (0, .ref a0), (1, .int 4), (2, .int 0)]) hx hb dX8_odds_44 rfl hl (by decide) rfl (fun ls hl => ?_)
            refine lv_iload hx hb dX8_odds_45 (lv_at hl 2 rfl) ?_
            refine lv_bipush (v := 100) hx hb dX8_odds_47 (by decide) ?_
            refine lv_imul hx hb dX8_odds_49 (tpi (v := 10000) (by decide) ?_)
            refine lv_istore (lv' := [(4, .int 10000), (3, .int 10000), (5, .int 1), (0, .ref a0), (1, .int 4), (2, .int 0)]) hx hb dX8_odds_50 hl (by decide) rfl (fun ls hl => ?_)
            refine lv_iinc (v := 2) (lv' := [(5, .int 2), (4, .int 10000), (3, .int 10000), (0, .ref a0), (1, .int 4), (2, .int 0)]) hx hb dX8_odds_52 hl (k := 2) rfl (by decide) (by decide) rfl (fun ls hl => ?_)
            refine lv_goto (tgt := 26) hx hb dX8_odds_55 (by decide) ?_
            refine lv_iload hx hb dX8_odds_26 (lv_at hl 0 rfl) ?_
            refine lv_iload_n hx hb dX8_odds_28 rfl (lv_at hl 4 rfl) ?_
            refine lv_icmp_ge (tgt := 58) hx hb dX8_odds_29 (by decide) (fun c => absurd c (by decide)) (fun _ => ?_)
            refine lv_iload_n hx hb dX8_odds_32 rfl (lv_at hl 2 rfl) ?_
            refine lv_bipush (v := 100) hx hb dX8_odds_33 (by decide) ?_
            refine lv_aload_n hx hb dX8_odds_35 rfl (lv_at hl 3 rfl) ?_
            refine va_get (D := D) (cl := vwCl) (ci := 8) (v := .ref a1) (C := RX8) (T := TX8) (N := 13) hx hb hts in_X8_odds_X8 hown hK hP 0 rfl rfl 1 (by decide) (hts (.fieldLink RX8 19 "EightReasons" "told" "LEightReasons$Suit;") (List.mem_of_getElem? (i := 1) (by decide +kernel))) (fun _ h9 => h9) rfl dX8_odds_36 ?_
            refine va_get (D := D) (cl := vwCl) (ci := 5) (v := .int 0) (C := RX5) (T := TX5) (N := 12) hx hb hts in_X8_odds_X5 hown hK hP 1 rfl rfl 3 (by decide) (hts (.fieldLink RX8 184 "EightReasons$Suit" "fray" "I") (List.mem_of_getElem? (i := 2) (by decide +kernel))) (fun _ h9 => h9) rfl dX8_odds_39 ?_
            refine lv_isub hx hb dX8_odds_42 (tpi (v := 100) (by decide) ?_)
            refine lv_imul hx hb dX8_odds_43 (tpi (v := 1000000) (by decide) ?_)
            refine lv_istore_n (lv' := [(3, .int 1000000), (5, .int 2), (4, .int 10000), (0, .ref a0), (1, .int 4), (2, .int 0)]) hx hb dX8_odds_44 rfl hl (by decide) rfl (fun ls hl => ?_)
            refine lv_iload hx hb dX8_odds_45 (lv_at hl 2 rfl) ?_
            refine lv_bipush (v := 100) hx hb dX8_odds_47 (by decide) ?_
            refine lv_imul hx hb dX8_odds_49 (tpi (v := 1000000) (by decide) ?_)
            refine lv_istore (lv' := [(4, .int 1000000), (3, .int 1000000), (5, .int 2), (0, .ref a0), (1, .int 4), (2, .int 0)]) hx hb dX8_odds_50 hl (by decide) rfl (fun ls hl => ?_)
            refine lv_iinc (v := 3) (lv' := [(5, .int 3), (4, .int 1000000), (3, .int 1000000), (0, .ref a0), (1, .int 4), (2, .int 0)]) hx hb dX8_odds_52 hl (k := 2) rfl (by decide) (by decide) rfl (fun ls hl => ?_)
            refine lv_goto (tgt := 26) hx hb dX8_odds_55 (by decide) ?_
            refine lv_iload hx hb dX8_odds_26 (lv_at hl 0 rfl) ?_
            refine lv_iload_n hx hb dX8_odds_28 rfl (lv_at hl 4 rfl) ?_
            refine lv_icmp_ge (tgt := 58) hx hb dX8_odds_29 (by decide) (fun c => absurd c (by decide)) (fun _ => ?_)
            refine lv_iload_n hx hb dX8_odds_32 rfl (lv_at hl 2 rfl) ?_
            refine lv_bipush (v := 100) hx hb dX8_odds_33 (by decide) ?_
            refine lv_aload_n hx hb dX8_odds_35 rfl (lv_at hl 3 rfl) ?_
            refine va_get (D := D) (cl := vwCl) (ci := 8) (v := .ref a1) (C := RX8) (T := TX8) (N := 13) hx hb hts in_X8_odds_X8 hown hK hP 0 rfl rfl 1 (by decide) (hts (.fieldLink RX8 19 "EightReasons" "told" "LEightReasons$Suit;") (List.mem_of_getElem? (i := 1) (by decide +kernel))) (fun _ h9 => h9) rfl dX8_odds_36 ?_
            refine va_get (D := D) (cl := vwCl) (ci := 5) (v := .int 0) (C := RX5) (T := TX5) (N := 12) hx hb hts in_X8_odds_X5 hown hK hP 1 rfl rfl 3 (by decide) (hts (.fieldLink RX8 184 "EightReasons$Suit" "fray" "I") (List.mem_of_getElem? (i := 2) (by decide +kernel))) (fun _ h9 => h9) rfl dX8_odds_39 ?_
            refine lv_isub hx hb dX8_odds_42 (tpi (v := 100) (by decide) ?_)
            refine lv_imul hx hb dX8_odds_43 (tpi (v := 100000000) (by decide) ?_)
            refine lv_istore_n (lv' := [(3, .int 100000000), (5, .int 3), (4, .int 1000000), (0, .ref a0), (1, .int 4), (2, .int 0)]) hx hb dX8_odds_44 rfl hl (by decide) rfl (fun ls hl => ?_)
            refine lv_iload hx hb dX8_odds_45 (lv_at hl 2 rfl) ?_
            refine lv_bipush (v := 100) hx hb dX8_odds_47 (by decide) ?_
            refine lv_imul hx hb dX8_odds_49 (tpi (v := 100000000) (by decide) ?_)
            refine lv_istore (lv' := [(4, .int 100000000), (3, .int 100000000), (5, .int 3), (0, .ref a0), (1, .int 4), (2, .int 0)]) hx hb dX8_odds_50 hl (by decide) rfl (fun ls hl => ?_)
            refine lv_iinc (v := 4) (lv' := [(5, .int 4), (4, .int 100000000), (3, .int 100000000), (0, .ref a0), (1, .int 4), (2, .int 0)]) hx hb dX8_odds_52 hl (k := 2) rfl (by decide) (by decide) rfl (fun ls hl => ?_)
            refine lv_goto (tgt := 26) hx hb dX8_odds_55 (by decide) ?_
            refine lv_iload hx hb dX8_odds_26 (lv_at hl 0 rfl) ?_
            refine lv_iload_n hx hb dX8_odds_28 rfl (lv_at hl 4 rfl) ?_
            refine lv_icmp_ge (tgt := 58) hx hb dX8_odds_29 (by decide) (fun _ => ?_) (fun c => absurd (by decide) c)
            refine lv_iload hx hb dX8_odds_58 (lv_at hl 1 rfl) ?_
            refine lv_iload_n hx hb dX8_odds_60 rfl (lv_at hl 2 rfl) ?_
            refine clSI (As := [.int 100000000, .int 100000000]) (rest := []) (wr := [(a0, .inr (8, [v0_0, .ref a1, v0_2, v0_3, v0_4, v0_5, v0_6, v0_7, v0_8, v0_9, v0_10, v0_11, v0_12])), (a1, .inr (5, [v1_0, v1_1, v1_2, .int 0, v1_4, v1_5, v1_6, v1_7, v1_8, v1_9, v1_10, v1_11]))]) ⟨hx, hb, hml, hown, hts⟩ hK hP hD hS hA (k_X8_commonDivisor_4 l D cy _) (va_cwS 2 hts gX8_odds_X8_commonDivisor rfl rfl rfl (by decide +kernel) ⟨Nat.le_of_ble_eq_true rfl, Nat.le_of_ble_eq_true rfl⟩) [] [0, 1] rfl rfl rfl rfl (by decide) rfl hl.1 rfl (Nat.le_of_ble_eq_true rfl) dX8_odds_61 ⟨Nat.le_of_ble_eq_true rfl, Nat.le_of_ble_eq_true rfl⟩ rfl rfl (fun r _ H locs hw hP hD hS => ?_)
            have hP : va_P D vwCl [(a0, .inr (8, [v0_0, .ref a1, v0_2, v0_3, v0_4, v0_5, v0_6, v0_7, v0_8, v0_9, v0_10, v0_11, v0_12])), (a1, .inr (5, [v1_0, v1_1, v1_2, .int 0, v1_4, v1_5, v1_6, v1_7, v1_8, v1_9, v1_10, v1_11]))] H := hP
            have hD : va_D A [(a0, .inr (8, [v0_0, .ref a1, v0_2, v0_3, v0_4, v0_5, v0_6, v0_7, v0_8, v0_9, v0_10, v0_11, v0_12])), (a1, .inr (5, [v1_0, v1_1, v1_2, .int 0, v1_4, v1_5, v1_6, v1_7, v1_8, v1_9, v1_10, v1_11]))] := hD
            obtain rfl : r = 100000000 := hw
            refine lv_istore (lv' := [(5, .int 100000000), (4, .int 100000000), (3, .int 100000000), (0, .ref a0), (1, .int 4), (2, .int 0)]) hx hb dX8_odds_64 hl (by decide) rfl (fun ls hl => ?_)
            refine lv_iload_n hx hb dX8_odds_66 rfl (lv_at hl 5 rfl) ?_
            refine lv_if_ne (tgt := 74) hx hb dX8_odds_67 (by decide) (fun c => absurd (by decide) c) (fun _ => ?_)
            refine lv_iload_n hx hb dX8_odds_70 rfl (lv_at hl 2 rfl) ?_
            refine lv_goto (tgt := 76) hx hb dX8_odds_71 (by decide) ?_
            refine lv_iload hx hb dX8_odds_76 (lv_at hl 0 rfl) ?_
            refine lv_idiv hx hb dX8_odds_78 (by decide) (tpi (v := 1) (by decide) ?_)
            exact rtI hx hb hr hlk rfl hP hD hS () [] rfl rfl (Or.inr ⟨rfl, (Or.inr (Or.inr (Or.inr (Or.inr (Or.inr (Or.inr (Or.inr (Or.inr (Or.inl ⟨c1, c2, c4, rfl, rfl⟩)))))))))⟩) dX8_odds_79
          · refine lv_iconst (v := 1) hx hb dX8_odds_18 (by decide) ?_
            refine lv_istore_n (lv' := [(3, .int 1), (0, .ref a0), (1, .int 4), (2, .int 1)]) hx hb dX8_odds_19 rfl hl (by decide) rfl (fun ls hl => ?_)
            refine lv_iconst (v := 1) hx hb dX8_odds_20 (by decide) ?_
            refine lv_istore (lv' := [(4, .int 1), (3, .int 1), (0, .ref a0), (1, .int 4), (2, .int 1)]) hx hb dX8_odds_21 hl (by decide) rfl (fun ls hl => ?_)
            refine lv_iconst (v := 0) hx hb dX8_odds_23 (by decide) ?_
            refine lv_istore (lv' := [(5, .int 0), (4, .int 1), (3, .int 1), (0, .ref a0), (1, .int 4), (2, .int 1)]) hx hb dX8_odds_24 hl (by decide) rfl (fun ls hl => ?_)
            refine lv_iload hx hb dX8_odds_26 (lv_at hl 0 rfl) ?_
            refine lv_iload_n hx hb dX8_odds_28 rfl (lv_at hl 4 rfl) ?_
            refine lv_icmp_ge (tgt := 58) hx hb dX8_odds_29 (by decide) (fun c => absurd c (by decide)) (fun _ => ?_)
            refine lv_iload_n hx hb dX8_odds_32 rfl (lv_at hl 2 rfl) ?_
            refine lv_bipush (v := 100) hx hb dX8_odds_33 (by decide) ?_
            refine lv_aload_n hx hb dX8_odds_35 rfl (lv_at hl 3 rfl) ?_
            refine va_get (D := D) (cl := vwCl) (ci := 8) (v := .ref a1) (C := RX8) (T := TX8) (N := 13) hx hb hts in_X8_odds_X8 hown hK hP 0 rfl rfl 1 (by decide) (hts (.fieldLink RX8 19 "EightReasons" "told" "LEightReasons$Suit;") (List.mem_of_getElem? (i := 1) (by decide +kernel))) (fun _ h9 => h9) rfl dX8_odds_36 ?_
            refine va_get (D := D) (cl := vwCl) (ci := 5) (v := .int 0) (C := RX5) (T := TX5) (N := 12) hx hb hts in_X8_odds_X5 hown hK hP 1 rfl rfl 3 (by decide) (hts (.fieldLink RX8 184 "EightReasons$Suit" "fray" "I") (List.mem_of_getElem? (i := 2) (by decide +kernel))) (fun _ h9 => h9) rfl dX8_odds_39 ?_
            refine lv_isub hx hb dX8_odds_42 (tpi (v := 100) (by decide) ?_)
            refine lv_imul hx hb dX8_odds_43 (tpi (v := 100) (by decide) ?_)
            refine lv_istore_n (lv' := [(3, .int 100), (5, .int 0), (4, .int 1), (0, .ref a0), (1, .int 4), (2, .int 1)]) hx hb dX8_odds_44 rfl hl (by decide) rfl (fun ls hl => ?_)
            refine lv_iload hx hb dX8_odds_45 (lv_at hl 2 rfl) ?_
            refine lv_bipush (v := 100) hx hb dX8_odds_47 (by decide) ?_
            refine lv_imul hx hb dX8_odds_49 (tpi (v := 100) (by decide) ?_)
            refine lv_istore (lv' := [(4, .int 100), (3, .int 100), (5, .int 0), (0, .ref a0), (1, .int 4), (2, .int 1)]) hx hb dX8_odds_50 hl (by decide) rfl (fun ls hl => ?_)
            refine lv_iinc (v := 1) (lv' := [(5, .int 1), (4, .int 100), (3, .int 100), (0, .ref a0), (1, .int 4), (2, .int 1)]) hx hb dX8_odds_52 hl (k := 2) rfl (by decide) (by decide) rfl (fun ls hl => ?_)
            refine lv_goto (tgt := 26) hx hb dX8_odds_55 (by decide) ?_
            refine lv_iload hx hb dX8_odds_26 (lv_at hl 0 rfl) ?_
            refine lv_iload_n hx hb dX8_odds_28 rfl (lv_at hl 4 rfl) ?_
            refine lv_icmp_ge (tgt := 58) hx hb dX8_odds_29 (by decide) (fun c => absurd c (by decide)) (fun _ => ?_)
            refine lv_iload_n hx hb dX8_odds_32 rfl (lv_at hl 2 rfl) ?_
            refine lv_bipush (v := 100) hx hb dX8_odds_33 (by decide) ?_
            refine lv_aload_n hx hb dX8_odds_35 rfl (lv_at hl 3 rfl) ?_
            refine va_get (D := D) (cl := vwCl) (ci := 8) (v := .ref a1) (C := RX8) (T := TX8) (N := 13) hx hb hts in_X8_odds_X8 hown hK hP 0 rfl rfl 1 (by decide) (hts (.fieldLink RX8 19 "EightReasons" "told" "LEightReasons$Suit;") (List.mem_of_getElem? (i := 1) (by decide +kernel))) (fun _ h9 => h9) rfl dX8_odds_36 ?_
            refine va_get (D := D) (cl := vwCl) (ci := 5) (v := .int 0) (C := RX5) (T := TX5) (N := 12) hx hb hts in_X8_odds_X5 hown hK hP 1 rfl rfl 3 (by decide) (hts (.fieldLink RX8 184 "EightReasons$Suit" "fray" "I") (List.mem_of_getElem? (i := 2) (by decide +kernel))) (fun _ h9 => h9) rfl dX8_odds_39 ?_
            refine lv_isub hx hb dX8_odds_42 (tpi (v := 100) (by decide) ?_)
            refine lv_imul hx hb dX8_odds_43 (tpi (v := 10000) (by decide) ?_)
            refine lv_istore_n (lv' := [(3, .int 10000), (5, .int 1), (4, .int 100), (0, .ref a0), (1, .int 4), (2, .int 1)]) hx hb dX8_odds_44 rfl hl (by decide) rfl (fun ls hl => ?_)
            refine lv_iload hx hb dX8_odds_45 (lv_at hl 2 rfl) ?_
            refine lv_bipush (v := 100) hx hb dX8_odds_47 (by decide) ?_
            refine lv_imul hx hb dX8_odds_49 (tpi (v := 10000) (by decide) ?_)
            refine lv_istore (lv' := [(4, .int 10000), (3, .int 10000), (5, .int 1), (0, .ref a0), (1, .int 4), (2, .int 1)]) hx hb dX8_odds_50 hl (by decide) rfl (fun ls hl => ?_)
            refine lv_iinc (v := 2) (lv' := [(5, .int 2), (4, .int 10000), (3, .int 10000), (0, .ref a0), (1, .int 4), (2, .int 1)]) hx hb dX8_odds_52 hl (k := 2) rfl (by decide) (by decide) rfl (fun ls hl => ?_)
            refine lv_goto (tgt := 26) hx hb dX8_odds_55 (by decide) ?_
            refine lv_iload hx hb dX8_odds_26 (lv_at hl 0 rfl) ?_
            refine lv_iload_n hx hb dX8_odds_28 rfl (lv_at hl 4 rfl) ?_
            refine lv_icmp_ge (tgt := 58) hx hb dX8_odds_29 (by decide) (fun c => absurd c (by decide)) (fun _ => ?_)
            refine lv_iload_n hx hb dX8_odds_32 rfl (lv_at hl 2 rfl) ?_
            refine lv_bipush (v := 100) hx hb dX8_odds_33 (by decide) ?_
            refine lv_aload_n hx hb dX8_odds_35 rfl (lv_at hl 3 rfl) ?_
            refine va_get (D := D) (cl := vwCl) (ci := 8) (v := .ref a1) (C := RX8) (T := TX8) (N := 13) hx hb hts in_X8_odds_X8 hown hK hP 0 rfl rfl 1 (by decide) (hts (.fieldLink RX8 19 "EightReasons" "told" "LEightReasons$Suit;") (List.mem_of_getElem? (i := 1) (by decide +kernel))) (fun _ h9 => h9) rfl dX8_odds_36 ?_
            refine va_get (D := D) (cl := vwCl) (ci := 5) (v := .int 0) (C := RX5) (T := TX5) (N := 12) hx hb hts in_X8_odds_X5 hown hK hP 1 rfl rfl 3 (by decide) (hts (.fieldLink RX8 184 "EightReasons$Suit" "fray" "I") (List.mem_of_getElem? (i := 2) (by decide +kernel))) (fun _ h9 => h9) rfl dX8_odds_39 ?_
            refine lv_isub hx hb dX8_odds_42 (tpi (v := 100) (by decide) ?_)
            refine lv_imul hx hb dX8_odds_43 (tpi (v := 1000000) (by decide) ?_)
            refine lv_istore_n (lv' := [(3, .int 1000000), (5, .int 2), (4, .int 10000), (0, .ref a0), (1, .int 4), (2, .int 1)]) hx hb dX8_odds_44 rfl hl (by decide) rfl (fun ls hl => ?_)
            refine lv_iload hx hb dX8_odds_45 (lv_at hl 2 rfl) ?_
            refine lv_bipush (v := 100) hx hb dX8_odds_47 (by decide) ?_
            refine lv_imul hx hb dX8_odds_49 (tpi (v := 1000000) (by decide) ?_)
            refine lv_istore (lv' := [(4, .int 1000000), (3, .int 1000000), (5, .int 2), (0, .ref a0), (1, .int 4), (2, .int 1)]) hx hb dX8_odds_50 hl (by decide) rfl (fun ls hl => ?_)
            refine lv_iinc (v := 3) (lv' := [(5, .int 3), (4, .int 1000000), (3, .int 1000000), (0, .ref a0), (1, .int 4), (2, .int 1)]) hx hb dX8_odds_52 hl (k := 2) rfl (by decide) (by decide) rfl (fun ls hl => ?_)
            refine lv_goto (tgt := 26) hx hb dX8_odds_55 (by decide) ?_
            refine lv_iload hx hb dX8_odds_26 (lv_at hl 0 rfl) ?_
            refine lv_iload_n hx hb dX8_odds_28 rfl (lv_at hl 4 rfl) ?_
            refine lv_icmp_ge (tgt := 58) hx hb dX8_odds_29 (by decide) (fun c => absurd c (by decide)) (fun _ => ?_)
            refine lv_iload_n hx hb dX8_odds_32 rfl (lv_at hl 2 rfl) ?_
            refine lv_bipush (v := 100) hx hb dX8_odds_33 (by decide) ?_
            refine lv_aload_n hx hb dX8_odds_35 rfl (lv_at hl 3 rfl) ?_
            refine va_get (D := D) (cl := vwCl) (ci := 8) (v := .ref a1) (C := RX8) (T := TX8) (N := 13) hx hb hts in_X8_odds_X8 hown hK hP 0 rfl rfl 1 (by decide) (hts (.fieldLink RX8 19 "EightReasons" "told" "LEightReasons$Suit;") (List.mem_of_getElem? (i := 1) (by decide +kernel))) (fun _ h9 => h9) rfl dX8_odds_36 ?_
            refine va_get (D := D) (cl := vwCl) (ci := 5) (v := .int 0) (C := RX5) (T := TX5) (N := 12) hx hb hts in_X8_odds_X5 hown hK hP 1 rfl rfl 3 (by decide) (hts (.fieldLink RX8 184 "EightReasons$Suit" "fray" "I") (List.mem_of_getElem? (i := 2) (by decide +kernel))) (fun _ h9 => h9) rfl dX8_odds_39 ?_
            refine lv_isub hx hb dX8_odds_42 (tpi (v := 100) (by decide) ?_)
            refine lv_imul hx hb dX8_odds_43 (tpi (v := 100000000) (by decide) ?_)
            refine lv_istore_n (lv' := [(3, .int 100000000), (5, .int 3), (4, .int 1000000), (0, .ref a0), (1, .int 4), (2, .int 1)]) hx hb dX8_odds_44 rfl hl (by decide) rfl (fun ls hl => ?_)
            refine lv_iload hx hb dX8_odds_45 (lv_at hl 2 rfl) ?_
            refine lv_bipush (v := 100) hx hb dX8_odds_47 (by decide) ?_
            refine lv_imul hx hb dX8_odds_49 (tpi (v := 100000000) (by decide) ?_)
            refine lv_istore (lv' := [(4, .int 100000000), (3, .int 100000000), (5, .int 3), (0, .ref a0), (1, .int 4), (2, .int 1)]) hx hb dX8_odds_50 hl (by decide) rfl (fun ls hl => ?_)
            refine lv_iinc (v := 4) (lv' := [(5, .int 4), (4, .int 100000000), (3, .int 100000000), (0, .ref a0), (1, .int 4), (2, .int 1)]) hx hb dX8_odds_52 hl (k := 2) rfl (by decide) (by decide) rfl (fun ls hl => ?_)
            refine lv_goto (tgt := 26) hx hb dX8_odds_55 (by decide) ?_
            refine lv_iload hx hb dX8_odds_26 (lv_at hl 0 rfl) ?_
            refine lv_iload_n hx hb dX8_odds_28 rfl (lv_at hl 4 rfl) ?_
            refine lv_icmp_ge (tgt := 58) hx hb dX8_odds_29 (by decide) (fun _ => ?_) (fun c => absurd (by decide) c)
            refine lv_iload hx hb dX8_odds_58 (lv_at hl 1 rfl) ?_
            refine lv_iload_n hx hb dX8_odds_60 rfl (lv_at hl 2 rfl) ?_
            refine clSI (As := [.int 100000000, .int 100000000]) (rest := []) (wr := [(a0, .inr (8, [v0_0, .ref a1, v0_2, v0_3, v0_4, v0_5, v0_6, v0_7, v0_8, v0_9, v0_10, v0_11, v0_12])), (a1, .inr (5, [v1_0, v1_1, v1_2, .int 0, v1_4, v1_5, v1_6, v1_7, v1_8, v1_9, v1_10, v1_11]))]) ⟨hx, hb, hml, hown, hts⟩ hK hP hD hS hA (k_X8_commonDivisor_4 l D cy _) (va_cwS 2 hts gX8_odds_X8_commonDivisor rfl rfl rfl (by decide +kernel) ⟨Nat.le_of_ble_eq_true rfl, Nat.le_of_ble_eq_true rfl⟩) [] [0, 1] rfl rfl rfl rfl (by decide) rfl hl.1 rfl (Nat.le_of_ble_eq_true rfl) dX8_odds_61 ⟨Nat.le_of_ble_eq_true rfl, Nat.le_of_ble_eq_true rfl⟩ rfl rfl (fun r _ H locs hw hP hD hS => ?_)
            have hP : va_P D vwCl [(a0, .inr (8, [v0_0, .ref a1, v0_2, v0_3, v0_4, v0_5, v0_6, v0_7, v0_8, v0_9, v0_10, v0_11, v0_12])), (a1, .inr (5, [v1_0, v1_1, v1_2, .int 0, v1_4, v1_5, v1_6, v1_7, v1_8, v1_9, v1_10, v1_11]))] H := hP
            have hD : va_D A [(a0, .inr (8, [v0_0, .ref a1, v0_2, v0_3, v0_4, v0_5, v0_6, v0_7, v0_8, v0_9, v0_10, v0_11, v0_12])), (a1, .inr (5, [v1_0, v1_1, v1_2, .int 0, v1_4, v1_5, v1_6, v1_7, v1_8, v1_9, v1_10, v1_11]))] := hD
            obtain rfl : r = 100000000 := hw
            refine lv_istore (lv' := [(5, .int 100000000), (4, .int 100000000), (3, .int 100000000), (0, .ref a0), (1, .int 4), (2, .int 1)]) hx hb dX8_odds_64 hl (by decide) rfl (fun ls hl => ?_)
            refine lv_iload_n hx hb dX8_odds_66 rfl (lv_at hl 5 rfl) ?_
            refine lv_if_ne (tgt := 74) hx hb dX8_odds_67 (by decide) (fun _ => ?_) (fun c => absurd c (by decide))
            refine lv_iload hx hb dX8_odds_74 (lv_at hl 1 rfl) ?_
            refine lv_iload hx hb dX8_odds_76 (lv_at hl 0 rfl) ?_
            refine lv_idiv hx hb dX8_odds_78 (by decide) (tpi (v := 1) (by decide) ?_)
            exact rtI hx hb hr hlk rfl hP hD hS () [] rfl rfl (Or.inr ⟨rfl, (Or.inr (Or.inr (Or.inr (Or.inr (Or.inr (Or.inr (Or.inr (Or.inr (Or.inr ⟨c1, c2, c4, rfl, rfl⟩)))))))))⟩) dX8_odds_79
      · refine lv_if_ne (tgt := 18) hx hb dX8_odds_13 (by decide) (fun c => absurd (by decide) c) (fun _ => ?_)
        refine lv_iconst (v := (-1)) hx hb dX8_odds_16 (by decide) ?_
        exact rtI hx hb hr hlk rfl hP hD hS () [] rfl rfl (Or.inl ⟨rfl, (Or.inr (Or.inr ⟨c1, c2, c4⟩))⟩) dX8_odds_17
