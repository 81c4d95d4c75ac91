set_option maxHeartbeats 4000000 in
set_option maxRecDepth 100000 in
theorem k_X9_isIn_8 (l : Launch) (D : va_G) (cy : Nat → ClassId)  (p0 : Int32) (sz : Nat) : CtI l yX9_isIn wsX9_isIn 0 0 [.int p0, .int 0, .int 2] D cy [] sz 0 0 (fun (r : Int32) (_ : Unit) => (r = 0 ∧ (((p0 < 0)) ∨ ((¬ p0 < 0) ∧ (2 < p0)))) ∨ (r = 1 ∧ (((¬ p0 < 0) ∧ (¬ 2 < p0))))) (fun _ => []) := by
  refine CtI.of (cc := cX9_isIn) (maxL := 3) (ty := .boolean) (own := RX9) (by decide) rfl (Nat.le_of_ble_eq_true rfl) rfl ?_
  intro p e s m below meth c A ls hx hb hr hml hts hown hlk hK hP hD hS hA hl
  have hl : lv_has ls 3 [(0, .int p0), (1, .int 0), (2, .int 2)] := hl
  refine st0 (fun H locs hP hS => ?_) hP hS
  have hP : va_P D vwCl [] H := hP
  have hD : va_D A [] := hD
  refine lv_iload_n hx hb dX9_isIn_0 rfl (lv_at hl 0 rfl) ?_
  refine lv_iload_n hx hb dX9_isIn_1 rfl (lv_at hl 1 rfl) ?_
  refine lv_icmp_lt (tgt := 14) hx hb dX9_isIn_2 (by decide) (fun c1 => ?_) (fun c1 => ?_)
  · refine lv_iconst (v := 0) hx hb dX9_isIn_14 (by decide) ?_
    exact rtI hx hb hr hlk rfl hP hD hS () [] rfl rfl (Or.inl ⟨rfl, (Or.inl c1)⟩) dX9_isIn_15
  · refine lv_iload_n hx hb dX9_isIn_5 rfl (lv_at hl 0 rfl) ?_
    refine lv_iload_n hx hb dX9_isIn_6 rfl (lv_at hl 2 rfl) ?_
    refine lv_icmp_gt (tgt := 14) hx hb dX9_isIn_7 (by decide) (fun c2 => ?_) (fun c2 => ?_)
    · refine lv_iconst (v := 0) hx hb dX9_isIn_14 (by decide) ?_
      exact rtI hx hb hr hlk rfl hP hD hS () [] rfl rfl (Or.inl ⟨rfl, (Or.inr ⟨c1, c2⟩)⟩) dX9_isIn_15
    · refine lv_iconst (v := 1) hx hb dX9_isIn_10 (by decide) ?_
      refine lv_goto (tgt := 15) hx hb dX9_isIn_11 (by decide) ?_
      exact rtI hx hb hr hlk rfl hP hD hS () [] rfl rfl (Or.inr ⟨rfl, ⟨c1, c2⟩⟩) dX9_isIn_15
set_option maxHeartbeats 4000000 in
set_option maxRecDepth 100000 in
theorem k_X9_image_0 (l : Launch) (D : va_G) (cy : Nat → ClassId) (a0 a1 a2 a3 : Nat) (v0_0 : Value) (v0_1 : Value) (v0_2 : Value) (v0_3 : Value) (v0_4 : Value) (v0_5 : Value) (v0_6 : Value) (v0_7 : Value) (v0_8 : Value) (v0_9 : Value) (v0_10 : Value) (v0_11 : Value) (v0_12 : Value) (v0_13 : Value) (v0_14 : Value) (v0_15 : Value) (v0_16 : Value) (v0_17 : Value) (v0_18 : Value) (v0_19 : Value) (v0_20 : Value) (v0_21 : Value) (v0_22 : Value) (v0_23 : Value) (v0_24 : Value) (v0_25 : Value) (v0_26 : Value) (v0_27 : Value) (v0_28 : Value) (v0_29 : Value) (v0_30 : Value) (v0_31 : Value) (v0_32 : Value) (v0_33 : Value) (v0_34 : Value) (v0_35 : Value) (v0_36 : Value) (v0_38 : Value) (v0_39 : Value) (v0_40 : Value) (v0_41 : Value) (v0_42 : Value) (v0_43 : Value) (v0_44 : Value) (v0_45 : Value) (v0_46 : Value) (v0_47 : Value) (v0_48 : Value) (v0_49 : Value) (v0_50 : Value) (v0_51 : Value) (v0_52 : Value) (v0_53 : Value) (v0_54 : Value) (v0_55 : Value) (v0_56 : Value) (v0_57 : Value) (v0_58 : Value) (v0_59 : Value) (v0_60 : Value) (v0_61 : Value) (p1 : Int32) (sz : Nat) : CtI l yX9_image wsX9_image 1 22 [.ref a0, .int p1] D cy [(a0, .inr (9, [v0_0, v0_1, v0_2, v0_3, v0_4, v0_5, v0_6, v0_7, v0_8, v0_9, v0_10, v0_11, v0_12, v0_13, v0_14, v0_15, v0_16, v0_17, v0_18, v0_19, v0_20, v0_21, v0_22, v0_23, v0_24, v0_25, v0_26, v0_27, v0_28, v0_29, v0_30, v0_31, v0_32, v0_33, v0_34, v0_35, v0_36, .ref a1, v0_38, v0_39, v0_40, v0_41, v0_42, v0_43, v0_44, v0_45, v0_46, v0_47, v0_48, v0_49, v0_50, v0_51, v0_52, v0_53, v0_54, v0_55, v0_56, v0_57, v0_58, v0_59, v0_60, v0_61, .ref a2, .ref a3])), (a1, .inl (cy 0, 16, .inl zI)), (a2, .inl (cy 0, 48, .inl zI)), (a3, .inl (cy 3, 3, .inl zI))] sz 0 0 (fun (r : Int32) (_ : Unit) => (r = (-1) ∧ ((((((p1 < 0)) ∨ ((¬ p1 < 0) ∧ (2 < p1))))))) ∨ (r = 0 ∧ ((((((¬ p1 < 0) ∧ (¬ 2 < p1)))) ∧ (p1 = 0)) ∨ (((((¬ p1 < 0) ∧ (¬ 2 < p1)))) ∧ (p1 = 1)) ∨ (((((¬ p1 < 0) ∧ (¬ 2 < p1)))) ∧ (p1 = 2))))) (fun _ => []) := by
  refine CtI.of (cc := cX9_image) (maxL := 3) (ty := .int) (own := RX9) (by decide) rfl (Nat.le_of_ble_eq_true rfl) rfl ?_
  intro p e s m below meth c A ls hx hb hr hml hts hown hlk hK hP hD hS hA hl
  have hl : lv_has ls 3 [(0, .ref a0), (1, .int p1)] := hl
  refine st0 (fun H locs hP hS => ?_) hP hS
  have hP : va_P D vwCl [(a0, .inr (9, [v0_0, v0_1, v0_2, v0_3, v0_4, v0_5, v0_6, v0_7, v0_8, v0_9, v0_10, v0_11, v0_12, v0_13, v0_14, v0_15, v0_16, v0_17, v0_18, v0_19, v0_20, v0_21, v0_22, v0_23, v0_24, v0_25, v0_26, v0_27, v0_28, v0_29, v0_30, v0_31, v0_32, v0_33, v0_34, v0_35, v0_36, .ref a1, v0_38, v0_39, v0_40, v0_41, v0_42, v0_43, v0_44, v0_45, v0_46, v0_47, v0_48, v0_49, v0_50, v0_51, v0_52, v0_53, v0_54, v0_55, v0_56, v0_57, v0_58, v0_59, v0_60, v0_61, .ref a2, .ref a3])), (a1, .inl (cy 0, 16, .inl zI)), (a2, .inl (cy 0, 48, .inl zI)), (a3, .inl (cy 3, 3, .inl zI))] H := hP
  have hD : va_D A [(a0, .inr (9, [v0_0, v0_1, v0_2, v0_3, v0_4, v0_5, v0_6, v0_7, v0_8, v0_9, v0_10, v0_11, v0_12, v0_13, v0_14, v0_15, v0_16, v0_17, v0_18, v0_19, v0_20, v0_21, v0_22, v0_23, v0_24, v0_25, v0_26, v0_27, v0_28, v0_29, v0_30, v0_31, v0_32, v0_33, v0_34, v0_35, v0_36, .ref a1, v0_38, v0_39, v0_40, v0_41, v0_42, v0_43, v0_44, v0_45, v0_46, v0_47, v0_48, v0_49, v0_50, v0_51, v0_52, v0_53, v0_54, v0_55, v0_56, v0_57, v0_58, v0_59, v0_60, v0_61, .ref a2, .ref a3])), (a1, .inl (cy 0, 16, .inl zI)), (a2, .inl (cy 0, 48, .inl zI)), (a3, .inl (cy 3, 3, .inl zI))] := hD
  refine lv_iload_n hx hb dX9_image_0 rfl (lv_at hl 1 rfl) ?_
  refine lv_iconst (v := 0) hx hb dX9_image_1 (by decide) ?_
  refine lv_iconst (v := 2) hx hb dX9_image_2 (by decide) ?_
  refine clSI (As := [.int p1, .int 0, .int 2]) (rest := []) (wr := [(a0, .inr (9, [v0_0, v0_1, v0_2, v0_3, v0_4, v0_5, v0_6, v0_7, v0_8, v0_9, v0_10, v0_11, v0_12, v0_13, v0_14, v0_15, v0_16, v0_17, v0_18, v0_19, v0_20, v0_21, v0_22, v0_23, v0_24, v0_25, v0_26, v0_27, v0_28, v0_29, v0_30, v0_31, v0_32, v0_33, v0_34, v0_35, v0_36, .ref a1, v0_38, v0_39, v0_40, v0_41, v0_42, v0_43, v0_44, v0_45, v0_46, v0_47, v0_48, v0_49, v0_50, v0_51, v0_52, v0_53, v0_54, v0_55, v0_56, v0_57, v0_58, v0_59, v0_60, v0_61, .ref a2, .ref a3])), (a1, .inl (cy 0, 16, .inl zI)), (a2, .inl (cy 0, 48, .inl zI)), (a3, .inl (cy 3, 3, .inl zI))]) ⟨hx, hb, hml, hown, hts⟩ hK hP hD hS hA (k_X9_isIn_8 l D cy p1 _) (va_cwS 3 hts gX9_image_X9_isIn rfl rfl rfl (by decide +kernel) ⟨Nat.le_of_ble_eq_true rfl, Nat.le_of_ble_eq_true rfl⟩) [] [0, 1, 2, 3] rfl rfl rfl rfl (by decide) rfl hl.1 rfl (Nat.le_of_ble_eq_true rfl) dX9_image_3 ⟨Nat.le_of_ble_eq_true rfl, Nat.le_of_ble_eq_true rfl⟩ rfl rfl (fun r _ H locs hw hP hD hS => ?_)
  have hP : va_P D vwCl [(a0, .inr (9, [v0_0, v0_1, v0_2, v0_3, v0_4, v0_5, v0_6, v0_7, v0_8, v0_9, v0_10, v0_11, v0_12, v0_13, v0_14, v0_15, v0_16, v0_17, v0_18, v0_19, v0_20, v0_21, v0_22, v0_23, v0_24, v0_25, v0_26, v0_27, v0_28, v0_29, v0_30, v0_31, v0_32, v0_33, v0_34, v0_35, v0_36, .ref a1, v0_38, v0_39, v0_40, v0_41, v0_42, v0_43, v0_44, v0_45, v0_46, v0_47, v0_48, v0_49, v0_50, v0_51, v0_52, v0_53, v0_54, v0_55, v0_56, v0_57, v0_58, v0_59, v0_60, v0_61, .ref a2, .ref a3])), (a1, .inl (cy 0, 16, .inl zI)), (a2, .inl (cy 0, 48, .inl zI)), (a3, .inl (cy 3, 3, .inl zI))] H := hP
  have hD : va_D A [(a0, .inr (9, [v0_0, v0_1, v0_2, v0_3, v0_4, v0_5, v0_6, v0_7, v0_8, v0_9, v0_10, v0_11, v0_12, v0_13, v0_14, v0_15, v0_16, v0_17, v0_18, v0_19, v0_20, v0_21, v0_22, v0_23, v0_24, v0_25, v0_26, v0_27, v0_28, v0_29, v0_30, v0_31, v0_32, v0_33, v0_34, v0_35, v0_36, .ref a1, v0_38, v0_39, v0_40, v0_41, v0_42, v0_43, v0_44, v0_45, v0_46, v0_47, v0_48, v0_49, v0_50, v0_51, v0_52, v0_53, v0_54, v0_55, v0_56, v0_57, v0_58, v0_59, v0_60, v0_61, .ref a2, .ref a3])), (a1, .inl (cy 0, 16, .inl zI)), (a2, .inl (cy 0, 48, .inl zI)), (a3, .inl (cy 3, 3, .inl zI))] := hD
  rcases (show (r = 0 ∧ (((p1 < 0)) ∨ ((¬ p1 < 0) ∧ (2 < p1)))) ∨ (r = 1 ∧ (((¬ p1 < 0) ∧ (¬ 2 < p1)))) from hw) with ⟨rfl, c2⟩ | ⟨rfl, c2⟩
  · refine lv_if_ne (tgt := 11) hx hb dX9_image_6 (by decide) (fun c => absurd (by decide) c) (fun _ => ?_)
    refine lv_iconst (v := (-1)) hx hb dX9_image_9 (by decide) ?_
    exact rtI hx hb hr hlk rfl hP hD hS () [] rfl rfl (Or.inl ⟨rfl, c2⟩) dX9_image_10
  · refine lv_if_ne (tgt := 11) hx hb dX9_image_6 (by decide) (fun _ => ?_) (fun c => absurd c (by decide))
    have hsp3 : p1 = 0 ∨ p1 = 1 ∨ p1 = 2 := by
      simp only [i_lt, i_le, i_eq, tl_m1, tl_0, tl_1, tl_2, tl_3, tl_4, tl_20, tl_60, tl_99, tl_1000, tl_100000] at c2 ⊢
      omega
    rcases hsp3 with rfl | rfl | rfl
    · refine lv_iconst (v := 0) hx hb dX9_image_11 (by decide) ?_
      refine lv_istore_n (lv' := [(2, .int 0), (0, .ref a0), (1, .int 0)]) hx hb dX9_image_12 rfl hl (by decide) rfl (fun ls hl => ?_)
      refine lv_iload_n hx hb dX9_image_13 rfl (lv_at hl 0 rfl) ?_
      refine lv_bipush (v := 16) hx hb dX9_image_14 (by decide) ?_
      refine lv_icmp_ge (tgt := 42) hx hb dX9_image_16 (by decide) (fun c => absurd c (by decide)) (fun _ => ?_)
      refine lv_aload_n hx hb dX9_image_19 rfl (lv_at hl 1 rfl) ?_
      refine va_get (D := D) (cl := vwCl) (ci := 9) (v := .ref a2) (C := RX9) (T := TX9) (N := 64) hx hb hts in_X9_image_X9 hown hK hP 0 rfl rfl 62 (by decide) (hts (.fieldLink RX9 125 "EightReasonsModel" "boxAll" "[I") (List.mem_of_getElem? (i := 1) (by decide +kernel))) (fun _ h9 => h9) rfl dX9_image_20 ?_
      refine lv_bipush (v := 16) hx hb dX9_image_23 (by decide) ?_
      refine lv_iload_n hx hb dX9_image_25 rfl (lv_at hl 2 rfl) ?_
      refine lv_imul hx hb dX9_image_26 (tpi (v := 0) (by decide) ?_)
      refine lv_iload_n hx hb dX9_image_27 rfl (lv_at hl 0 rfl) ?_
      refine lv_iadd hx hb dX9_image_28 (tpi (v := 0) (by decide) ?_)
      refine lv_aload_n hx hb dX9_image_29 rfl (lv_at hl 1 rfl) ?_
      refine va_get (D := D) (cl := vwCl) (ci := 9) (v := .ref a1) (C := RX9) (T := TX9) (N := 64) hx hb hts in_X9_image_X9 hown hK hP 0 rfl rfl 37 (by decide) (hts (.fieldLink RX9 76 "EightReasonsModel" "all" "[I") (List.mem_of_getElem? (i := 2) (by decide +kernel))) (fun _ h9 => h9) rfl dX9_image_30 ?_
      refine lv_iload_n hx hb dX9_image_33 rfl (lv_at hl 0 rfl) ?_
      refine va_iald hx hb hK hP 1 0 rfl rfl (vin (by decide)) dX9_image_34 (tpi (v := 0) rfl ?_)
      refine va_iast hx hb hK hP hD hS 2 0 rfl rfl (vin (by decide)) dX9_image_35 (fun H locs hP hD hS => ?_)
      rw [zI_upd] at hP hD
      have hP : va_P D vwCl [(a0, .inr (9, [v0_0, v0_1, v0_2, v0_3, v0_4, v0_5, v0_6, v0_7, v0_8, v0_9, v0_10, v0_11, v0_12, v0_13, v0_14, v0_15, v0_16, v0_17, v0_18, v0_19, v0_20, v0_21, v0_22, v0_23, v0_24, v0_25, v0_26, v0_27, v0_28, v0_29, v0_30, v0_31, v0_32, v0_33, v0_34, v0_35, v0_36, .ref a1, v0_38, v0_39, v0_40, v0_41, v0_42, v0_43, v0_44, v0_45, v0_46, v0_47, v0_48, v0_49, v0_50, v0_51, v0_52, v0_53, v0_54, v0_55, v0_56, v0_57, v0_58, v0_59, v0_60, v0_61, .ref a2, .ref a3])), (a1, .inl (cy 0, 16, .inl zI)), (a2, .inl (cy 0, 48, .inl zI)), (a3, .inl (cy 3, 3, .inl zI))] H := hP
      have hD : va_D A [(a0, .inr (9, [v0_0, v0_1, v0_2, v0_3, v0_4, v0_5, v0_6, v0_7, v0_8, v0_9, v0_10, v0_11, v0_12, v0_13, v0_14, v0_15, v0_16, v0_17, v0_18, v0_19, v0_20, v0_21, v0_22, v0_23, v0_24, v0_25, v0_26, v0_27, v0_28, v0_29, v0_30, v0_31, v0_32, v0_33, v0_34, v0_35, v0_36, .ref a1, v0_38, v0_39, v0_40, v0_41, v0_42, v0_43, v0_44, v0_45, v0_46, v0_47, v0_48, v0_49, v0_50, v0_51, v0_52, v0_53, v0_54, v0_55, v0_56, v0_57, v0_58, v0_59, v0_60, v0_61, .ref a2, .ref a3])), (a1, .inl (cy 0, 16, .inl zI)), (a2, .inl (cy 0, 48, .inl zI)), (a3, .inl (cy 3, 3, .inl zI))] := hD
      refine lv_iinc (v := 1) (lv' := [(2, .int 1), (0, .ref a0), (1, .int 0)]) hx hb dX9_image_36 hl (k := 0) rfl (by decide) (by decide) rfl (fun ls hl => ?_)
      refine lv_goto (tgt := 13) hx hb dX9_image_39 (by decide) ?_
      refine lv_iload_n hx hb dX9_image_13 rfl (lv_at hl 0 rfl) ?_
      refine lv_bipush (v := 16) hx hb dX9_image_14 (by decide) ?_
      refine lv_icmp_ge (tgt := 42) hx hb dX9_image_16 (by decide) (fun c => absurd c (by decide)) (fun _ => ?_)
      refine lv_aload_n hx hb dX9_image_19 rfl (lv_at hl 1 rfl) ?_
      refine va_get (D := D) (cl := vwCl) (ci := 9) (v := .ref a2) (C := RX9) (T := TX9) (N := 64) hx hb hts in_X9_image_X9 hown hK hP 0 rfl rfl 62 (by decide) (hts (.fieldLink RX9 125 "EightReasonsModel" "boxAll" "[I") (List.mem_of_getElem? (i := 1) (by decide +kernel))) (fun _ h9 => h9) rfl dX9_image_20 ?_
      refine lv_bipush (v := 16) hx hb dX9_image_23 (by decide) ?_
      refine lv_iload_n hx hb dX9_image_25 rfl (lv_at hl 2 rfl) ?_
      refine lv_imul hx hb dX9_image_26 (tpi (v := 0) (by decide) ?_)
      refine lv_iload_n hx hb dX9_image_27 rfl (lv_at hl 0 rfl) ?_
      refine lv_iadd hx hb dX9_image_28 (tpi (v := 1) (by decide) ?_)
      refine lv_aload_n hx hb dX9_image_29 rfl (lv_at hl 1 rfl) ?_
      refine va_get (D := D) (cl := vwCl) (ci := 9) (v := .ref a1) (C := RX9) (T := TX9) (N := 64) hx hb hts in_X9_image_X9 hown hK hP 0 rfl rfl 37 (by decide) (hts (.fieldLink RX9 76 "EightReasonsModel" "all" "[I") (List.mem_of_getElem? (i := 2) (by decide +kernel))) (fun _ h9 => h9) rfl dX9_image_30 ?_
      refine lv_iload_n hx hb dX9_image_33 rfl (lv_at hl 0 rfl) ?_
      refine va_iald hx hb hK hP 1 0 rfl rfl (vin (by decide)) dX9_image_34 (tpi (v := 0) rfl ?_)
      refine va_iast hx hb hK hP hD hS 2 0 rfl rfl (vin (by decide)) dX9_image_35 (fun H locs hP hD hS => ?_)
      rw [zI_upd] at hP hD
      have hP : va_P D vwCl [(a0, .inr (9, [v0_0, v0_1, v0_2, v0_3, v0_4, v0_5, v0_6, v0_7, v0_8, v0_9, v0_10, v0_11, v0_12, v0_13, v0_14, v0_15, v0_16, v0_17, v0_18, v0_19, v0_20, v0_21, v0_22, v0_23, v0_24, v0_25, v0_26, v0_27, v0_28, v0_29, v0_30, v0_31, v0_32, v0_33, v0_34, v0_35, v0_36, .ref a1, v0_38, v0_39, v0_40, v0_41, v0_42, v0_43, v0_44, v0_45, v0_46, v0_47, v0_48, v0_49, v0_50, v0_51, v0_52, v0_53, v0_54, v0_55, v0_56, v0_57, v0_58, v0_59, v0_60, v0_61, .ref a2, .ref a3])), (a1, .inl (cy 0, 16, .inl zI)), (a2, .inl (cy 0, 48, .inl zI)), (a3, .inl (cy 3, 3, .inl zI))] H := hP
      have hD : va_D A [(a0, .inr (9, [v0_0, v0_1, v0_2, v0_3, v0_4, v0_5, v0_6, v0_7, v0_8, v0_9, v0_10, v0_11, v0_12, v0_13, v0_14, v0_15, v0_16, v0_17, v0_18, v0_19, v0_20, v0_21, v0_22, v0_23, v0_24, v0_25, v0_26, v0_27, v0_28, v0_29, v0_30, v0_31, v0_32, v0_33, v0_34, v0_35, v0_36, .ref a1, v0_38, v0_39, v0_40, v0_41, v0_42, v0_43, v0_44, v0_45, v0_46, v0_47, v0_48, v0_49, v0_50, v0_51, v0_52, v0_53, v0_54, v0_55, v0_56, v0_57, v0_58, v0_59, v0_60, v0_61, .ref a2, .ref a3])), (a1, .inl (cy 0, 16, .inl zI)), (a2, .inl (cy 0, 48, .inl zI)), (a3, .inl (cy 3, 3, .inl zI))] := hD
      refine lv_iinc (v := 2) (lv' := [(2, .int 2), (0, .ref a0), (1, .int 0)]) hx hb dX9_image_36 hl (k := 0) rfl (by decide) (by decide) rfl (fun ls hl => ?_)
      refine lv_goto (tgt := 13) hx hb dX9_image_39 (by decide) ?_
      refine lv_iload_n hx hb dX9_image_13 rfl (lv_at hl 0 rfl) ?_
      refine lv_bipush (v := 16) hx hb dX9_image_14 (by decide) ?_
      refine lv_icmp_ge (tgt := 42) hx hb dX9_image_16 (by decide) (fun c => absurd c (by decide)) (fun _ => ?_)
      refine lv_aload_n hx hb dX9_image_19 rfl (lv_at hl 1 rfl) ?_
      refine va_get (D := D) (cl := vwCl) (ci := 9) (v := .ref a2) (C := RX9) (T := TX9) (N := 64) hx hb hts in_X9_image_X9 hown hK hP 0 rfl rfl 62 (by decide) (hts (.fieldLink RX9 125 "EightReasonsModel" "boxAll" "[I") (List.mem_of_getElem? (i := 1) (by decide +kernel))) (fun _ h9 => h9) rfl dX9_image_20 ?_
      refine lv_bipush (v := 16) hx hb dX9_image_23 (by decide) ?_
      refine lv_iload_n hx hb dX9_image_25 rfl (lv_at hl 2 rfl) ?_
      refine lv_imul hx hb dX9_image_26 (tpi (v := 0) (by decide) ?_)
      refine lv_iload_n hx hb dX9_image_27 rfl (lv_at hl 0 rfl) ?_
      refine lv_iadd hx hb dX9_image_28 (tpi (v := 2) (by decide) ?_)
      refine lv_aload_n hx hb dX9_image_29 rfl (lv_at hl 1 rfl) ?_
      refine va_get (D := D) (cl := vwCl) (ci := 9) (v := .ref a1) (C := RX9) (T := TX9) (N := 64) hx hb hts in_X9_image_X9 hown hK hP 0 rfl rfl 37 (by decide) (hts (.fieldLink RX9 76 "EightReasonsModel" "all" "[I") (List.mem_of_getElem? (i := 2) (by decide +kernel))) (fun _ h9 => h9) rfl dX9_image_30 ?_
      refine lv_iload_n hx hb dX9_image_33 rfl (lv_at hl 0 rfl) ?_
      refine va_iald hx hb hK hP 1 0 rfl rfl (vin (by decide)) dX9_image_34 (tpi (v := 0) rfl ?_)
      refine va_iast hx hb hK hP hD hS 2 0 rfl rfl (vin (by decide)) dX9_image_35 (fun H locs hP hD hS => ?_)
      rw [zI_upd] at hP hD
      have hP : va_P D vwCl [(a0, .inr (9, [v0_0, v0_1, v0_2, v0_3, v0_4, v0_5, v0_6, v0_7, v0_8, v0_9, v0_10, v0_11, v0_12, v0_13, v0_14, v0_15, v0_16, v0_17, v0_18, v0_19, v0_20, v0_21, v0_22, v0_23, v0_24, v0_25, v0_26, v0_27, v0_28, v0_29, v0_30, v0_31, v0_32, v0_33, v0_34, v0_35, v0_36, .ref a1, v0_38, v0_39, v0_40, v0_41, v0_42, v0_43, v0_44, v0_45, v0_46, v0_47, v0_48, v0_49, v0_50, v0_51, v0_52, v0_53, v0_54, v0_55, v0_56, v0_57, v0_58, v0_59, v0_60, v0_61, .ref a2, .ref a3])), (a1, .inl (cy 0, 16, .inl zI)), (a2, .inl (cy 0, 48, .inl zI)), (a3, .inl (cy 3, 3, .inl zI))] H := hP
      have hD : va_D A [(a0, .inr (9, [v0_0, v0_1, v0_2, v0_3, v0_4, v0_5, v0_6, v0_7, v0_8, v0_9, v0_10, v0_11, v0_12, v0_13, v0_14, v0_15, v0_16, v0_17, v0_18, v0_19, v0_20, v0_21, v0_22, v0_23, v0_24, v0_25, v0_26, v0_27, v0_28, v0_29, v0_30, v0_31, v0_32, v0_33, v0_34, v0_35, v0_36, .ref a1, v0_38, v0_39, v0_40, v0_41, v0_42, v0_43, v0_44, v0_45, v0_46, v0_47, v0_48, v0_49, v0_50, v0_51, v0_52, v0_53, v0_54, v0_55, v0_56, v0_57, v0_58, v0_59, v0_60, v0_61, .ref a2, .ref a3])), (a1, .inl (cy 0, 16, .inl zI)), (a2, .inl (cy 0, 48, .inl zI)), (a3, .inl (cy 3, 3, .inl zI))] := hD
      refine lv_iinc (v := 3) (lv' := [(2, .int 3), (0, .ref a0), (1, .int 0)]) hx hb dX9_image_36 hl (k := 0) rfl (by decide) (by decide) rfl (fun ls hl => ?_)
      refine lv_goto (tgt := 13) hx hb dX9_image_39 (by decide) ?_
      refine lv_iload_n hx hb dX9_image_13 rfl (lv_at hl 0 rfl) ?_
      refine lv_bipush (v := 16) hx hb dX9_image_14 (by decide) ?_
      refine lv_icmp_ge (tgt := 42) hx hb dX9_image_16 (by decide) (fun c => absurd c (by decide)) (fun _ => ?_)
      refine lv_aload_n hx hb dX9_image_19 rfl (lv_at hl 1 rfl) ?_
      refine va_get (D := D) (cl := vwCl) (ci := 9) (v := .ref a2) (C := RX9) (T := TX9) (N := 64) hx hb hts in_X9_image_X9 hown hK hP 0 rfl rfl 62 (by decide) (hts (.fieldLink RX9 125 "EightReasonsModel" "boxAll" "[I") (List.mem_of_getElem? (i := 1) (by decide +kernel))) (fun _ h9 => h9) rfl dX9_image_20 ?_
      refine lv_bipush (v := 16) hx hb dX9_image_23 (by decide) ?_
      refine lv_iload_n hx hb dX9_image_25 rfl (lv_at hl 2 rfl) ?_
      refine lv_imul hx hb dX9_image_26 (tpi (v := 0) (by decide) ?_)
      refine lv_iload_n hx hb dX9_image_27 rfl (lv_at hl 0 rfl) ?_
      refine lv_iadd hx hb dX9_image_28 (tpi (v := 3) (by decide) ?_)
      refine lv_aload_n hx hb dX9_image_29 rfl (lv_at hl 1 rfl) ?_
      refine va_get (D := D) (cl := vwCl) (ci := 9) (v := .ref a1) (C := RX9) (T := TX9) (N := 64) hx hb hts in_X9_image_X9 hown hK hP 0 rfl rfl 37 (by decide) (hts (.fieldLink RX9 76 "EightReasonsModel" "all" "[I") (List.mem_of_getElem? (i := 2) (by decide +kernel))) (fun _ h9 => h9) rfl dX9_image_30 ?_
      refine lv_iload_n hx hb dX9_image_33 rfl (lv_at hl 0 rfl) ?_
      refine va_iald hx hb hK hP 1 0 rfl rfl (vin (by decide)) dX9_image_34 (tpi (v := 0) rfl ?_)
      refine va_iast hx hb hK hP hD hS 2 0 rfl rfl (vin (by decide)) dX9_image_35 (fun H locs hP hD hS => ?_)
      rw [zI_upd] at hP hD
      have hP : va_P D vwCl [(a0, .inr (9, [v0_0, v0_1, v0_2, v0_3, v0_4, v0_5, v0_6, v0_7, v0_8, v0_9, v0_10, v0_11, v0_12, v0_13, v0_14, v0_15, v0_16, v0_17, v0_18, v0_19, v0_20, v0_21, v0_22, v0_23, v0_24, v0_25, v0_26, v0_27, v0_28, v0_29, v0_30, v0_31, v0_32, v0_33, v0_34, v0_35, v0_36, .ref a1, v0_38, v0_39, v0_40, v0_41, v0_42, v0_43, v0_44, v0_45, v0_46, v0_47, v0_48, v0_49, v0_50, v0_51, v0_52, v0_53, v0_54, v0_55, v0_56, v0_57, v0_58, v0_59, v0_60, v0_61, .ref a2, .ref a3])), (a1, .inl (cy 0, 16, .inl zI)), (a2, .inl (cy 0, 48, .inl zI)), (a3, .inl (cy 3, 3, .inl zI))] H := hP
      have hD : va_D A [(a0, .inr (9, [v0_0, v0_1, v0_2, v0_3, v0_4, v0_5, v0_6, v0_7, v0_8, v0_9, v0_10, v0_11, v0_12, v0_13, v0_14, v0_15, v0_16, v0_17, v0_18, v0_19, v0_20, v0_21, v0_22, v0_23, v0_24, v0_25, v0_26, v0_27, v0_28, v0_29, v0_30, v0_31, v0_32, v0_33, v0_34, v0_35, v0_36, .ref a1, v0_38, v0_39, v0_40, v0_41, v0_42, v0_43, v0_44, v0_45, v0_46, v0_47, v0_48, v0_49, v0_50, v0_51, v0_52, v0_53, v0_54, v0_55, v0_56, v0_57, v0_58, v0_59, v0_60, v0_61, .ref a2, .ref a3])), (a1, .inl (cy 0, 16, .inl zI)), (a2, .inl (cy 0, 48, .inl zI)), (a3, .inl (cy 3, 3, .inl zI))] := hD
      refine lv_iinc (v := 4) (lv' := [(2, .int 4), (0, .ref a0), (1, .int 0)]) hx hb dX9_image_36 hl (k := 0) rfl (by decide) (by decide) rfl (fun ls hl => ?_)
      refine lv_goto (tgt := 13) hx hb dX9_image_39 (by decide) ?_
      refine lv_iload_n hx hb dX9_image_13 rfl (lv_at hl 0 rfl) ?_
      refine lv_bipush (v := 16) hx hb dX9_image_14 (by decide) ?_
      refine lv_icmp_ge (tgt := 42) hx hb dX9_image_16 (by decide) (fun c => absurd c (by decide)) (fun _ => ?_)
      refine lv_aload_n hx hb dX9_image_19 rfl (lv_at hl 1 rfl) ?_
      refine va_get (D := D) (cl := vwCl) (ci := 9) (v := .ref a2) (C := RX9) (T := TX9) (N := 64) hx hb hts in_X9_image_X9 hown hK hP 0 rfl rfl 62 (by decide) (hts (.fieldLink RX9 125 "EightReasonsModel" "boxAll" "[I") (List.mem_of_getElem? (i := 1) (by decide +kernel))) (fun _ h9 => h9) rfl dX9_image_20 ?_
      refine lv_bipush (v := 16) hx hb dX9_image_23 (by decide) ?_
      refine lv_iload_n hx hb dX9_image_25 rfl (lv_at hl 2 rfl) ?_
      refine lv_imul hx hb dX9_image_26 (tpi (v := 0) (by decide) ?_)
      refine lv_iload_n hx hb dX9_image_27 rfl (lv_at hl 0 rfl) ?_
      refine lv_iadd hx hb dX9_image_28 (tpi (v := 4) (by decide) ?_)
      refine lv_aload_n hx hb dX9_image_29 rfl (lv_at hl 1 rfl) ?_
      refine va_get (D := D) (cl := vwCl) (ci := 9) (v := .ref a1) (C := RX9) (T := TX9) (N := 64) hx hb hts in_X9_image_X9 hown hK hP 0 rfl rfl 37 (by decide) (hts (.fieldLink RX9 76 "EightReasonsModel" "all" "[I") (List.mem_of_getElem? (i := 2) (by decide +kernel))) (fun _ h9 => h9) rfl dX9_image_30 ?_
      refine lv_iload_n hx hb dX9_image_33 rfl (lv_at hl 0 rfl) ?_
      refine va_iald hx hb hK hP 1 0 rfl rfl (vin (by decide)) dX9_image_34 (tpi (v := 0) rfl ?_)
      refine va_iast hx hb hK hP hD hS 2 0 rfl rfl (vin (by decide)) dX9_image_35 (fun H locs hP hD hS => ?_)
      rw [zI_upd] at hP hD
      have hP : va_P D vwCl [(a0, .inr (9, [v0_0, v0_1, v0_2, v0_3, v0_4, v0_5, v0_6, v0_7, v0_8, v0_9, v0_10, v0_11, v0_12, v0_13, v0_14, v0_15, v0_16, v0_17, v0_18, v0_19, v0_20, v0_21, v0_22, v0_23, v0_24, v0_25, v0_26, v0_27, v0_28, v0_29, v0_30, v0_31, v0_32, v0_33, v0_34, v0_35, v0_36, .ref a1, v0_38, v0_39, v0_40, v0_41, v0_42, v0_43, v0_44, v0_45, v0_46, v0_47, v0_48, v0_49, v0_50, v0_51, v0_52, v0_53, v0_54, v0_55, v0_56, v0_57, v0_58, v0_59, v0_60, v0_61, .ref a2, .ref a3])), (a1, .inl (cy 0, 16, .inl zI)), (a2, .inl (cy 0, 48, .inl zI)), (a3, .inl (cy 3, 3, .inl zI))] H := hP
      have hD : va_D A [(a0, .inr (9, [v0_0, v0_1, v0_2, v0_3, v0_4, v0_5, v0_6, v0_7, v0_8, v0_9, v0_10, v0_11, v0_12, v0_13, v0_14, v0_15, v0_16, v0_17, v0_18, v0_19, v0_20, v0_21, v0_22, v0_23, v0_24, v0_25, v0_26, v0_27, v0_28, v0_29, v0_30, v0_31, v0_32, v0_33, v0_34, v0_35, v0_36, .ref a1, v0_38, v0_39, v0_40, v0_41, v0_42, v0_43, v0_44, v0_45, v0_46, v0_47, v0_48, v0_49, v0_50, v0_51, v0_52, v0_53, v0_54, v0_55, v0_56, v0_57, v0_58, v0_59, v0_60, v0_61, .ref a2, .ref a3])), (a1, .inl (cy 0, 16, .inl zI)), (a2, .inl (cy 0, 48, .inl zI)), (a3, .inl (cy 3, 3, .inl zI))] := hD
      refine lv_iinc (v := 5) (lv' := [(2, .int 5), (0, .ref a0), (1, .int 0)]) hx hb dX9_image_36 hl (k := 0) rfl (by decide) (by decide) rfl (fun ls hl => ?_)
      refine lv_goto (tgt := 13) hx hb dX9_image_39 (by decide) ?_
      refine lv_iload_n hx hb dX9_image_13 rfl (lv_at hl 0 rfl) ?_
      refine lv_bipush (v := 16) hx hb dX9_image_14 (by decide) ?_
      refine lv_icmp_ge (tgt := 42) hx hb dX9_image_16 (by decide) (fun c => absurd c (by decide)) (fun _ => ?_)
      refine lv_aload_n hx hb dX9_image_19 rfl (lv_at hl 1 rfl) ?_
      refine va_get (D := D) (cl := vwCl) (ci := 9) (v := .ref a2) (C := RX9) (T := TX9) (N := 64) hx hb hts in_X9_image_X9 hown hK hP 0 rfl rfl 62 (by decide) (hts (.fieldLink RX9 125 "EightReasonsModel" "boxAll" "[I") (List.mem_of_getElem? (i := 1) (by decide +kernel))) (fun _ h9 => h9) rfl dX9_image_20 ?_
      refine lv_bipush (v := 16) hx hb dX9_image_23 (by decide) ?_
      refine lv_iload_n hx hb dX9_image_25 rfl (lv_at hl 2 rfl) ?_
      refine lv_imul hx hb dX9_image_26 (tpi (v := 0) (by decide) ?_)
      refine lv_iload_n hx hb dX9_image_27 rfl (lv_at hl 0 rfl) ?_
      refine lv_iadd hx hb dX9_image_28 (tpi (v := 5) (by decide) ?_)
      refine lv_aload_n hx hb dX9_image_29 rfl (lv_at hl 1 rfl) ?_
      refine va_get (D := D) (cl := vwCl) (ci := 9) (v := .ref a1) (C := RX9) (T := TX9) (N := 64) hx hb hts in_X9_image_X9 hown hK hP 0 rfl rfl 37 (by decide) (hts (.fieldLink RX9 76 "EightReasonsModel" "all" "[I") (List.mem_of_getElem? (i := 2) (by decide +kernel))) (fun _ h9 => h9) rfl dX9_image_30 ?_
      refine lv_iload_n hx hb dX9_image_33 rfl (lv_at hl 0 rfl) ?_
      refine va_iald hx hb hK hP 1 0 rfl rfl (vin (by decide)) dX9_image_34 (tpi (v := 0) rfl ?_)
      refine va_iast hx hb hK hP hD hS 2 0 rfl rfl (vin (by decide)) dX9_image_35 (fun H locs hP hD hS => ?_)
      rw [zI_upd] at hP hD
      have hP : va_P D vwCl [(a0, .inr (9, [v0_0, v0_1, v0_2, v0_3, v0_4, v0_5, v0_6, v0_7, v0_8, v0_9, v0_10, v0_11, v0_12, v0_13, v0_14, v0_15, v0_16, v0_17, v0_18, v0_19, v0_20, v0_21, v0_22, v0_23, v0_24, v0_25, v0_26, v0_27, v0_28, v0_29, v0_30, v0_31, v0_32, v0_33, v0_34, v0_35, v0_36, .ref a1, v0_38, v0_39, v0_40, v0_41, v0_42, v0_43, v0_44, v0_45, v0_46, v0_47, v0_48, v0_49, v0_50, v0_51, v0_52, v0_53, v0_54, v0_55, v0_56, v0_57, v0_58, v0_59, v0_60, v0_61, .ref a2, .ref a3])), (a1, .inl (cy 0, 16, .inl zI)), (a2, .inl (cy 0, 48, .inl zI)), (a3, .inl (cy 3, 3, .inl zI))] H := hP
      have hD : va_D A [(a0, .inr (9, [v0_0, v0_1, v0_2, v0_3, v0_4, v0_5, v0_6, v0_7, v0_8, v0_9, v0_10, v0_11, v0_12, v0_13, v0_14, v0_15, v0_16, v0_17, v0_18, v0_19, v0_20, v0_21, v0_22, v0_23, v0_24, v0_25, v0_26, v0_27, v0_28, v0_29, v0_30, v0_31, v0_32, v0_33, v0_34, v0_35, v0_36, .ref a1, v0_38, v0_39, v0_40, v0_41, v0_42, v0_43, v0_44, v0_45, v0_46, v0_47, v0_48, v0_49, v0_50, v0_51, v0_52, v0_53, v0_54, v0_55, v0_56, v0_57, v0_58, v0_59, v0_60, v0_61, .ref a2, .ref a3])), (a1, .inl (cy 0, 16, .inl zI)), (a2, .inl (cy 0, 48, .inl zI)), (a3, .inl (cy 3, 3, .inl zI))] := hD
      refine lv_iinc (v := 6) (lv' := [(2, .int 6), (0, .ref a0), (1, .int 0)]) hx hb dX9_image_36 hl (k := 0) rfl (by decide) (by decide) rfl (fun ls hl => ?_)
      refine lv_goto (tgt := 13) hx hb dX9_image_39 (by decide) ?_
      refine lv_iload_n hx hb dX9_image_13 rfl (lv_at hl 0 rfl) ?_
      refine lv_bipush (v := 16) hx hb dX9_image_14 (by decide) ?_
      refine lv_icmp_ge (tgt := 42) hx hb dX9_image_16 (by decide) (fun c => absurd c (by decide)) (fun _ => ?_)
      refine lv_aload_n hx hb dX9_image_19 rfl (lv_at hl 1 rfl) ?_
      refine va_get (D := D) (cl := vwCl) (ci := 9) (v := .ref a2) (C := RX9) (T := TX9) (N := 64) hx hb hts in_X9_image_X9 hown hK hP 0 rfl rfl 62 (by decide) (hts (.fieldLink RX9 125 "EightReasonsModel" "boxAll" "[I") (List.mem_of_getElem? (i := 1) (by decide +kernel))) (fun _ h9 => h9) rfl dX9_image_20 ?_
      refine lv_bipush (v := 16) hx hb dX9_image_23 (by decide) ?_
      refine lv_iload_n hx hb dX9_image_25 rfl (lv_at hl 2 rfl) ?_
      refine lv_imul hx hb dX9_image_26 (tpi (v := 0) (by decide) ?_)
      refine lv_iload_n hx hb dX9_image_27 rfl (lv_at hl 0 rfl) ?_
      refine lv_iadd hx hb dX9_image_28 (tpi (v := 6) (by decide) ?_)
      refine lv_aload_n hx hb dX9_image_29 rfl (lv_at hl 1 rfl) ?_
      refine va_get (D := D) (cl := vwCl) (ci := 9) (v := .ref a1) (C := RX9) (T := TX9) (N := 64) hx hb hts in_X9_image_X9 hown hK hP 0 rfl rfl 37 (by decide) (hts (.fieldLink RX9 76 "EightReasonsModel" "all" "[I") (List.mem_of_getElem? (i := 2) (by decide +kernel))) (fun _ h9 => h9) rfl dX9_image_30 ?_
      refine lv_iload_n hx hb dX9_image_33 rfl (lv_at hl 0 rfl) ?_
      refine va_iald hx hb hK hP 1 0 rfl rfl (vin (by decide)) dX9_image_34 (tpi (v := 0) rfl ?_)
      refine va_iast hx hb hK hP hD hS 2 0 rfl rfl (vin (by decide)) dX9_image_35 (fun H locs hP hD hS => ?_)
      rw [zI_upd] at hP hD
      have hP : va_P D vwCl [(a0, .inr (9, [v0_0, v0_1, v0_2, v0_3, v0_4, v0_5, v0_6, v0_7, v0_8, v0_9, v0_10, v0_11, v0_12, v0_13, v0_14, v0_15, v0_16, v0_17, v0_18, v0_19, v0_20, v0_21, v0_22, v0_23, v0_24, v0_25, v0_26, v0_27, v0_28, v0_29, v0_30, v0_31, v0_32, v0_33, v0_34, v0_35, v0_36, .ref a1, v0_38, v0_39, v0_40, v0_41, v0_42, v0_43, v0_44, v0_45, v0_46, v0_47, v0_48, v0_49, v0_50, v0_51, v0_52, v0_53, v0_54, v0_55, v0_56, v0_57, v0_58, v0_59, v0_60, v0_61, .ref a2, .ref a3])), (a1, .inl (cy 0, 16, .inl zI)), (a2, .inl (cy 0, 48, .inl zI)), (a3, .inl (cy 3, 3, .inl zI))] H := hP
      have hD : va_D A [(a0, .inr (9, [v0_0, v0_1, v0_2, v0_3, v0_4, v0_5, v0_6, v0_7, v0_8, v0_9, v0_10, v0_11, v0_12, v0_13, v0_14, v0_15, v0_16, v0_17, v0_18, v0_19, v0_20, v0_21, v0_22, v0_23, v0_24, v0_25, v0_26, v0_27, v0_28, v0_29, v0_30, v0_31, v0_32, v0_33, v0_34, v0_35, v0_36, .ref a1, v0_38, v0_39, v0_40, v0_41, v0_42, v0_43, v0_44, v0_45, v0_46, v0_47, v0_48, v0_49, v0_50, v0_51, v0_52, v0_53, v0_54, v0_55, v0_56, v0_57, v0_58, v0_59, v0_60, v0_61, .ref a2, .ref a3])), (a1, .inl (cy 0, 16, .inl zI)), (a2, .inl (cy 0, 48, .inl zI)), (a3, .inl (cy 3, 3, .inl zI))] := hD
      refine lv_iinc (v := 7) (lv' := [(2, .int 7), (0, .ref a0), (1, .int 0)]) hx hb dX9_image_36 hl (k := 0) rfl (by decide) (by decide) rfl (fun ls hl => ?_)
      refine lv_goto (tgt := 13) hx hb dX9_image_39 (by decide) ?_
      refine lv_iload_n hx hb dX9_image_13 rfl (lv_at hl 0 rfl) ?_
      refine lv_bipush (v := 16) hx hb dX9_image_14 (by decide) ?_
      refine lv_icmp_ge (tgt := 42) hx hb dX9_image_16 (by decide) (fun c => absurd c (by decide)) (fun _ => ?_)
      refine lv_aload_n hx hb dX9_image_19 rfl (lv_at hl 1 rfl) ?_
      refine va_get (D := D) (cl := vwCl) (ci := 9) (v := .ref a2) (C := RX9) (T := TX9) (N := 64) hx hb hts in_X9_image_X9 hown hK hP 0 rfl rfl 62 (by decide) (hts (.fieldLink RX9 125 "EightReasonsModel" "boxAll" "[I") (List.mem_of_getElem? (i := 1) (by decide +kernel))) (fun _ h9 => h9) rfl dX9_image_20 ?_
      refine lv_bipush (v := 16) hx hb dX9_image_23 (by decide) ?_
      refine lv_iload_n hx hb dX9_image_25 rfl (lv_at hl 2 rfl) ?_
      refine lv_imul hx hb dX9_image_26 (tpi (v := 0) (by decide) ?_)
      refine lv_iload_n hx hb dX9_image_27 rfl (lv_at hl 0 rfl) ?_
      refine lv_iadd hx hb dX9_image_28 (tpi (v := 7) (by decide) ?_)
      refine lv_aload_n hx hb dX9_image_29 rfl (lv_at hl 1 rfl) ?_
      refine va_get (D := D) (cl := vwCl) (ci := 9) (v := .ref a1) (C := RX9) (T := TX9) (N := 64) hx hb hts in_X9_image_X9 hown hK hP 0 rfl rfl 37 (by decide) (hts (.fieldLink RX9 76 "EightReasonsModel" "all" "[I") (List.mem_of_getElem? (i := 2) (by decide +kernel))) (fun _ h9 => h9) rfl dX9_image_30 ?_
      refine lv_iload_n hx hb dX9_image_33 rfl (lv_at hl 0 rfl) ?_
      refine va_iald hx hb hK hP 1 0 rfl rfl (vin (by decide)) dX9_image_34 (tpi (v := 0) rfl ?_)
      refine va_iast hx hb hK hP hD hS 2 0 rfl rfl (vin (by decide)) dX9_image_35 (fun H locs hP hD hS => ?_)
      rw [zI_upd] at hP hD
      have hP : va_P D vwCl [(a0, .inr (9, [v0_0, v0_1, v0_2, v0_3, v0_4, v0_5, v0_6, v0_7, v0_8, v0_9, v0_10, v0_11, v0_12, v0_13, v0_14, v0_15, v0_16, v0_17, v0_18, v0_19, v0_20, v0_21, v0_22, v0_23, v0_24, v0_25, v0_26, v0_27, v0_28, v0_29, v0_30, v0_31, v0_32, v0_33, v0_34, v0_35, v0_36, .ref a1, v0_38, v0_39, v0_40, v0_41, v0_42, v0_43, v0_44, v0_45, v0_46, v0_47, v0_48, v0_49, v0_50, v0_51, v0_52, v0_53, v0_54, v0_55, v0_56, v0_57, v0_58, v0_59, v0_60, v0_61, .ref a2, .ref a3])), (a1, .inl (cy 0, 16, .inl zI)), (a2, .inl (cy 0, 48, .inl zI)), (a3, .inl (cy 3, 3, .inl zI))] H := hP
      have hD : va_D A [(a0, .inr (9, [v0_0, v0_1, v0_2, v0_3, v0_4, v0_5, v0_6, v0_7, v0_8, v0_9, v0_10, v0_11, v0_12, v0_13, v0_14, v0_15, v0_16, v0_17, v0_18, v0_19, v0_20, v0_21, v0_22, v0_23, v0_24, v0_25, v0_26, v0_27, v0_28, v0_29, v0_30, v0_31, v0_32, v0_33, v0_34, v0_35, v0_36, .ref a1, v0_38, v0_39, v0_40, v0_41, v0_42, v0_43, v0_44, v0_45, v0_46, v0_47, v0_48, v0_49, v0_50, v0_51, v0_52, v0_53, v0_54, v0_55, v0_56, v0_57, v0_58, v0_59, v0_60, v0_61, .ref a2, .ref a3])), (a1, .inl (cy 0, 16, .inl zI)), (a2, .inl (cy 0, 48, .inl zI)), (a3, .inl (cy 3, 3, .inl zI))] := hD
      refine lv_iinc (v := 8) (lv' := [(2, .int 8), (0, .ref a0), (1, .int 0)]) hx hb dX9_image_36 hl (k := 0) rfl (by decide) (by decide) rfl (fun ls hl => ?_)
      refine lv_goto (tgt := 13) hx hb dX9_image_39 (by decide) ?_
      refine lv_iload_n hx hb dX9_image_13 rfl (lv_at hl 0 rfl) ?_
      refine lv_bipush (v := 16) hx hb dX9_image_14 (by decide) ?_
      refine lv_icmp_ge (tgt := 42) hx hb dX9_image_16 (by decide) (fun c => absurd c (by decide)) (fun _ => ?_)
      refine lv_aload_n hx hb dX9_image_19 rfl (lv_at hl 1 rfl) ?_
      refine va_get (D := D) (cl := vwCl) (ci := 9) (v := .ref a2) (C := RX9) (T := TX9) (N := 64) hx hb hts in_X9_image_X9 hown hK hP 0 rfl rfl 62 (by decide) (hts (.fieldLink RX9 125 "EightReasonsModel" "boxAll" "[I") (List.mem_of_getElem? (i := 1) (by decide +kernel))) (fun _ h9 => h9) rfl dX9_image_20 ?_
      refine lv_bipush (v := 16) hx hb dX9_image_23 (by decide) ?_
      refine lv_iload_n hx hb dX9_image_25 rfl (lv_at hl 2 rfl) ?_
      refine lv_imul hx hb dX9_image_26 (tpi (v := 0) (by decide) ?_)
      refine lv_iload_n hx hb dX9_image_27 rfl (lv_at hl 0 rfl) ?_
      refine lv_iadd hx hb dX9_image_28 (tpi (v := 8) (by decide) ?_)
      refine lv_aload_n hx hb dX9_image_29 rfl (lv_at hl 1 rfl) ?_
      refine va_get (D := D) (cl := vwCl) (ci := 9) (v := .ref a1) (C := RX9) (T := TX9) (N := 64) hx hb hts in_X9_image_X9 hown hK hP 0 rfl rfl 37 (by decide) (hts (.fieldLink RX9 76 "EightReasonsModel" "all" "[I") (List.mem_of_getElem? (i := 2) (by decide +kernel))) (fun _ h9 => h9) rfl dX9_image_30 ?_
      refine lv_iload_n hx hb dX9_image_33 rfl (lv_at hl 0 rfl) ?_
      refine va_iald hx hb hK hP 1 0 rfl rfl (vin (by decide)) dX9_image_34 (tpi (v := 0) rfl ?_)
      refine va_iast hx hb hK hP hD hS 2 0 rfl rfl (vin (by decide)) dX9_image_35 (fun H locs hP hD hS => ?_)
      rw [zI_upd] at hP hD
      have hP : va_P D vwCl [(a0, .inr (9, [v0_0, v0_1, v0_2, v0_3, v0_4, v0_5, v0_6, v0_7, v0_8, v0_9, v0_10, v0_11, v0_12, v0_13, v0_14, v0_15, v0_16, v0_17, v0_18, v0_19, v0_20, v0_21, v0_22, v0_23, v0_24, v0_25, v0_26, v0_27, v0_28, v0_29, v0_30, v0_31, v0_32, v0_33, v0_34, v0_35, v0_36, .ref a1, v0_38, v0_39, v0_40, v0_41, v0_42, v0_43, v0_44, v0_45, v0_46, v0_47, v0_48, v0_49, v0_50, v0_51, v0_52, v0_53, v0_54, v0_55, v0_56, v0_57, v0_58, v0_59, v0_60, v0_61, .ref a2, .ref a3])), (a1, .inl (cy 0, 16, .inl zI)), (a2, .inl (cy 0, 48, .inl zI)), (a3, .inl (cy 3, 3, .inl zI))] H := hP
      have hD : va_D A [(a0, .inr (9, [v0_0, v0_1, v0_2, v0_3, v0_4, v0_5, v0_6, v0_7, v0_8, v0_9, v0_10, v0_11, v0_12, v0_13, v0_14, v0_15, v0_16, v0_17, v0_18, v0_19, v0_20, v0_21, v0_22, v0_23, v0_24, v0_25, v0_26, v0_27, v0_28, v0_29, v0_30, v0_31, v0_32, v0_33, v0_34, v0_35, v0_36, .ref a1, v0_38, v0_39, v0_40, v0_41, v0_42, v0_43, v0_44, v0_45, v0_46, v0_47, v0_48, v0_49, v0_50, v0_51, v0_52, v0_53, v0_54, v0_55, v0_56, v0_57, v0_58, v0_59, v0_60, v0_61, .ref a2, .ref a3])), (a1, .inl (cy 0, 16, .inl zI)), (a2, .inl (cy 0, 48, .inl zI)), (a3, .inl (cy 3, 3, .inl zI))] := hD
      refine lv_iinc (v := 9) (lv' := [(2, .int 9), (0, .ref a0), (1, .int 0)]) hx hb dX9_image_36 hl (k := 0) rfl (by decide) (by decide) rfl (fun ls hl => ?_)
      refine lv_goto (tgt := 13) hx hb dX9_image_39 (by decide) ?_
      refine lv_iload_n hx hb dX9_image_13 rfl (lv_at hl 0 rfl) ?_
      refine lv_bipush (v := 16) hx hb dX9_image_14 (by decide) ?_
      refine lv_icmp_ge (tgt := 42) hx hb dX9_image_16 (by decide) (fun c => absurd c (by decide)) (fun _ => ?_)
      refine lv_aload_n hx hb dX9_image_19 rfl (lv_at hl 1 rfl) ?_
      refine va_get (D := D) (cl := vwCl) (ci := 9) (v := .ref a2) (C := RX9) (T := TX9) (N := 64) hx hb hts in_X9_image_X9 hown hK hP 0 rfl rfl 62 (by decide) (hts (.fieldLink RX9 125 "EightReasonsModel" "boxAll" "[I") (List.mem_of_getElem? (i := 1) (by decide +kernel))) (fun _ h9 => h9) rfl dX9_image_20 ?_
      refine lv_bipush (v := 16) hx hb dX9_image_23 (by decide) ?_
      refine lv_iload_n hx hb dX9_image_25 rfl (lv_at hl 2 rfl) ?_
      refine lv_imul hx hb dX9_image_26 (tpi (v := 0) (by decide) ?_)
      refine lv_iload_n hx hb dX9_image_27 rfl (lv_at hl 0 rfl) ?_
      refine lv_iadd hx hb dX9_image_28 (tpi (v := 9) (by decide) ?_)
      refine lv_aload_n hx hb dX9_image_29 rfl (lv_at hl 1 rfl) ?_
      refine va_get (D := D) (cl := vwCl) (ci := 9) (v := .ref a1) (C := RX9) (T := TX9) (N := 64) hx hb hts in_X9_image_X9 hown hK hP 0 rfl rfl 37 (by decide) (hts (.fieldLink RX9 76 "EightReasonsModel" "all" "[I") (List.mem_of_getElem? (i := 2) (by decide +kernel))) (fun _ h9 => h9) rfl dX9_image_30 ?_
      refine lv_iload_n hx hb dX9_image_33 rfl (lv_at hl 0 rfl) ?_
      refine va_iald hx hb hK hP 1 0 rfl rfl (vin (by decide)) dX9_image_34 (tpi (v := 0) rfl ?_)
      refine va_iast hx hb hK hP hD hS 2 0 rfl rfl (vin (by decide)) dX9_image_35 (fun H locs hP hD hS => ?_)
      rw [zI_upd] at hP hD
      have hP : va_P D vwCl [(a0, .inr (9, [v0_0, v0_1, v0_2, v0_3, v0_4, v0_5, v0_6, v0_7, v0_8, v0_9, v0_10, v0_11, v0_12, v0_13, v0_14, v0_15, v0_16, v0_17, v0_18, v0_19, v0_20, v0_21, v0_22, v0_23, v0_24, v0_25, v0_26, v0_27, v0_28, v0_29, v0_30, v0_31, v0_32, v0_33, v0_34, v0_35, v0_36, .ref a1, v0_38, v0_39, v0_40, v0_41, v0_42, v0_43, v0_44, v0_45, v0_46, v0_47, v0_48, v0_49, v0_50, v0_51, v0_52, v0_53, v0_54, v0_55, v0_56, v0_57, v0_58, v0_59, v0_60, v0_61, .ref a2, .ref a3])), (a1, .inl (cy 0, 16, .inl zI)), (a2, .inl (cy 0, 48, .inl zI)), (a3, .inl (cy 3, 3, .inl zI))] H := hP
      have hD : va_D A [(a0, .inr (9, [v0_0, v0_1, v0_2, v0_3, v0_4, v0_5, v0_6, v0_7, v0_8, v0_9, v0_10, v0_11, v0_12, v0_13, v0_14, v0_15, v0_16, v0_17, v0_18, v0_19, v0_20, v0_21, v0_22, v0_23, v0_24, v0_25, v0_26, v0_27, v0_28, v0_29, v0_30, v0_31, v0_32, v0_33, v0_34, v0_35, v0_36, .ref a1, v0_38, v0_39, v0_40, v0_41, v0_42, v0_43, v0_44, v0_45, v0_46, v0_47, v0_48, v0_49, v0_50, v0_51, v0_52, v0_53, v0_54, v0_55, v0_56, v0_57, v0_58, v0_59, v0_60, v0_61, .ref a2, .ref a3])), (a1, .inl (cy 0, 16, .inl zI)), (a2, .inl (cy 0, 48, .inl zI)), (a3, .inl (cy 3, 3, .inl zI))] := hD
      refine lv_iinc (v := 10) (lv' := [(2, .int 10), (0, .ref a0), (1, .int 0)]) hx hb dX9_image_36 hl (k := 0) rfl (by decide) (by decide) rfl (fun ls hl => ?_)
      refine lv_goto (tgt := 13) hx hb dX9_image_39 (by decide) ?_
      refine lv_iload_n hx hb dX9_image_13 rfl (lv_at hl 0 rfl) ?_
      refine lv_bipush (v := 16) hx hb dX9_image_14 (by decide) ?_
      refine lv_icmp_ge (tgt := 42) hx hb dX9_image_16 (by decide) (fun c => absurd c (by decide)) (fun _ => ?_)
      refine lv_aload_n hx hb dX9_image_19 rfl (lv_at hl 1 rfl) ?_
      refine va_get (D := D) (cl := vwCl) (ci := 9) (v := .ref a2) (C := RX9) (T := TX9) (N := 64) hx hb hts in_X9_image_X9 hown hK hP 0 rfl rfl 62 (by decide) (hts (.fieldLink RX9 125 "EightReasonsModel" "boxAll" "[I") (List.mem_of_getElem? (i := 1) (by decide +kernel))) (fun _ h9 => h9) rfl dX9_image_20 ?_
      refine lv_bipush (v := 16) hx hb dX9_image_23 (by decide) ?_
      refine lv_iload_n hx hb dX9_image_25 rfl (lv_at hl 2 rfl) ?_
      refine lv_imul hx hb dX9_image_26 (tpi (v := 0) (by decide) ?_)
      refine lv_iload_n hx hb dX9_image_27 rfl (lv_at hl 0 rfl) ?_
      refine lv_iadd hx hb dX9_image_28 (tpi (v := 10) (by decide) ?_)
      refine lv_aload_n hx hb dX9_image_29 rfl (lv_at hl 1 rfl) ?_
      refine va_get (D := D) (cl := vwCl) (ci := 9) (v := .ref a1) (C := RX9) (T := TX9) (N := 64) hx hb hts in_X9_image_X9 hown hK hP 0 rfl rfl 37 (by decide) (hts (.fieldLink RX9 76 "EightReasonsModel" "all" "[I") (List.mem_of_getElem? (i := 2) (by decide +kernel))) (fun _ h9 => h9) rfl dX9_image_30 ?_
      refine lv_iload_n hx hb dX9_image_33 rfl (lv_at hl 0 rfl) ?_
      refine va_iald hx hb hK hP 1 0 rfl rfl (vin (by decide)) dX9_image_34 (tpi (v := 0) rfl ?_)
      refine va_iast hx hb hK hP hD hS 2 0 rfl rfl (vin (by decide)) dX9_image_35 (fun H locs hP hD hS => ?_)
      rw [zI_upd] at hP hD
      have hP : va_P D vwCl [(a0, .inr (9, [v0_0, v0_1, v0_2, v0_3, v0_4, v0_5, v0_6, v0_7, v0_8, v0_9, v0_10, v0_11, v0_12, v0_13, v0_14, v0_15, v0_16, v0_17, v0_18, v0_19, v0_20, v0_21, v0_22, v0_23, v0_24, v0_25, v0_26, v0_27, v0_28, v0_29, v0_30, v0_31, v0_32, v0_33, v0_34, v0_35, v0_36, .ref a1, v0_38, v0_39, v0_40, v0_41, v0_42, v0_43, v0_44, v0_45, v0_46, v0_47, v0_48, v0_49, v0_50, v0_51, v0_52, v0_53, v0_54, v0_55, v0_56, v0_57, v0_58, v0_59, v0_60, v0_61, .ref a2, .ref a3])), (a1, .inl (cy 0, 16, .inl zI)), (a2, .inl (cy 0, 48, .inl zI)), (a3, .inl (cy 3, 3, .inl zI))] H := hP
      have hD : va_D A [(a0, .inr (9, [v0_0, v0_1, v0_2, v0_3, v0_4, v0_5, v0_6, v0_7, v0_8, v0_9, v0_10, v0_11, v0_12, v0_13, v0_14, v0_15, v0_16, v0_17, v0_18, v0_19, v0_20, v0_21, v0_22, v0_23, v0_24, v0_25, v0_26, v0_27, v0_28, v0_29, v0_30, v0_31, v0_32, v0_33, v0_34, v0_35, v0_36, .ref a1, v0_38, v0_39, v0_40, v0_41, v0_42, v0_43, v0_44, v0_45, v0_46, v0_47, v0_48, v0_49, v0_50, v0_51, v0_52, v0_53, v0_54, v0_55, v0_56, v0_57, v0_58, v0_59, v0_60, v0_61, .ref a2, .ref a3])), (a1, .inl (cy 0, 16, .inl zI)), (a2, .inl (cy 0, 48, .inl zI)), (a3, .inl (cy 3, 3, .inl zI))] := hD
      refine lv_iinc (v := 11) (lv' := [(2, .int 11), (0, .ref a0), (1, .int 0)]) hx hb dX9_image_36 hl (k := 0) rfl (by decide) (by decide) rfl (fun ls hl => ?_)
      refine lv_goto (tgt := 13) hx hb dX9_image_39 (by decide) ?_
      refine lv_iload_n hx hb dX9_image_13 rfl (lv_at hl 0 rfl) ?_
      refine lv_bipush (v := 16) hx hb dX9_image_14 (by decide) ?_
      refine lv_icmp_ge (tgt := 42) hx hb dX9_image_16 (by decide) (fun c => absurd c (by decide)) (fun _ => ?_)
      refine lv_aload_n hx hb dX9_image_19 rfl (lv_at hl 1 rfl) ?_
      refine va_get (D := D) (cl := vwCl) (ci := 9) (v := .ref a2) (C := RX9) (T := TX9) (N := 64) hx hb hts in_X9_image_X9 hown hK hP 0 rfl rfl 62 (by decide) (hts (.fieldLink RX9 125 "EightReasonsModel" "boxAll" "[I") (List.mem_of_getElem? (i := 1) (by decide +kernel))) (fun _ h9 => h9) rfl dX9_image_20 ?_
      refine lv_bipush (v := 16) hx hb dX9_image_23 (by decide) ?_
      refine lv_iload_n hx hb dX9_image_25 rfl (lv_at hl 2 rfl) ?_
      refine lv_imul hx hb dX9_image_26 (tpi (v := 0) (by decide) ?_)
      refine lv_iload_n hx hb dX9_image_27 rfl (lv_at hl 0 rfl) ?_
      refine lv_iadd hx hb dX9_image_28 (tpi (v := 11) (by decide) ?_)
      refine lv_aload_n hx hb dX9_image_29 rfl (lv_at hl 1 rfl) ?_
      refine va_get (D := D) (cl := vwCl) (ci := 9) (v := .ref a1) (C := RX9) (T := TX9) (N := 64) hx hb hts in_X9_image_X9 hown hK hP 0 rfl rfl 37 (by decide) (hts (.fieldLink RX9 76 "EightReasonsModel" "all" "[I") (List.mem_of_getElem? (i := 2) (by decide +kernel))) (fun _ h9 => h9) rfl dX9_image_30 ?_
      refine lv_iload_n hx hb dX9_image_33 rfl (lv_at hl 0 rfl) ?_
      refine va_iald hx hb hK hP 1 0 rfl rfl (vin (by decide)) dX9_image_34 (tpi (v := 0) rfl ?_)
      refine va_iast hx hb hK hP hD hS 2 0 rfl rfl (vin (by decide)) dX9_image_35 (fun H locs hP hD hS => ?_)
      rw [zI_upd] at hP hD
      have hP : va_P D vwCl [(a0, .inr (9, [v0_0, v0_1, v0_2, v0_3, v0_4, v0_5, v0_6, v0_7, v0_8, v0_9, v0_10, v0_11, v0_12, v0_13, v0_14, v0_15, v0_16, v0_17, v0_18, v0_19, v0_20, v0_21, v0_22, v0_23, v0_24, v0_25, v0_26, v0_27, v0_28, v0_29, v0_30, v0_31, v0_32, v0_33, v0_34, v0_35, v0_36, .ref a1, v0_38, v0_39, v0_40, v0_41, v0_42, v0_43, v0_44, v0_45, v0_46, v0_47, v0_48, v0_49, v0_50, v0_51, v0_52, v0_53, v0_54, v0_55, v0_56, v0_57, v0_58, v0_59, v0_60, v0_61, .ref a2, .ref a3])), (a1, .inl (cy 0, 16, .inl zI)), (a2, .inl (cy 0, 48, .inl zI)), (a3, .inl (cy 3, 3, .inl zI))] H := hP
      have hD : va_D A [(a0, .inr (9, [v0_0, v0_1, v0_2, v0_3, v0_4, v0_5, v0_6, v0_7, v0_8, v0_9, v0_10, v0_11, v0_12, v0_13, v0_14, v0_15, v0_16, v0_17, v0_18, v0_19, v0_20, v0_21, v0_22, v0_23, v0_24, v0_25, v0_26, v0_27, v0_28, v0_29, v0_30, v0_31, v0_32, v0_33, v0_34, v0_35, v0_36, .ref a1, v0_38, v0_39, v0_40, v0_41, v0_42, v0_43, v0_44, v0_45, v0_46, v0_47, v0_48, v0_49, v0_50, v0_51, v0_52, v0_53, v0_54, v0_55, v0_56, v0_57, v0_58, v0_59, v0_60, v0_61, .ref a2, .ref a3])), (a1, .inl (cy 0, 16, .inl zI)), (a2, .inl (cy 0, 48, .inl zI)), (a3, .inl (cy 3, 3, .inl zI))] := hD
      refine lv_iinc (v := 12) (lv' := [(2, .int 12), (0, .ref a0), (1, .int 0)]) hx hb dX9_image_36 hl (k := 0) rfl (by decide) (by decide) rfl (fun ls hl => ?_)
      refine lv_goto (tgt := 13) hx hb dX9_image_39 (by decide) ?_
      refine lv_iload_n hx hb dX9_image_13 rfl (lv_at hl 0 rfl) ?_
      refine lv_bipush (v := 16) hx hb dX9_image_14 (by decide) ?_
      refine lv_icmp_ge (tgt := 42) hx hb dX9_image_16 (by decide) (fun c => absurd c (by decide)) (fun _ => ?_)
      refine lv_aload_n hx hb dX9_image_19 rfl (lv_at hl 1 rfl) ?_
      refine va_get (D := D) (cl := vwCl) (ci := 9) (v := .ref a2) (C := RX9) (T := TX9) (N := 64) hx hb hts in_X9_image_X9 hown hK hP 0 rfl rfl 62 (by decide) (hts (.fieldLink RX9 125 "EightReasonsModel" "boxAll" "[I") (List.mem_of_getElem? (i := 1) (by decide +kernel))) (fun _ h9 => h9) rfl dX9_image_20 ?_
      refine lv_bipush (v := 16) hx hb dX9_image_23 (by decide) ?_
      refine lv_iload_n hx hb dX9_image_25 rfl (lv_at hl 2 rfl) ?_
      refine lv_imul hx hb dX9_image_26 (tpi (v := 0) (by decide) ?_)
      refine lv_iload_n hx hb dX9_image_27 rfl (lv_at hl 0 rfl) ?_
      refine lv_iadd hx hb dX9_image_28 (tpi (v := 12) (by decide) ?_)
      refine lv_aload_n hx hb dX9_image_29 rfl (lv_at hl 1 rfl) ?_
      refine va_get (D := D) (cl := vwCl) (ci := 9) (v := .ref a1) (C := RX9) (T := TX9) (N := 64) hx hb hts in_X9_image_X9 hown hK hP 0 rfl rfl 37 (by decide) (hts (.fieldLink RX9 76 "EightReasonsModel" "all" "[I") (List.mem_of_getElem? (i := 2) (by decide +kernel))) (fun _ h9 => h9) rfl dX9_image_30 ?_
      refine lv_iload_n hx hb dX9_image_33 rfl (lv_at hl 0 rfl) ?_
      refine va_iald hx hb hK hP 1 0 rfl rfl (vin (by decide)) dX9_image_34 (tpi (v := 0) rfl ?_)
      refine va_iast hx hb hK hP hD hS 2 0 rfl rfl (vin (by decide)) dX9_image_35 (fun H locs hP hD hS => ?_)
      rw [zI_upd] at hP hD
      have hP : va_P D vwCl [(a0, .inr (9, [v0_0, v0_1, v0_2, v0_3, v0_4, v0_5, v0_6, v0_7, v0_8, v0_9, v0_10, v0_11, v0_12, v0_13, v0_14, v0_15, v0_16, v0_17, v0_18, v0_19, v0_20, v0_21, v0_22, v0_23, v0_24, v0_25, v0_26, v0_27, v0_28, v0_29, v0_30, v0_31, v0_32, v0_33, v0_34, v0_35, v0_36, .ref a1, v0_38, v0_39, v0_40, v0_41, v0_42, v0_43, v0_44, v0_45, v0_46, v0_47, v0_48, v0_49, v0_50, v0_51, v0_52, v0_53, v0_54, v0_55, v0_56, v0_57, v0_58, v0_59, v0_60, v0_61, .ref a2, .ref a3])), (a1, .inl (cy 0, 16, .inl zI)), (a2, .inl (cy 0, 48, .inl zI)), (a3, .inl (cy 3, 3, .inl zI))] H := hP
      have hD : va_D A [(a0, .inr (9, [v0_0, v0_1, v0_2, v0_3, v0_4, v0_5, v0_6, v0_7, v0_8, v0_9, v0_10, v0_11, v0_12, v0_13, v0_14, v0_15, v0_16, v0_17, v0_18, v0_19, v0_20, v0_21, v0_22, v0_23, v0_24, v0_25, v0_26, v0_27, v0_28, v0_29, v0_30, v0_31, v0_32, v0_33, v0_34, v0_35, v0_36, .ref a1, v0_38, v0_39, v0_40, v0_41, v0_42, v0_43, v0_44, v0_45, v0_46, v0_47, v0_48, v0_49, v0_50, v0_51, v0_52, v0_53, v0_54, v0_55, v0_56, v0_57, v0_58, v0_59, v0_60, v0_61, .ref a2, .ref a3])), (a1, .inl (cy 0, 16, .inl zI)), (a2, .inl (cy 0, 48, .inl zI)), (a3, .inl (cy 3, 3, .inl zI))] := hD
      refine lv_iinc (v := 13) (lv' := [(2, .int 13), (0, .ref a0), (1, .int 0)]) hx hb dX9_image_36 hl (k := 0) rfl (by decide) (by decide) rfl (fun ls hl => ?_)
      refine lv_goto (tgt := 13) hx hb dX9_image_39 (by decide) ?_
      refine lv_iload_n hx hb dX9_image_13 rfl (lv_at hl 0 rfl) ?_
      refine lv_bipush (v := 16) hx hb dX9_image_14 (by decide) ?_
      refine lv_icmp_ge (tgt := 42) hx hb dX9_image_16 (by decide) (fun c => absurd c (by decide)) (fun _ => ?_)
      refine lv_aload_n hx hb dX9_image_19 rfl (lv_at hl 1 rfl) ?_
      refine va_get (D := D) (cl := vwCl) (ci := 9) (v := .ref a2) (C := RX9) (T := TX9) (N := 64) hx hb hts in_X9_image_X9 hown hK hP 0 rfl rfl 62 (by decide) (hts (.fieldLink RX9 125 "EightReasonsModel" "boxAll" "[I") (List.mem_of_getElem? (i := 1) (by decide +kernel))) (fun _ h9 => h9) rfl dX9_image_20 ?_
      refine lv_bipush (v := 16) hx hb dX9_image_23 (by decide) ?_
      refine lv_iload_n hx hb dX9_image_25 rfl (lv_at hl 2 rfl) ?_
      refine lv_imul hx hb dX9_image_26 (tpi (v := 0) (by decide) ?_)
      refine lv_iload_n hx hb dX9_image_27 rfl (lv_at hl 0 rfl) ?_
      refine lv_iadd hx hb dX9_image_28 (tpi (v := 13) (by decide) ?_)
      refine lv_aload_n hx hb dX9_image_29 rfl (lv_at hl 1 rfl) ?_
      refine va_get (D := D) (cl := vwCl) (ci := 9) (v := .ref a1) (C := RX9) (T := TX9) (N := 64) hx hb hts in_X9_image_X9 hown hK hP 0 rfl rfl 37 (by decide) (hts (.fieldLink RX9 76 "EightReasonsModel" "all" "[I") (List.mem_of_getElem? (i := 2) (by decide +kernel))) (fun _ h9 => h9) rfl dX9_image_30 ?_
      refine lv_iload_n hx hb dX9_image_33 rfl (lv_at hl 0 rfl) ?_
      refine va_iald hx hb hK hP 1 0 rfl rfl (vin (by decide)) dX9_image_34 (tpi (v := 0) rfl ?_)
      refine va_iast hx hb hK hP hD hS 2 0 rfl rfl (vin (by decide)) dX9_image_35 (fun H locs hP hD hS => ?_)
      rw [zI_upd] at hP hD
      have hP : va_P D vwCl [(a0, .inr (9, [v0_0, v0_1, v0_2, v0_3, v0_4, v0_5, v0_6, v0_7, v0_8, v0_9, v0_10, v0_11, v0_12, v0_13, v0_14, v0_15, v0_16, v0_17, v0_18, v0_19, v0_20, v0_21, v0_22, v0_23, v0_24, v0_25, v0_26, v0_27, v0_28, v0_29, v0_30, v0_31, v0_32, v0_33, v0_34, v0_35, v0_36, .ref a1, v0_38, v0_39, v0_40, v0_41, v0_42, v0_43, v0_44, v0_45, v0_46, v0_47, v0_48, v0_49, v0_50, v0_51, v0_52, v0_53, v0_54, v0_55, v0_56, v0_57, v0_58, v0_59, v0_60, v0_61, .ref a2, .ref a3])), (a1, .inl (cy 0, 16, .inl zI)), (a2, .inl (cy 0, 48, .inl zI)), (a3, .inl (cy 3, 3, .inl zI))] H := hP
      have hD : va_D A [(a0, .inr (9, [v0_0, v0_1, v0_2, v0_3, v0_4, v0_5, v0_6, v0_7, v0_8, v0_9, v0_10, v0_11, v0_12, v0_13, v0_14, v0_15, v0_16, v0_17, v0_18, v0_19, v0_20, v0_21, v0_22, v0_23, v0_24, v0_25, v0_26, v0_27, v0_28, v0_29, v0_30, v0_31, v0_32, v0_33, v0_34, v0_35, v0_36, .ref a1, v0_38, v0_39, v0_40, v0_41, v0_42, v0_43, v0_44, v0_45, v0_46, v0_47, v0_48, v0_49, v0_50, v0_51, v0_52, v0_53, v0_54, v0_55, v0_56, v0_57, v0_58, v0_59, v0_60, v0_61, .ref a2, .ref a3])), (a1, .inl (cy 0, 16, .inl zI)), (a2, .inl (cy 0, 48, .inl zI)), (a3, .inl (cy 3, 3, .inl zI))] := hD
      refine lv_iinc (v := 14) (lv' := [(2, .int 14), (0, .ref a0), (1, .int 0)]) hx hb dX9_image_36 hl (k := 0) rfl (by decide) (by decide) rfl (fun ls hl => ?_)
      refine lv_goto (tgt := 13) hx hb dX9_image_39 (by decide) ?_
      refine lv_iload_n hx hb dX9_image_13 rfl (lv_at hl 0 rfl) ?_
      refine lv_bipush (v := 16) hx hb dX9_image_14 (by decide) ?_
      refine lv_icmp_ge (tgt := 42) hx hb dX9_image_16 (by decide) (fun c => absurd c (by decide)) (fun _ => ?_)
      refine lv_aload_n hx hb dX9_image_19 rfl (lv_at hl 1 rfl) ?_
      refine va_get (D := D) (cl := vwCl) (ci := 9) (v := .ref a2) (C := RX9) (T := TX9) (N := 64) hx hb hts in_X9_image_X9 hown hK hP 0 rfl rfl 62 (by decide) (hts (.fieldLink RX9 125 "EightReasonsModel" "boxAll" "[I") (List.mem_of_getElem? (i := 1) (by decide +kernel))) (fun _ h9 => h9) rfl dX9_image_20 ?_
      refine lv_bipush (v := 16) hx hb dX9_image_23 (by decide) ?_
      refine lv_iload_n hx hb dX9_image_25 rfl (lv_at hl 2 rfl) ?_
      refine lv_imul hx hb dX9_image_26 (tpi (v := 0) (by decide) ?_)
      refine lv_iload_n hx hb dX9_image_27 rfl (lv_at hl 0 rfl) ?_
      refine lv_iadd hx hb dX9_image_28 (tpi (v := 14) (by decide) ?_)
      refine lv_aload_n hx hb dX9_image_29 rfl (lv_at hl 1 rfl) ?_
      refine va_get (D := D) (cl := vwCl) (ci := 9) (v := .ref a1) (C := RX9) (T := TX9) (N := 64) hx hb hts in_X9_image_X9 hown hK hP 0 rfl rfl 37 (by decide) (hts (.fieldLink RX9 76 "EightReasonsModel" "all" "[I") (List.mem_of_getElem? (i := 2) (by decide +kernel))) (fun _ h9 => h9) rfl dX9_image_30 ?_
      refine lv_iload_n hx hb dX9_image_33 rfl (lv_at hl 0 rfl) ?_
      refine va_iald hx hb hK hP 1 0 rfl rfl (vin (by decide)) dX9_image_34 (tpi (v := 0) rfl ?_)
      refine va_iast hx hb hK hP hD hS 2 0 rfl rfl (vin (by decide)) dX9_image_35 (fun H locs hP hD hS => ?_)
      rw [zI_upd] at hP hD
      have hP : va_P D vwCl [(a0, .inr (9, [v0_0, v0_1, v0_2, v0_3, v0_4, v0_5, v0_6, v0_7, v0_8, v0_9, v0_10, v0_11, v0_12, v0_13, v0_14, v0_15, v0_16, v0_17, v0_18, v0_19, v0_20, v0_21, v0_22, v0_23, v0_24, v0_25, v0_26, v0_27, v0_28, v0_29, v0_30, v0_31, v0_32, v0_33, v0_34, v0_35, v0_36, .ref a1, v0_38, v0_39, v0_40, v0_41, v0_42, v0_43, v0_44, v0_45, v0_46, v0_47, v0_48, v0_49, v0_50, v0_51, v0_52, v0_53, v0_54, v0_55, v0_56, v0_57, v0_58, v0_59, v0_60, v0_61, .ref a2, .ref a3])), (a1, .inl (cy 0, 16, .inl zI)), (a2, .inl (cy 0, 48, .inl zI)), (a3, .inl (cy 3, 3, .inl zI))] H := hP
      have hD : va_D A [(a0, .inr (9, [v0_0, v0_1, v0_2, v0_3, v0_4, v0_5, v0_6, v0_7, v0_8, v0_9, v0_10, v0_11, v0_12, v0_13, v0_14, v0_15, v0_16, v0_17, v0_18, v0_19, v0_20, v0_21, v0_22, v0_23, v0_24, v0_25, v0_26, v0_27, v0_28, v0_29, v0_30, v0_31, v0_32, v0_33, v0_34, v0_35, v0_36, .ref a1, v0_38, v0_39, v0_40, v0_41, v0_42, v0_43, v0_44, v0_45, v0_46, v0_47, v0_48, v0_49, v0_50, v0_51, v0_52, v0_53, v0_54, v0_55, v0_56, v0_57, v0_58, v0_59, v0_60, v0_61, .ref a2, .ref a3])), (a1, .inl (cy 0, 16, .inl zI)), (a2, .inl (cy 0, 48, .inl zI)), (a3, .inl (cy 3, 3, .inl zI))] := hD
      refine lv_iinc (v := 15) (lv' := [(2, .int 15), (0, .ref a0), (1, .int 0)]) hx hb dX9_image_36 hl (k := 0) rfl (by decide) (by decide) rfl (fun ls hl => ?_)
      refine lv_goto (tgt := 13) hx hb dX9_image_39 (by decide) ?_
      refine lv_iload_n hx hb dX9_image_13 rfl (lv_at hl 0 rfl) ?_
      refine lv_bipush (v := 16) hx hb dX9_image_14 (by decide) ?_
      refine lv_icmp_ge (tgt := 42) hx hb dX9_image_16 (by decide) (fun c => absurd c (by decide)) (fun _ => ?_)
      refine lv_aload_n hx hb dX9_image_19 rfl (lv_at hl 1 rfl) ?_
      refine va_get (D := D) (cl := vwCl) (ci := 9) (v := .ref a2) (C := RX9) (T := TX9) (N := 64) hx hb hts in_X9_image_X9 hown hK hP 0 rfl rfl 62 (by decide) (hts (.fieldLink RX9 125 "EightReasonsModel" "boxAll" "[I") (List.mem_of_getElem? (i := 1) (by decide +kernel))) (fun _ h9 => h9) rfl dX9_image_20 ?_
      refine lv_bipush (v := 16) hx hb dX9_image_23 (by decide) ?_
      refine lv_iload_n hx hb dX9_image_25 rfl (lv_at hl 2 rfl) ?_
      refine lv_imul hx hb dX9_image_26 (tpi (v := 0) (by decide) ?_)
      refine lv_iload_n hx hb dX9_image_27 rfl (lv_at hl 0 rfl) ?_
      refine lv_iadd hx hb dX9_image_28 (tpi (v := 15) (by decide) ?_)
      refine lv_aload_n hx hb dX9_image_29 rfl (lv_at hl 1 rfl) ?_
      refine va_get (D := D) (cl := vwCl) (ci := 9) (v := .ref a1) (C := RX9) (T := TX9) (N := 64) hx hb hts in_X9_image_X9 hown hK hP 0 rfl rfl 37 (by decide) (hts (.fieldLink RX9 76 "EightReasonsModel" "all" "[I") (List.mem_of_getElem? (i := 2) (by decide +kernel))) (fun _ h9 => h9) rfl dX9_image_30 ?_
      refine lv_iload_n hx hb dX9_image_33 rfl (lv_at hl 0 rfl) ?_
      refine va_iald hx hb hK hP 1 0 rfl rfl (vin (by decide)) dX9_image_34 (tpi (v := 0) rfl ?_)
      refine va_iast hx hb hK hP hD hS 2 0 rfl rfl (vin (by decide)) dX9_image_35 (fun H locs hP hD hS => ?_)
      rw [zI_upd] at hP hD
      have hP : va_P D vwCl [(a0, .inr (9, [v0_0, v0_1, v0_2, v0_3, v0_4, v0_5, v0_6, v0_7, v0_8, v0_9, v0_10, v0_11, v0_12, v0_13, v0_14, v0_15, v0_16, v0_17, v0_18, v0_19, v0_20, v0_21, v0_22, v0_23, v0_24, v0_25, v0_26, v0_27, v0_28, v0_29, v0_30, v0_31, v0_32, v0_33, v0_34, v0_35, v0_36, .ref a1, v0_38, v0_39, v0_40, v0_41, v0_42, v0_43, v0_44, v0_45, v0_46, v0_47, v0_48, v0_49, v0_50, v0_51, v0_52, v0_53, v0_54, v0_55, v0_56, v0_57, v0_58, v0_59, v0_60, v0_61, .ref a2, .ref a3])), (a1, .inl (cy 0, 16, .inl zI)), (a2, .inl (cy 0, 48, .inl zI)), (a3, .inl (cy 3, 3, .inl zI))] H := hP
      have hD : va_D A [(a0, .inr (9, [v0_0, v0_1, v0_2, v0_3, v0_4, v0_5, v0_6, v0_7, v0_8, v0_9, v0_10, v0_11, v0_12, v0_13, v0_14, v0_15, v0_16, v0_17, v0_18, v0_19, v0_20, v0_21, v0_22, v0_23, v0_24, v0_25, v0_26, v0_27, v0_28, v0_29, v0_30, v0_31, v0_32, v0_33, v0_34, v0_35, v0_36, .ref a1, v0_38, v0_39, v0_40, v0_41, v0_42, v0_43, v0_44, v0_45, v0_46, v0_47, v0_48, v0_49, v0_50, v0_51, v0_52, v0_53, v0_54, v0_55, v0_56, v0_57, v0_58, v0_59, v0_60, v0_61, .ref a2, .ref a3])), (a1, .inl (cy 0, 16, .inl zI)), (a2, .inl (cy 0, 48, .inl zI)), (a3, .inl (cy 3, 3, .inl zI))] := hD
      refine lv_iinc (v := 16) (lv' := [(2, .int 16), (0, .ref a0), (1, .int 0)]) hx hb dX9_image_36 hl (k := 0) rfl (by decide) (by decide) rfl (fun ls hl => ?_)
      refine lv_goto (tgt := 13) hx hb dX9_image_39 (by decide) ?_
      refine lv_iload_n hx hb dX9_image_13 rfl (lv_at hl 0 rfl) ?_
      refine lv_bipush (v := 16) hx hb dX9_image_14 (by decide) ?_
      refine lv_icmp_ge (tgt := 42) hx hb dX9_image_16 (by decide) (fun _ => ?_) (fun c => absurd (by decide) c)
      refine lv_aload_n hx hb dX9_image_42 rfl (lv_at hl 1 rfl) ?_
      refine va_get (D := D) (cl := vwCl) (ci := 9) (v := .ref a3) (C := RX9) (T := TX9) (N := 64) hx hb hts in_X9_image_X9 hown hK hP 0 rfl rfl 63 (by decide) (hts (.fieldLink RX9 128 "EightReasonsModel" "isBoxed" "[Z") (List.mem_of_getElem? (i := 3) (by decide +kernel))) (fun _ h9 => h9) rfl dX9_image_43 ?_
      refine lv_iload_n hx hb dX9_image_46 rfl (lv_at hl 2 rfl) ?_
      refine lv_iconst (v := 1) hx hb dX9_image_47 (by decide) ?_
      refine va_zast hx hb hK hP hD hS 3 3 rfl rfl (vin (by decide)) dX9_image_48 (fun H locs hP hD hS => ?_)
      generalize hhg4 : upd zI (Int32.toNatClampNeg 0) (vp_nar .boolean 1) = g4 at hP hD
      have fg4_1 : g4 1 = 0 := by rw [← hhg4]; exact (pk_un (by decide)).trans (rfl : zI 1 = 0)
      have fg4_2 : g4 2 = 0 := by rw [← hhg4]; exact (pk_un (by decide)).trans (rfl : zI 2 = 0)
      have fg4_0 : g4 0 = 1 := by rw [← hhg4]; exact pk_us.trans (by decide)
      have hP : va_P D vwCl [(a0, .inr (9, [v0_0, v0_1, v0_2, v0_3, v0_4, v0_5, v0_6, v0_7, v0_8, v0_9, v0_10, v0_11, v0_12, v0_13, v0_14, v0_15, v0_16, v0_17, v0_18, v0_19, v0_20, v0_21, v0_22, v0_23, v0_24, v0_25, v0_26, v0_27, v0_28, v0_29, v0_30, v0_31, v0_32, v0_33, v0_34, v0_35, v0_36, .ref a1, v0_38, v0_39, v0_40, v0_41, v0_42, v0_43, v0_44, v0_45, v0_46, v0_47, v0_48, v0_49, v0_50, v0_51, v0_52, v0_53, v0_54, v0_55, v0_56, v0_57, v0_58, v0_59, v0_60, v0_61, .ref a2, .ref a3])), (a1, .inl (cy 0, 16, .inl zI)), (a2, .inl (cy 0, 48, .inl zI)), (a3, .inl (cy 3, 3, .inl g4))] H := hP
      have hD : va_D A [(a0, .inr (9, [v0_0, v0_1, v0_2, v0_3, v0_4, v0_5, v0_6, v0_7, v0_8, v0_9, v0_10, v0_11, v0_12, v0_13, v0_14, v0_15, v0_16, v0_17, v0_18, v0_19, v0_20, v0_21, v0_22, v0_23, v0_24, v0_25, v0_26, v0_27, v0_28, v0_29, v0_30, v0_31, v0_32, v0_33, v0_34, v0_35, v0_36, .ref a1, v0_38, v0_39, v0_40, v0_41, v0_42, v0_43, v0_44, v0_45, v0_46, v0_47, v0_48, v0_49, v0_50, v0_51, v0_52, v0_53, v0_54, v0_55, v0_56, v0_57, v0_58, v0_59, v0_60, v0_61, .ref a2, .ref a3])), (a1, .inl (cy 0, 16, .inl zI)), (a2, .inl (cy 0, 48, .inl zI)), (a3, .inl (cy 3, 3, .inl g4))] := hD
      refine lv_aload_n hx hb dX9_image_49 rfl (lv_at hl 1 rfl) ?_
      refine va_get (D := D) (cl := vwCl) (ci := 9) (v := .ref a1) (C := RX9) (T := TX9) (N := 64) hx hb hts in_X9_image_X9 hown hK hP 0 rfl rfl 37 (by decide) (hts (.fieldLink RX9 76 "EightReasonsModel" "all" "[I") (List.mem_of_getElem? (i := 2) (by decide +kernel))) (fun _ h9 => h9) rfl dX9_image_50 ?_
      refine lv_bipush (v := 14) hx hb dX9_image_53 (by decide) ?_
      refine va_iald hx hb hK hP 1 0 rfl rfl (vin (by decide)) dX9_image_55 (tpi (v := 0) rfl ?_)
      exact rtI hx hb hr hlk rfl hP hD hS () [] rfl rfl (Or.inr ⟨rfl, (Or.inl ⟨c2, rfl⟩)⟩) dX9_image_56
    · refine lv_iconst (v := 0) hx hb dX9_image_11 (by decide) ?_
      refine lv_istore_n (lv' := [(2, .int 0), (0, .ref a0), (1, .int 1)]) hx hb dX9_image_12 rfl hl (by decide) rfl (fun ls hl => ?_)
      refine lv_iload_n hx hb dX9_image_13 rfl (lv_at hl 0 rfl) ?_
      refine lv_bipush (v := 16) hx hb dX9_image_14 (by decide) ?_
      refine lv_icmp_ge (tgt := 42) hx hb dX9_image_16 (by decide) (fun c => absurd c (by decide)) (fun _ => ?_)
      refine lv_aload_n hx hb dX9_image_19 rfl (lv_at hl 1 rfl) ?_
      refine va_get (D := D) (cl := vwCl) (ci := 9) (v := .ref a2) (C := RX9) (T := TX9) (N := 64) hx hb hts in_X9_image_X9 hown hK hP 0 rfl rfl 62 (by decide) (hts (.fieldLink RX9 125 "EightReasonsModel" "boxAll" "[I") (List.mem_of_getElem? (i := 1) (by decide +kernel))) (fun _ h9 => h9) rfl dX9_image_20 ?_
      refine lv_bipush (v := 16) hx hb dX9_image_23 (by decide) ?_
      refine lv_iload_n hx hb dX9_image_25 rfl (lv_at hl 2 rfl) ?_
      refine lv_imul hx hb dX9_image_26 (tpi (v := 16) (by decide) ?_)
      refine lv_iload_n hx hb dX9_image_27 rfl (lv_at hl 0 rfl) ?_
      refine lv_iadd hx hb dX9_image_28 (tpi (v := 16) (by decide) ?_)
      refine lv_aload_n hx hb dX9_image_29 rfl (lv_at hl 1 rfl) ?_
      refine va_get (D := D) (cl := vwCl) (ci := 9) (v := .ref a1) (C := RX9) (T := TX9) (N := 64) hx hb hts in_X9_image_X9 hown hK hP 0 rfl rfl 37 (by decide) (hts (.fieldLink RX9 76 "EightReasonsModel" "all" "[I") (List.mem_of_getElem? (i := 2) (by decide +kernel))) (fun _ h9 => h9) rfl dX9_image_30 ?_
      refine lv_iload_n hx hb dX9_image_33 rfl (lv_at hl 0 rfl) ?_
      refine va_iald hx hb hK hP 1 0 rfl rfl (vin (by decide)) dX9_image_34 (tpi (v := 0) rfl ?_)
      refine va_iast hx hb hK hP hD hS 2 0 rfl rfl (vin (by decide)) dX9_image_35 (fun H locs hP hD hS => ?_)
      rw [zI_upd] at hP hD
      have hP : va_P D vwCl [(a0, .inr (9, [v0_0, v0_1, v0_2, v0_3, v0_4, v0_5, v0_6, v0_7, v0_8, v0_9, v0_10, v0_11, v0_12, v0_13, v0_14, v0_15, v0_16, v0_17, v0_18, v0_19, v0_20, v0_21, v0_22, v0_23, v0_24, v0_25, v0_26, v0_27, v0_28, v0_29, v0_30, v0_31, v0_32, v0_33, v0_34, v0_35, v0_36, .ref a1, v0_38, v0_39, v0_40, v0_41, v0_42, v0_43, v0_44, v0_45, v0_46, v0_47, v0_48, v0_49, v0_50, v0_51, v0_52, v0_53, v0_54, v0_55, v0_56, v0_57, v0_58, v0_59, v0_60, v0_61, .ref a2, .ref a3])), (a1, .inl (cy 0, 16, .inl zI)), (a2, .inl (cy 0, 48, .inl zI)), (a3, .inl (cy 3, 3, .inl zI))] H := hP
      have hD : va_D A [(a0, .inr (9, [v0_0, v0_1, v0_2, v0_3, v0_4, v0_5, v0_6, v0_7, v0_8, v0_9, v0_10, v0_11, v0_12, v0_13, v0_14, v0_15, v0_16, v0_17, v0_18, v0_19, v0_20, v0_21, v0_22, v0_23, v0_24, v0_25, v0_26, v0_27, v0_28, v0_29, v0_30, v0_31, v0_32, v0_33, v0_34, v0_35, v0_36, .ref a1, v0_38, v0_39, v0_40, v0_41, v0_42, v0_43, v0_44, v0_45, v0_46, v0_47, v0_48, v0_49, v0_50, v0_51, v0_52, v0_53, v0_54, v0_55, v0_56, v0_57, v0_58, v0_59, v0_60, v0_61, .ref a2, .ref a3])), (a1, .inl (cy 0, 16, .inl zI)), (a2, .inl (cy 0, 48, .inl zI)), (a3, .inl (cy 3, 3, .inl zI))] := hD
      refine lv_iinc (v := 1) (lv' := [(2, .int 1), (0, .ref a0), (1, .int 1)]) hx hb dX9_image_36 hl (k := 0) rfl (by decide) (by decide) rfl (fun ls hl => ?_)
      refine lv_goto (tgt := 13) hx hb dX9_image_39 (by decide) ?_
      refine lv_iload_n hx hb dX9_image_13 rfl (lv_at hl 0 rfl) ?_
      refine lv_bipush (v := 16) hx hb dX9_image_14 (by decide) ?_
      refine lv_icmp_ge (tgt := 42) hx hb dX9_image_16 (by decide) (fun c => absurd c (by decide)) (fun _ => ?_)
      refine lv_aload_n hx hb dX9_image_19 rfl (lv_at hl 1 rfl) ?_
      refine va_get (D := D) (cl := vwCl) (ci := 9) (v := .ref a2) (C := RX9) (T := TX9) (N := 64) hx hb hts in_X9_image_X9 hown hK hP 0 rfl rfl 62 (by decide) (hts (.fieldLink RX9 125 "EightReasonsModel" "boxAll" "[I") (List.mem_of_getElem? (i := 1) (by decide +kernel))) (fun _ h9 => h9) rfl dX9_image_20 ?_
      refine lv_bipush (v := 16) hx hb dX9_image_23 (by decide) ?_
      refine lv_iload_n hx hb dX9_image_25 rfl (lv_at hl 2 rfl) ?_
      refine lv_imul hx hb dX9_image_26 (tpi (v := 16) (by decide) ?_)
      refine lv_iload_n hx hb dX9_image_27 rfl (lv_at hl 0 rfl) ?_
      refine lv_iadd hx hb dX9_image_28 (tpi (v := 17) (by decide) ?_)
      refine lv_aload_n hx hb dX9_image_29 rfl (lv_at hl 1 rfl) ?_
      refine va_get (D := D) (cl := vwCl) (ci := 9) (v := .ref a1) (C := RX9) (T := TX9) (N := 64) hx hb hts in_X9_image_X9 hown hK hP 0 rfl rfl 37 (by decide) (hts (.fieldLink RX9 76 "EightReasonsModel" "all" "[I") (List.mem_of_getElem? (i := 2) (by decide +kernel))) (fun _ h9 => h9) rfl dX9_image_30 ?_
      refine lv_iload_n hx hb dX9_image_33 rfl (lv_at hl 0 rfl) ?_
      refine va_iald hx hb hK hP 1 0 rfl rfl (vin (by decide)) dX9_image_34 (tpi (v := 0) rfl ?_)
      refine va_iast hx hb hK hP hD hS 2 0 rfl rfl (vin (by decide)) dX9_image_35 (fun H locs hP hD hS => ?_)
      rw [zI_upd] at hP hD
      have hP : va_P D vwCl [(a0, .inr (9, [v0_0, v0_1, v0_2, v0_3, v0_4, v0_5, v0_6, v0_7, v0_8, v0_9, v0_10, v0_11, v0_12, v0_13, v0_14, v0_15, v0_16, v0_17, v0_18, v0_19, v0_20, v0_21, v0_22, v0_23, v0_24, v0_25, v0_26, v0_27, v0_28, v0_29, v0_30, v0_31, v0_32, v0_33, v0_34, v0_35, v0_36, .ref a1, v0_38, v0_39, v0_40, v0_41, v0_42, v0_43, v0_44, v0_45, v0_46, v0_47, v0_48, v0_49, v0_50, v0_51, v0_52, v0_53, v0_54, v0_55, v0_56, v0_57, v0_58, v0_59, v0_60, v0_61, .ref a2, .ref a3])), (a1, .inl (cy 0, 16, .inl zI)), (a2, .inl (cy 0, 48, .inl zI)), (a3, .inl (cy 3, 3, .inl zI))] H := hP
      have hD : va_D A [(a0, .inr (9, [v0_0, v0_1, v0_2, v0_3, v0_4, v0_5, v0_6, v0_7, v0_8, v0_9, v0_10, v0_11, v0_12, v0_13, v0_14, v0_15, v0_16, v0_17, v0_18, v0_19, v0_20, v0_21, v0_22, v0_23, v0_24, v0_25, v0_26, v0_27, v0_28, v0_29, v0_30, v0_31, v0_32, v0_33, v0_34, v0_35, v0_36, .ref a1, v0_38, v0_39, v0_40, v0_41, v0_42, v0_43, v0_44, v0_45, v0_46, v0_47, v0_48, v0_49, v0_50, v0_51, v0_52, v0_53, v0_54, v0_55, v0_56, v0_57, v0_58, v0_59, v0_60, v0_61, .ref a2, .ref a3])), (a1, .inl (cy 0, 16, .inl zI)), (a2, .inl (cy 0, 48, .inl zI)), (a3, .inl (cy 3, 3, .inl zI))] := hD
      refine lv_iinc (v := 2) (lv' := [(2, .int 2), (0, .ref a0), (1, .int 1)]) hx hb dX9_image_36 hl (k := 0) rfl (by decide) (by decide) rfl (fun ls hl => ?_)
      refine lv_goto (tgt := 13) hx hb dX9_image_39 (by decide) ?_
      refine lv_iload_n hx hb dX9_image_13 rfl (lv_at hl 0 rfl) ?_
      refine lv_bipush (v := 16) hx hb dX9_image_14 (by decide) ?_
      refine lv_icmp_ge (tgt := 42) hx hb dX9_image_16 (by decide) (fun c => absurd c (by decide)) (fun _ => ?_)
      refine lv_aload_n hx hb dX9_image_19 rfl (lv_at hl 1 rfl) ?_
      refine va_get (D := D) (cl := vwCl) (ci := 9) (v := .ref a2) (C := RX9) (T := TX9) (N := 64) hx hb hts in_X9_image_X9 hown hK hP 0 rfl rfl 62 (by decide) (hts (.fieldLink RX9 125 "EightReasonsModel" "boxAll" "[I") (List.mem_of_getElem? (i := 1) (by decide +kernel))) (fun _ h9 => h9) rfl dX9_image_20 ?_
      refine lv_bipush (v := 16) hx hb dX9_image_23 (by decide) ?_
      refine lv_iload_n hx hb dX9_image_25 rfl (lv_at hl 2 rfl) ?_
      refine lv_imul hx hb dX9_image_26 (tpi (v := 16) (by decide) ?_)
      refine lv_iload_n hx hb dX9_image_27 rfl (lv_at hl 0 rfl) ?_
      refine lv_iadd hx hb dX9_image_28 (tpi (v := 18) (by decide) ?_)
      refine lv_aload_n hx hb dX9_image_29 rfl (lv_at hl 1 rfl) ?_
      refine va_get (D := D) (cl := vwCl) (ci := 9) (v := .ref a1) (C := RX9) (T := TX9) (N := 64) hx hb hts in_X9_image_X9 hown hK hP 0 rfl rfl 37 (by decide) (hts (.fieldLink RX9 76 "EightReasonsModel" "all" "[I") (List.mem_of_getElem? (i := 2) (by decide +kernel))) (fun _ h9 => h9) rfl dX9_image_30 ?_
      refine lv_iload_n hx hb dX9_image_33 rfl (lv_at hl 0 rfl) ?_
      refine va_iald hx hb hK hP 1 0 rfl rfl (vin (by decide)) dX9_image_34 (tpi (v := 0) rfl ?_)
      refine va_iast hx hb hK hP hD hS 2 0 rfl rfl (vin (by decide)) dX9_image_35 (fun H locs hP hD hS => ?_)
      rw [zI_upd] at hP hD
      have hP : va_P D vwCl [(a0, .inr (9, [v0_0, v0_1, v0_2, v0_3, v0_4, v0_5, v0_6, v0_7, v0_8, v0_9, v0_10, v0_11, v0_12, v0_13, v0_14, v0_15, v0_16, v0_17, v0_18, v0_19, v0_20, v0_21, v0_22, v0_23, v0_24, v0_25, v0_26, v0_27, v0_28, v0_29, v0_30, v0_31, v0_32, v0_33, v0_34, v0_35, v0_36, .ref a1, v0_38, v0_39, v0_40, v0_41, v0_42, v0_43, v0_44, v0_45, v0_46, v0_47, v0_48, v0_49, v0_50, v0_51, v0_52, v0_53, v0_54, v0_55, v0_56, v0_57, v0_58, v0_59, v0_60, v0_61, .ref a2, .ref a3])), (a1, .inl (cy 0, 16, .inl zI)), (a2, .inl (cy 0, 48, .inl zI)), (a3, .inl (cy 3, 3, .inl zI))] H := hP
      have hD : va_D A [(a0, .inr (9, [v0_0, v0_1, v0_2, v0_3, v0_4, v0_5, v0_6, v0_7, v0_8, v0_9, v0_10, v0_11, v0_12, v0_13, v0_14, v0_15, v0_16, v0_17, v0_18, v0_19, v0_20, v0_21, v0_22, v0_23, v0_24, v0_25, v0_26, v0_27, v0_28, v0_29, v0_30, v0_31, v0_32, v0_33, v0_34, v0_35, v0_36, .ref a1, v0_38, v0_39, v0_40, v0_41, v0_42, v0_43, v0_44, v0_45, v0_46, v0_47, v0_48, v0_49, v0_50, v0_51, v0_52, v0_53, v0_54, v0_55, v0_56, v0_57, v0_58, v0_59, v0_60, v0_61, .ref a2, .ref a3])), (a1, .inl (cy 0, 16, .inl zI)), (a2, .inl (cy 0, 48, .inl zI)), (a3, .inl (cy 3, 3, .inl zI))] := hD
      refine lv_iinc (v := 3) (lv' := [(2, .int 3), (0, .ref a0), (1, .int 1)]) hx hb dX9_image_36 hl (k := 0) rfl (by decide) (by decide) rfl (fun ls hl => ?_)
      refine lv_goto (tgt := 13) hx hb dX9_image_39 (by decide) ?_
      refine lv_iload_n hx hb dX9_image_13 rfl (lv_at hl 0 rfl) ?_
      refine lv_bipush (v := 16) hx hb dX9_image_14 (by decide) ?_
      refine lv_icmp_ge (tgt := 42) hx hb dX9_image_16 (by decide) (fun c => absurd c (by decide)) (fun _ => ?_)
      refine lv_aload_n hx hb dX9_image_19 rfl (lv_at hl 1 rfl) ?_
      refine va_get (D := D) (cl := vwCl) (ci := 9) (v := .ref a2) (C := RX9) (T := TX9) (N := 64) hx hb hts in_X9_image_X9 hown hK hP 0 rfl rfl 62 (by decide) (hts (.fieldLink RX9 125 "EightReasonsModel" "boxAll" "[I") (List.mem_of_getElem? (i := 1) (by decide +kernel))) (fun _ h9 => h9) rfl dX9_image_20 ?_
      refine lv_bipush (v := 16) hx hb dX9_image_23 (by decide) ?_
      refine lv_iload_n hx hb dX9_image_25 rfl (lv_at hl 2 rfl) ?_
      refine lv_imul hx hb dX9_image_26 (tpi (v := 16) (by decide) ?_)
      refine lv_iload_n hx hb dX9_image_27 rfl (lv_at hl 0 rfl) ?_
      refine lv_iadd hx hb dX9_image_28 (tpi (v := 19) (by decide) ?_)
      refine lv_aload_n hx hb dX9_image_29 rfl (lv_at hl 1 rfl) ?_
      refine va_get (D := D) (cl := vwCl) (ci := 9) (v := .ref a1) (C := RX9) (T := TX9) (N := 64) hx hb hts in_X9_image_X9 hown hK hP 0 rfl rfl 37 (by decide) (hts (.fieldLink RX9 76 "EightReasonsModel" "all" "[I") (List.mem_of_getElem? (i := 2) (by decide +kernel))) (fun _ h9 => h9) rfl dX9_image_30 ?_
      refine lv_iload_n hx hb dX9_image_33 rfl (lv_at hl 0 rfl) ?_
      refine va_iald hx hb hK hP 1 0 rfl rfl (vin (by decide)) dX9_image_34 (tpi (v := 0) rfl ?_)
      refine va_iast hx hb hK hP hD hS 2 0 rfl rfl (vin (by decide)) dX9_image_35 (fun H locs hP hD hS => ?_)
      rw [zI_upd] at hP hD
      have hP : va_P D vwCl [(a0, .inr (9, [v0_0, v0_1, v0_2, v0_3, v0_4, v0_5, v0_6, v0_7, v0_8, v0_9, v0_10, v0_11, v0_12, v0_13, v0_14, v0_15, v0_16, v0_17, v0_18, v0_19, v0_20, v0_21, v0_22, v0_23, v0_24, v0_25, v0_26, v0_27, v0_28, v0_29, v0_30, v0_31, v0_32, v0_33, v0_34, v0_35, v0_36, .ref a1, v0_38, v0_39, v0_40, v0_41, v0_42, v0_43, v0_44, v0_45, v0_46, v0_47, v0_48, v0_49, v0_50, v0_51, v0_52, v0_53, v0_54, v0_55, v0_56, v0_57, v0_58, v0_59, v0_60, v0_61, .ref a2, .ref a3])), (a1, .inl (cy 0, 16, .inl zI)), (a2, .inl (cy 0, 48, .inl zI)), (a3, .inl (cy 3, 3, .inl zI))] H := hP
      have hD : va_D A [(a0, .inr (9, [v0_0, v0_1, v0_2, v0_3, v0_4, v0_5, v0_6, v0_7, v0_8, v0_9, v0_10, v0_11, v0_12, v0_13, v0_14, v0_15, v0_16, v0_17, v0_18, v0_19, v0_20, v0_21, v0_22, v0_23, v0_24, v0_25, v0_26, v0_27, v0_28, v0_29, v0_30, v0_31, v0_32, v0_33, v0_34, v0_35, v0_36, .ref a1, v0_38, v0_39, v0_40, v0_41, v0_42, v0_43, v0_44, v0_45, v0_46, v0_47, v0_48, v0_49, v0_50, v0_51, v0_52, v0_53, v0_54, v0_55, v0_56, v0_57, v0_58, v0_59, v0_60, v0_61, .ref a2, .ref a3])), (a1, .inl (cy 0, 16, .inl zI)), (a2, .inl (cy 0, 48, .inl zI)), (a3, .inl (cy 3, 3, .inl zI))] := hD
      refine lv_iinc (v := 4) (lv' := [(2, .int 4), (0, .ref a0), (1, .int 1)]) hx hb dX9_image_36 hl (k := 0) rfl (by decide) (by decide) rfl (fun ls hl => ?_)
      refine lv_goto (tgt := 13) hx hb dX9_image_39 (by decide) ?_
      refine lv_iload_n hx hb dX9_image_13 rfl (lv_at hl 0 rfl) ?_
      refine lv_bipush (v := 16) hx hb dX9_image_14 (by decide) ?_
      refine lv_icmp_ge (tgt := 42) hx hb dX9_image_16 (by decide) (fun c => absurd c (by decide)) (fun _ => ?_)
      refine lv_aload_n hx hb dX9_image_19 rfl (lv_at hl 1 rfl) ?_
      refine va_get (D := D) (cl := vwCl) (ci := 9) (v := .ref a2) (C := RX9) (T := TX9) (N := 64) hx hb hts in_X9_image_X9 hown hK hP 0 rfl rfl 62 (by decide) (hts (.fieldLink RX9 125 "EightReasonsModel" "boxAll" "[I") (List.mem_of_getElem? (i := 1) (by decide +kernel))) (fun _ h9 => h9) rfl dX9_image_20 ?_
      refine lv_bipush (v := 16) hx hb dX9_image_23 (by decide) ?_
      refine lv_iload_n hx hb dX9_image_25 rfl (lv_at hl 2 rfl) ?_
      refine lv_imul hx hb dX9_image_26 (tpi (v := 16) (by decide) ?_)
      refine lv_iload_n hx hb dX9_image_27 rfl (lv_at hl 0 rfl) ?_
      refine lv_iadd hx hb dX9_image_28 (tpi (v := 20) (by decide) ?_)
      refine lv_aload_n hx hb dX9_image_29 rfl (lv_at hl 1 rfl) ?_
      refine va_get (D := D) (cl := vwCl) (ci := 9) (v := .ref a1) (C := RX9) (T := TX9) (N := 64) hx hb hts in_X9_image_X9 hown hK hP 0 rfl rfl 37 (by decide) (hts (.fieldLink RX9 76 "EightReasonsModel" "all" "[I") (List.mem_of_getElem? (i := 2) (by decide +kernel))) (fun _ h9 => h9) rfl dX9_image_30 ?_
      refine lv_iload_n hx hb dX9_image_33 rfl (lv_at hl 0 rfl) ?_
      refine va_iald hx hb hK hP 1 0 rfl rfl (vin (by decide)) dX9_image_34 (tpi (v := 0) rfl ?_)
      refine va_iast hx hb hK hP hD hS 2 0 rfl rfl (vin (by decide)) dX9_image_35 (fun H locs hP hD hS => ?_)
      rw [zI_upd] at hP hD
      have hP : va_P D vwCl [(a0, .inr (9, [v0_0, v0_1, v0_2, v0_3, v0_4, v0_5, v0_6, v0_7, v0_8, v0_9, v0_10, v0_11, v0_12, v0_13, v0_14, v0_15, v0_16, v0_17, v0_18, v0_19, v0_20, v0_21, v0_22, v0_23, v0_24, v0_25, v0_26, v0_27, v0_28, v0_29, v0_30, v0_31, v0_32, v0_33, v0_34, v0_35, v0_36, .ref a1, v0_38, v0_39, v0_40, v0_41, v0_42, v0_43, v0_44, v0_45, v0_46, v0_47, v0_48, v0_49, v0_50, v0_51, v0_52, v0_53, v0_54, v0_55, v0_56, v0_57, v0_58, v0_59, v0_60, v0_61, .ref a2, .ref a3])), (a1, .inl (cy 0, 16, .inl zI)), (a2, .inl (cy 0, 48, .inl zI)), (a3, .inl (cy 3, 3, .inl zI))] H := hP
      have hD : va_D A [(a0, .inr (9, [v0_0, v0_1, v0_2, v0_3, v0_4, v0_5, v0_6, v0_7, v0_8, v0_9, v0_10, v0_11, v0_12, v0_13, v0_14, v0_15, v0_16, v0_17, v0_18, v0_19, v0_20, v0_21, v0_22, v0_23, v0_24, v0_25, v0_26, v0_27, v0_28, v0_29, v0_30, v0_31, v0_32, v0_33, v0_34, v0_35, v0_36, .ref a1, v0_38, v0_39, v0_40, v0_41, v0_42, v0_43, v0_44, v0_45, v0_46, v0_47, v0_48, v0_49, v0_50, v0_51, v0_52, v0_53, v0_54, v0_55, v0_56, v0_57, v0_58, v0_59, v0_60, v0_61, .ref a2, .ref a3])), (a1, .inl (cy 0, 16, .inl zI)), (a2, .inl (cy 0, 48, .inl zI)), (a3, .inl (cy 3, 3, .inl zI))] := hD
      refine lv_iinc (v := 5) (lv' := [(2, .int 5), (0, .ref a0), (1, .int 1)]) hx hb dX9_image_36 hl (k := 0) rfl (by decide) (by decide) rfl (fun ls hl => ?_)
      refine lv_goto (tgt := 13) hx hb dX9_image_39 (by decide) ?_
      refine lv_iload_n hx hb dX9_image_13 rfl (lv_at hl 0 rfl) ?_
      refine lv_bipush (v := 16) hx hb dX9_image_14 (by decide) ?_
      refine lv_icmp_ge (tgt := 42) hx hb dX9_image_16 (by decide) (fun c => absurd c (by decide)) (fun _ => ?_)
      refine lv_aload_n hx hb dX9_image_19 rfl (lv_at hl 1 rfl) ?_
      refine va_get (D := D) (cl := vwCl) (ci := 9) (v := .ref a2) (C := RX9) (T := TX9) (N := 64) hx hb hts in_X9_image_X9 hown hK hP 0 rfl rfl 62 (by decide) (hts (.fieldLink RX9 125 "EightReasonsModel" "boxAll" "[I") (List.mem_of_getElem? (i := 1) (by decide +kernel))) (fun _ h9 => h9) rfl dX9_image_20 ?_
      refine lv_bipush (v := 16) hx hb dX9_image_23 (by decide) ?_
      refine lv_iload_n hx hb dX9_image_25 rfl (lv_at hl 2 rfl) ?_
      refine lv_imul hx hb dX9_image_26 (tpi (v := 16) (by decide) ?_)
      refine lv_iload_n hx hb dX9_image_27 rfl (lv_at hl 0 rfl) ?_
      refine lv_iadd hx hb dX9_image_28 (tpi (v := 21) (by decide) ?_)
      refine lv_aload_n hx hb dX9_image_29 rfl (lv_at hl 1 rfl) ?_
      refine va_get (D := D) (cl := vwCl) (ci := 9) (v := .ref a1) (C := RX9) (T := TX9) (N := 64) hx hb hts in_X9_image_X9 hown hK hP 0 rfl rfl 37 (by decide) (hts (.fieldLink RX9 76 "EightReasonsModel" "all" "[I") (List.mem_of_getElem? (i := 2) (by decide +kernel))) (fun _ h9 => h9) rfl dX9_image_30 ?_
      refine lv_iload_n hx hb dX9_image_33 rfl (lv_at hl 0 rfl) ?_
      refine va_iald hx hb hK hP 1 0 rfl rfl (vin (by decide)) dX9_image_34 (tpi (v := 0) rfl ?_)
      refine va_iast hx hb hK hP hD hS 2 0 rfl rfl (vin (by decide)) dX9_image_35 (fun H locs hP hD hS => ?_)
      rw [zI_upd] at hP hD
      have hP : va_P D vwCl [(a0, .inr (9, [v0_0, v0_1, v0_2, v0_3, v0_4, v0_5, v0_6, v0_7, v0_8, v0_9, v0_10, v0_11, v0_12, v0_13, v0_14, v0_15, v0_16, v0_17, v0_18, v0_19, v0_20, v0_21, v0_22, v0_23, v0_24, v0_25, v0_26, v0_27, v0_28, v0_29, v0_30, v0_31, v0_32, v0_33, v0_34, v0_35, v0_36, .ref a1, v0_38, v0_39, v0_40, v0_41, v0_42, v0_43, v0_44, v0_45, v0_46, v0_47, v0_48, v0_49, v0_50, v0_51, v0_52, v0_53, v0_54, v0_55, v0_56, v0_57, v0_58, v0_59, v0_60, v0_61, .ref a2, .ref a3])), (a1, .inl (cy 0, 16, .inl zI)), (a2, .inl (cy 0, 48, .inl zI)), (a3, .inl (cy 3, 3, .inl zI))] H := hP
      have hD : va_D A [(a0, .inr (9, [v0_0, v0_1, v0_2, v0_3, v0_4, v0_5, v0_6, v0_7, v0_8, v0_9, v0_10, v0_11, v0_12, v0_13, v0_14, v0_15, v0_16, v0_17, v0_18, v0_19, v0_20, v0_21, v0_22, v0_23, v0_24, v0_25, v0_26, v0_27, v0_28, v0_29, v0_30, v0_31, v0_32, v0_33, v0_34, v0_35, v0_36, .ref a1, v0_38, v0_39, v0_40, v0_41, v0_42, v0_43, v0_44, v0_45, v0_46, v0_47, v0_48, v0_49, v0_50, v0_51, v0_52, v0_53, v0_54, v0_55, v0_56, v0_57, v0_58, v0_59, v0_60, v0_61, .ref a2, .ref a3])), (a1, .inl (cy 0, 16, .inl zI)), (a2, .inl (cy 0, 48, .inl zI)), (a3, .inl (cy 3, 3, .inl zI))] := hD
      refine lv_iinc (v := 6) (lv' := [(2, .int 6), (0, .ref a0), (1, .int 1)]) hx hb dX9_image_36 hl (k := 0) rfl (by decide) (by decide) rfl (fun ls hl => ?_)
      refine lv_goto (tgt := 13) hx hb dX9_image_39 (by decide) ?_
      refine lv_iload_n hx hb dX9_image_13 rfl (lv_at hl 0 rfl) ?_
      refine lv_bipush (v := 16) hx hb dX9_image_14 (by decide) ?_
      refine lv_icmp_ge (tgt := 42) hx hb dX9_image_16 (by decide) (fun c => absurd c (by decide)) (fun _ => ?_)
      refine lv_aload_n hx hb dX9_image_19 rfl (lv_at hl 1 rfl) ?_
      refine va_get (D := D) (cl := vwCl) (ci := 9) (v := .ref a2) (C := RX9) (T := TX9) (N := 64) hx hb hts in_X9_image_X9 hown hK hP 0 rfl rfl 62 (by decide) (hts (.fieldLink RX9 125 "EightReasonsModel" "boxAll" "[I") (List.mem_of_getElem? (i := 1) (by decide +kernel))) (fun _ h9 => h9) rfl dX9_image_20 ?_
      refine lv_bipush (v := 16) hx hb dX9_image_23 (by decide) ?_
      refine lv_iload_n hx hb dX9_image_25 rfl (lv_at hl 2 rfl) ?_
      refine lv_imul hx hb dX9_image_26 (tpi (v := 16) (by decide) ?_)
      refine lv_iload_n hx hb dX9_image_27 rfl (lv_at hl 0 rfl) ?_
      refine lv_iadd hx hb dX9_image_28 (tpi (v := 22) (by decide) ?_)
      refine lv_aload_n hx hb dX9_image_29 rfl (lv_at hl 1 rfl) ?_
      refine va_get (D := D) (cl := vwCl) (ci := 9) (v := .ref a1) (C := RX9) (T := TX9) (N := 64) hx hb hts in_X9_image_X9 hown hK hP 0 rfl rfl 37 (by decide) (hts (.fieldLink RX9 76 "EightReasonsModel" "all" "[I") (List.mem_of_getElem? (i := 2) (by decide +kernel))) (fun _ h9 => h9) rfl dX9_image_30 ?_
      refine lv_iload_n hx hb dX9_image_33 rfl (lv_at hl 0 rfl) ?_
      refine va_iald hx hb hK hP 1 0 rfl rfl (vin (by decide)) dX9_image_34 (tpi (v := 0) rfl ?_)
      refine va_iast hx hb hK hP hD hS 2 0 rfl rfl (vin (by decide)) dX9_image_35 (fun H locs hP hD hS => ?_)
      rw [zI_upd] at hP hD
      have hP : va_P D vwCl [(a0, .inr (9, [v0_0, v0_1, v0_2, v0_3, v0_4, v0_5, v0_6, v0_7, v0_8, v0_9, v0_10, v0_11, v0_12, v0_13, v0_14, v0_15, v0_16, v0_17, v0_18, v0_19, v0_20, v0_21, v0_22, v0_23, v0_24, v0_25, v0_26, v0_27, v0_28, v0_29, v0_30, v0_31, v0_32, v0_33, v0_34, v0_35, v0_36, .ref a1, v0_38, v0_39, v0_40, v0_41, v0_42, v0_43, v0_44, v0_45, v0_46, v0_47, v0_48, v0_49, v0_50, v0_51, v0_52, v0_53, v0_54, v0_55, v0_56, v0_57, v0_58, v0_59, v0_60, v0_61, .ref a2, .ref a3])), (a1, .inl (cy 0, 16, .inl zI)), (a2, .inl (cy 0, 48, .inl zI)), (a3, .inl (cy 3, 3, .inl zI))] H := hP
      have hD : va_D A [(a0, .inr (9, [v0_0, v0_1, v0_2, v0_3, v0_4, v0_5, v0_6, v0_7, v0_8, v0_9, v0_10, v0_11, v0_12, v0_13, v0_14, v0_15, v0_16, v0_17, v0_18, v0_19, v0_20, v0_21, v0_22, v0_23, v0_24, v0_25, v0_26, v0_27, v0_28, v0_29, v0_30, v0_31, v0_32, v0_33, v0_34, v0_35, v0_36, .ref a1, v0_38, v0_39, v0_40, v0_41, v0_42, v0_43, v0_44, v0_45, v0_46, v0_47, v0_48, v0_49, v0_50, v0_51, v0_52, v0_53, v0_54, v0_55, v0_56, v0_57, v0_58, v0_59, v0_60, v0_61, .ref a2, .ref a3])), (a1, .inl (cy 0, 16, .inl zI)), (a2, .inl (cy 0, 48, .inl zI)), (a3, .inl (cy 3, 3, .inl zI))] := hD
      refine lv_iinc (v := 7) (lv' := [(2, .int 7), (0, .ref a0), (1, .int 1)]) hx hb dX9_image_36 hl (k := 0) rfl (by decide) (by decide) rfl (fun ls hl => ?_)
      refine lv_goto (tgt := 13) hx hb dX9_image_39 (by decide) ?_
      refine lv_iload_n hx hb dX9_image_13 rfl (lv_at hl 0 rfl) ?_
      refine lv_bipush (v := 16) hx hb dX9_image_14 (by decide) ?_
      refine lv_icmp_ge (tgt := 42) hx hb dX9_image_16 (by decide) (fun c => absurd c (by decide)) (fun _ => ?_)
      refine lv_aload_n hx hb dX9_image_19 rfl (lv_at hl 1 rfl) ?_
      refine va_get (D := D) (cl := vwCl) (ci := 9) (v := .ref a2) (C := RX9) (T := TX9) (N := 64) hx hb hts in_X9_image_X9 hown hK hP 0 rfl rfl 62 (by decide) (hts (.fieldLink RX9 125 "EightReasonsModel" "boxAll" "[I") (List.mem_of_getElem? (i := 1) (by decide +kernel))) (fun _ h9 => h9) rfl dX9_image_20 ?_
      refine lv_bipush (v := 16) hx hb dX9_image_23 (by decide) ?_
      refine lv_iload_n hx hb dX9_image_25 rfl (lv_at hl 2 rfl) ?_
      refine lv_imul hx hb dX9_image_26 (tpi (v := 16) (by decide) ?_)
      refine lv_iload_n hx hb dX9_image_27 rfl (lv_at hl 0 rfl) ?_
      refine lv_iadd hx hb dX9_image_28 (tpi (v := 23) (by decide) ?_)
      refine lv_aload_n hx hb dX9_image_29 rfl (lv_at hl 1 rfl) ?_
      refine va_get (D := D) (cl := vwCl) (ci := 9) (v := .ref a1) (C := RX9) (T := TX9) (N := 64) hx hb hts in_X9_image_X9 hown hK hP 0 rfl rfl 37 (by decide) (hts (.fieldLink RX9 76 "EightReasonsModel" "all" "[I") (List.mem_of_getElem? (i := 2) (by decide +kernel))) (fun _ h9 => h9) rfl dX9_image_30 ?_
      refine lv_iload_n hx hb dX9_image_33 rfl (lv_at hl 0 rfl) ?_
      refine va_iald hx hb hK hP 1 0 rfl rfl (vin (by decide)) dX9_image_34 (tpi (v := 0) rfl ?_)
      refine va_iast hx hb hK hP hD hS 2 0 rfl rfl (vin (by decide)) dX9_image_35 (fun H locs hP hD hS => ?_)
      rw [zI_upd] at hP hD
      have hP : va_P D vwCl [(a0, .inr (9, [v0_0, v0_1, v0_2, v0_3, v0_4, v0_5, v0_6, v0_7, v0_8, v0_9, v0_10, v0_11, v0_12, v0_13, v0_14, v0_15, v0_16, v0_17, v0_18, v0_19, v0_20, v0_21, v0_22, v0_23, v0_24, v0_25, v0_26, v0_27, v0_28, v0_29, v0_30, v0_31, v0_32, v0_33, v0_34, v0_35, v0_36, .ref a1, v0_38, v0_39, v0_40, v0_41, v0_42, v0_43, v0_44, v0_45, v0_46, v0_47, v0_48, v0_49, v0_50, v0_51, v0_52, v0_53, v0_54, v0_55, v0_56, v0_57, v0_58, v0_59, v0_60, v0_61, .ref a2, .ref a3])), (a1, .inl (cy 0, 16, .inl zI)), (a2, .inl (cy 0, 48, .inl zI)), (a3, .inl (cy 3, 3, .inl zI))] H := hP
      have hD : va_D A [(a0, .inr (9, [v0_0, v0_1, v0_2, v0_3, v0_4, v0_5, v0_6, v0_7, v0_8, v0_9, v0_10, v0_11, v0_12, v0_13, v0_14, v0_15, v0_16, v0_17, v0_18, v0_19, v0_20, v0_21, v0_22, v0_23, v0_24, v0_25, v0_26, v0_27, v0_28, v0_29, v0_30, v0_31, v0_32, v0_33, v0_34, v0_35, v0_36, .ref a1, v0_38, v0_39, v0_40, v0_41, v0_42, v0_43, v0_44, v0_45, v0_46, v0_47, v0_48, v0_49, v0_50, v0_51, v0_52, v0_53, v0_54, v0_55, v0_56, v0_57, v0_58, v0_59, v0_60, v0_61, .ref a2, .ref a3])), (a1, .inl (cy 0, 16, .inl zI)), (a2, .inl (cy 0, 48, .inl zI)), (a3, .inl (cy 3, 3, .inl zI))] := hD
      refine lv_iinc (v := 8) (lv' := [(2, .int 8), (0, .ref a0), (1, .int 1)]) hx hb dX9_image_36 hl (k := 0) rfl (by decide) (by decide) rfl (fun ls hl => ?_)
      refine lv_goto (tgt := 13) hx hb dX9_image_39 (by decide) ?_
      refine lv_iload_n hx hb dX9_image_13 rfl (lv_at hl 0 rfl) ?_
      refine lv_bipush (v := 16) hx hb dX9_image_14 (by decide) ?_
      refine lv_icmp_ge (tgt := 42) hx hb dX9_image_16 (by decide) (fun c => absurd c (by decide)) (fun _ => ?_)
      refine lv_aload_n hx hb dX9_image_19 rfl (lv_at hl 1 rfl) ?_
      refine va_get (D := D) (cl := vwCl) (ci := 9) (v := .ref a2) (C := RX9) (T := TX9) (N := 64) hx hb hts in_X9_image_X9 hown hK hP 0 rfl rfl 62 (by decide) (hts (.fieldLink RX9 125 "EightReasonsModel" "boxAll" "[I") (List.mem_of_getElem? (i := 1) (by decide +kernel))) (fun _ h9 => h9) rfl dX9_image_20 ?_
      refine lv_bipush (v := 16) hx hb dX9_image_23 (by decide) ?_
      refine lv_iload_n hx hb dX9_image_25 rfl (lv_at hl 2 rfl) ?_
      refine lv_imul hx hb dX9_image_26 (tpi (v := 16) (by decide) ?_)
      refine lv_iload_n hx hb dX9_image_27 rfl (lv_at hl 0 rfl) ?_
      refine lv_iadd hx hb dX9_image_28 (tpi (v := 24) (by decide) ?_)
      refine lv_aload_n hx hb dX9_image_29 rfl (lv_at hl 1 rfl) ?_
      refine va_get (D := D) (cl := vwCl) (ci := 9) (v := .ref a1) (C := RX9) (T := TX9) (N := 64) hx hb hts in_X9_image_X9 hown hK hP 0 rfl rfl 37 (by decide) (hts (.fieldLink RX9 76 "EightReasonsModel" "all" "[I") (List.mem_of_getElem? (i := 2) (by decide +kernel))) (fun _ h9 => h9) rfl dX9_image_30 ?_
      refine lv_iload_n hx hb dX9_image_33 rfl (lv_at hl 0 rfl) ?_
      refine va_iald hx hb hK hP 1 0 rfl rfl (vin (by decide)) dX9_image_34 (tpi (v := 0) rfl ?_)
      refine va_iast hx hb hK hP hD hS 2 0 rfl rfl (vin (by decide)) dX9_image_35 (fun H locs hP hD hS => ?_)
      rw [zI_upd] at hP hD
      have hP : va_P D vwCl [(a0, .inr (9, [v0_0, v0_1, v0_2, v0_3, v0_4, v0_5, v0_6, v0_7, v0_8, v0_9, v0_10, v0_11, v0_12, v0_13, v0_14, v0_15, v0_16, v0_17, v0_18, v0_19, v0_20, v0_21, v0_22, v0_23, v0_24, v0_25, v0_26, v0_27, v0_28, v0_29, v0_30, v0_31, v0_32, v0_33, v0_34, v0_35, v0_36, .ref a1, v0_38, v0_39, v0_40, v0_41, v0_42, v0_43, v0_44, v0_45, v0_46, v0_47, v0_48, v0_49, v0_50, v0_51, v0_52, v0_53, v0_54, v0_55, v0_56, v0_57, v0_58, v0_59, v0_60, v0_61, .ref a2, .ref a3])), (a1, .inl (cy 0, 16, .inl zI)), (a2, .inl (cy 0, 48, .inl zI)), (a3, .inl (cy 3, 3, .inl zI))] H := hP
      have hD : va_D A [(a0, .inr (9, [v0_0, v0_1, v0_2, v0_3, v0_4, v0_5, v0_6, v0_7, v0_8, v0_9, v0_10, v0_11, v0_12, v0_13, v0_14, v0_15, v0_16, v0_17, v0_18, v0_19, v0_20, v0_21, v0_22, v0_23, v0_24, v0_25, v0_26, v0_27, v0_28, v0_29, v0_30, v0_31, v0_32, v0_33, v0_34, v0_35, v0_36, .ref a1, v0_38, v0_39, v0_40, v0_41, v0_42, v0_43, v0_44, v0_45, v0_46, v0_47, v0_48, v0_49, v0_50, v0_51, v0_52, v0_53, v0_54, v0_55, v0_56, v0_57, v0_58, v0_59, v0_60, v0_61, .ref a2, .ref a3])), (a1, .inl (cy 0, 16, .inl zI)), (a2, .inl (cy 0, 48, .inl zI)), (a3, .inl (cy 3, 3, .inl zI))] := hD
      refine lv_iinc (v := 9) (lv' := [(2, .int 9), (0, .ref a0), (1, .int 1)]) hx hb dX9_image_36 hl (k := 0) rfl (by decide) (by decide) rfl (fun ls hl => ?_)
      refine lv_goto (tgt := 13) hx hb dX9_image_39 (by decide) ?_
      refine lv_iload_n hx hb dX9_image_13 rfl (lv_at hl 0 rfl) ?_
      refine lv_bipush (v := 16) hx hb dX9_image_14 (by decide) ?_
      refine lv_icmp_ge (tgt := 42) hx hb dX9_image_16 (by decide) (fun c => absurd c (by decide)) (fun _ => ?_)
      refine lv_aload_n hx hb dX9_image_19 rfl (lv_at hl 1 rfl) ?_
      refine va_get (D := D) (cl := vwCl) (ci := 9) (v := .ref a2) (C := RX9) (T := TX9) (N := 64) hx hb hts in_X9_image_X9 hown hK hP 0 rfl rfl 62 (by decide) (hts (.fieldLink RX9 125 "EightReasonsModel" "boxAll" "[I") (List.mem_of_getElem? (i := 1) (by decide +kernel))) (fun _ h9 => h9) rfl dX9_image_20 ?_
      refine lv_bipush (v := 16) hx hb dX9_image_23 (by decide) ?_
      refine lv_iload_n hx hb dX9_image_25 rfl (lv_at hl 2 rfl) ?_
      refine lv_imul hx hb dX9_image_26 (tpi (v := 16) (by decide) ?_)
      refine lv_iload_n hx hb dX9_image_27 rfl (lv_at hl 0 rfl) ?_
      refine lv_iadd hx hb dX9_image_28 (tpi (v := 25) (by decide) ?_)
      refine lv_aload_n hx hb dX9_image_29 rfl (lv_at hl 1 rfl) ?_
      refine va_get (D := D) (cl := vwCl) (ci := 9) (v := .ref a1) (C := RX9) (T := TX9) (N := 64) hx hb hts in_X9_image_X9 hown hK hP 0 rfl rfl 37 (by decide) (hts (.fieldLink RX9 76 "EightReasonsModel" "all" "[I") (List.mem_of_getElem? (i := 2) (by decide +kernel))) (fun _ h9 => h9) rfl dX9_image_30 ?_
      refine lv_iload_n hx hb dX9_image_33 rfl (lv_at hl 0 rfl) ?_
      refine va_iald hx hb hK hP 1 0 rfl rfl (vin (by decide)) dX9_image_34 (tpi (v := 0) rfl ?_)
      refine va_iast hx hb hK hP hD hS 2 0 rfl rfl (vin (by decide)) dX9_image_35 (fun H locs hP hD hS => ?_)
      rw [zI_upd] at hP hD
      have hP : va_P D vwCl [(a0, .inr (9, [v0_0, v0_1, v0_2, v0_3, v0_4, v0_5, v0_6, v0_7, v0_8, v0_9, v0_10, v0_11, v0_12, v0_13, v0_14, v0_15, v0_16, v0_17, v0_18, v0_19, v0_20, v0_21, v0_22, v0_23, v0_24, v0_25, v0_26, v0_27, v0_28, v0_29, v0_30, v0_31, v0_32, v0_33, v0_34, v0_35, v0_36, .ref a1, v0_38, v0_39, v0_40, v0_41, v0_42, v0_43, v0_44, v0_45, v0_46, v0_47, v0_48, v0_49, v0_50, v0_51, v0_52, v0_53, v0_54, v0_55, v0_56, v0_57, v0_58, v0_59, v0_60, v0_61, .ref a2, .ref a3])), (a1, .inl (cy 0, 16, .inl zI)), (a2, .inl (cy 0, 48, .inl zI)), (a3, .inl (cy 3, 3, .inl zI))] H := hP
      have hD : va_D A [(a0, .inr (9, [v0_0, v0_1, v0_2, v0_3, v0_4, v0_5, v0_6, v0_7, v0_8, v0_9, v0_10, v0_11, v0_12, v0_13, v0_14, v0_15, v0_16, v0_17, v0_18, v0_19, v0_20, v0_21, v0_22, v0_23, v0_24, v0_25, v0_26, v0_27, v0_28, v0_29, v0_30, v0_31, v0_32, v0_33, v0_34, v0_35, v0_36, .ref a1, v0_38, v0_39, v0_40, v0_41, v0_42, v0_43, v0_44, v0_45, v0_46, v0_47, v0_48, v0_49, v0_50, v0_51, v0_52, v0_53, v0_54, v0_55, v0_56, v0_57, v0_58, v0_59, v0_60, v0_61, .ref a2, .ref a3])), (a1, .inl (cy 0, 16, .inl zI)), (a2, .inl (cy 0, 48, .inl zI)), (a3, .inl (cy 3, 3, .inl zI))] := hD
      refine lv_iinc (v := 10) (lv' := [(2, .int 10), (0, .ref a0), (1, .int 1)]) hx hb dX9_image_36 hl (k := 0) rfl (by decide) (by decide) rfl (fun ls hl => ?_)
      refine lv_goto (tgt := 13) hx hb dX9_image_39 (by decide) ?_
      refine lv_iload_n hx hb dX9_image_13 rfl (lv_at hl 0 rfl) ?_
      refine lv_bipush (v := 16) hx hb dX9_image_14 (by decide) ?_
      refine lv_icmp_ge (tgt := 42) hx hb dX9_image_16 (by decide) (fun c => absurd c (by decide)) (fun _ => ?_)
      refine lv_aload_n hx hb dX9_image_19 rfl (lv_at hl 1 rfl) ?_
      refine va_get (D := D) (cl := vwCl) (ci := 9) (v := .ref a2) (C := RX9) (T := TX9) (N := 64) hx hb hts in_X9_image_X9 hown hK hP 0 rfl rfl 62 (by decide) (hts (.fieldLink RX9 125 "EightReasonsModel" "boxAll" "[I") (List.mem_of_getElem? (i := 1) (by decide +kernel))) (fun _ h9 => h9) rfl dX9_image_20 ?_
      refine lv_bipush (v := 16) hx hb dX9_image_23 (by decide) ?_
      refine lv_iload_n hx hb dX9_image_25 rfl (lv_at hl 2 rfl) ?_
      refine lv_imul hx hb dX9_image_26 (tpi (v := 16) (by decide) ?_)
      refine lv_iload_n hx hb dX9_image_27 rfl (lv_at hl 0 rfl) ?_
      refine lv_iadd hx hb dX9_image_28 (tpi (v := 26) (by decide) ?_)
      refine lv_aload_n hx hb dX9_image_29 rfl (lv_at hl 1 rfl) ?_
      refine va_get (D := D) (cl := vwCl) (ci := 9) (v := .ref a1) (C := RX9) (T := TX9) (N := 64) hx hb hts in_X9_image_X9 hown hK hP 0 rfl rfl 37 (by decide) (hts (.fieldLink RX9 76 "EightReasonsModel" "all" "[I") (List.mem_of_getElem? (i := 2) (by decide +kernel))) (fun _ h9 => h9) rfl dX9_image_30 ?_
      refine lv_iload_n hx hb dX9_image_33 rfl (lv_at hl 0 rfl) ?_
      refine va_iald hx hb hK hP 1 0 rfl rfl (vin (by decide)) dX9_image_34 (tpi (v := 0) rfl ?_)
      refine va_iast hx hb hK hP hD hS 2 0 rfl rfl (vin (by decide)) dX9_image_35 (fun H locs hP hD hS => ?_)
      rw [zI_upd] at hP hD
      have hP : va_P D vwCl [(a0, .inr (9, [v0_0, v0_1, v0_2, v0_3, v0_4, v0_5, v0_6, v0_7, v0_8, v0_9, v0_10, v0_11, v0_12, v0_13, v0_14, v0_15, v0_16, v0_17, v0_18, v0_19, v0_20, v0_21, v0_22, v0_23, v0_24, v0_25, v0_26, v0_27, v0_28, v0_29, v0_30, v0_31, v0_32, v0_33, v0_34, v0_35, v0_36, .ref a1, v0_38, v0_39, v0_40, v0_41, v0_42, v0_43, v0_44, v0_45, v0_46, v0_47, v0_48, v0_49, v0_50, v0_51, v0_52, v0_53, v0_54, v0_55, v0_56, v0_57, v0_58, v0_59, v0_60, v0_61, .ref a2, .ref a3])), (a1, .inl (cy 0, 16, .inl zI)), (a2, .inl (cy 0, 48, .inl zI)), (a3, .inl (cy 3, 3, .inl zI))] H := hP
      have hD : va_D A [(a0, .inr (9, [v0_0, v0_1, v0_2, v0_3, v0_4, v0_5, v0_6, v0_7, v0_8, v0_9, v0_10, v0_11, v0_12, v0_13, v0_14, v0_15, v0_16, v0_17, v0_18, v0_19, v0_20, v0_21, v0_22, v0_23, v0_24, v0_25, v0_26, v0_27, v0_28, v0_29, v0_30, v0_31, v0_32, v0_33, v0_34, v0_35, v0_36, .ref a1, v0_38, v0_39, v0_40, v0_41, v0_42, v0_43, v0_44, v0_45, v0_46, v0_47, v0_48, v0_49, v0_50, v0_51, v0_52, v0_53, v0_54, v0_55, v0_56, v0_57, v0_58, v0_59, v0_60, v0_61, .ref a2, .ref a3])), (a1, .inl (cy 0, 16, .inl zI)), (a2, .inl (cy 0, 48, .inl zI)), (a3, .inl (cy 3, 3, .inl zI))] := hD
      refine lv_iinc (v := 11) (lv' := [(2, .int 11), (0, .ref a0), (1, .int 1)]) hx hb dX9_image_36 hl (k := 0) rfl (by decide) (by decide) rfl (fun ls hl => ?_)
      refine lv_goto (tgt := 13) hx hb dX9_image_39 (by decide) ?_
      refine lv_iload_n hx hb dX9_image_13 rfl (lv_at hl 0 rfl) ?_
      refine lv_bipush (v := 16) hx hb dX9_image_14 (by decide) ?_
      refine lv_icmp_ge (tgt := 42) hx hb dX9_image_16 (by decide) (fun c => absurd c (by decide)) (fun _ => ?_)
      refine lv_aload_n hx hb dX9_image_19 rfl (lv_at hl 1 rfl) ?_
      refine va_get (D := D) (cl := vwCl) (ci := 9) (v := .ref a2) (C := RX9) (T := TX9) (N := 64) hx hb hts in_X9_image_X9 hown hK hP 0 rfl rfl 62 (by decide) (hts (.fieldLink RX9 125 "EightReasonsModel" "boxAll" "[I") (List.mem_of_getElem? (i := 1) (by decide +kernel))) (fun _ h9 => h9) rfl dX9_image_20 ?_
      refine lv_bipush (v := 16) hx hb dX9_image_23 (by decide) ?_
      refine lv_iload_n hx hb dX9_image_25 rfl (lv_at hl 2 rfl) ?_
      refine lv_imul hx hb dX9_image_26 (tpi (v := 16) (by decide) ?_)
      refine lv_iload_n hx hb dX9_image_27 rfl (lv_at hl 0 rfl) ?_
      refine lv_iadd hx hb dX9_image_28 (tpi (v := 27) (by decide) ?_)
      refine lv_aload_n hx hb dX9_image_29 rfl (lv_at hl 1 rfl) ?_
      refine va_get (D := D) (cl := vwCl) (ci := 9) (v := .ref a1) (C := RX9) (T := TX9) (N := 64) hx hb hts in_X9_image_X9 hown hK hP 0 rfl rfl 37 (by decide) (hts (.fieldLink RX9 76 "EightReasonsModel" "all" "[I") (List.mem_of_getElem? (i := 2) (by decide +kernel))) (fun _ h9 => h9) rfl dX9_image_30 ?_
      refine lv_iload_n hx hb dX9_image_33 rfl (lv_at hl 0 rfl) ?_
      refine va_iald hx hb hK hP 1 0 rfl rfl (vin (by decide)) dX9_image_34 (tpi (v := 0) rfl ?_)
      refine va_iast hx hb hK hP hD hS 2 0 rfl rfl (vin (by decide)) dX9_image_35 (fun H locs hP hD hS => ?_)
      rw [zI_upd] at hP hD
      have hP : va_P D vwCl [(a0, .inr (9, [v0_0, v0_1, v0_2, v0_3, v0_4, v0_5, v0_6, v0_7, v0_8, v0_9, v0_10, v0_11, v0_12, v0_13, v0_14, v0_15, v0_16, v0_17, v0_18, v0_19, v0_20, v0_21, v0_22, v0_23, v0_24, v0_25, v0_26, v0_27, v0_28, v0_29, v0_30, v0_31, v0_32, v0_33, v0_34, v0_35, v0_36, .ref a1, v0_38, v0_39, v0_40, v0_41, v0_42, v0_43, v0_44, v0_45, v0_46, v0_47, v0_48, v0_49, v0_50, v0_51, v0_52, v0_53, v0_54, v0_55, v0_56, v0_57, v0_58, v0_59, v0_60, v0_61, .ref a2, .ref a3])), (a1, .inl (cy 0, 16, .inl zI)), (a2, .inl (cy 0, 48, .inl zI)), (a3, .inl (cy 3, 3, .inl zI))] H := hP
      have hD : va_D A [(a0, .inr (9, [v0_0, v0_1, v0_2, v0_3, v0_4, v0_5, v0_6, v0_7, v0_8, v0_9, v0_10, v0_11, v0_12, v0_13, v0_14, v0_15, v0_16, v0_17, v0_18, v0_19, v0_20, v0_21, v0_22, v0_23, v0_24, v0_25, v0_26, v0_27, v0_28, v0_29, v0_30, v0_31, v0_32, v0_33, v0_34, v0_35, v0_36, .ref a1, v0_38, v0_39, v0_40, v0_41, v0_42, v0_43, v0_44, v0_45, v0_46, v0_47, v0_48, v0_49, v0_50, v0_51, v0_52, v0_53, v0_54, v0_55, v0_56, v0_57, v0_58, v0_59, v0_60, v0_61, .ref a2, .ref a3])), (a1, .inl (cy 0, 16, .inl zI)), (a2, .inl (cy 0, 48, .inl zI)), (a3, .inl (cy 3, 3, .inl zI))] := hD
      refine lv_iinc (v := 12) (lv' := [(2, .int 12), (0, .ref a0), (1, .int 1)]) hx hb dX9_image_36 hl (k := 0) rfl (by decide) (by decide) rfl (fun ls hl => ?_)
      refine lv_goto (tgt := 13) hx hb dX9_image_39 (by decide) ?_
      refine lv_iload_n hx hb dX9_image_13 rfl (lv_at hl 0 rfl) ?_
      refine lv_bipush (v := 16) hx hb dX9_image_14 (by decide) ?_
      refine lv_icmp_ge (tgt := 42) hx hb dX9_image_16 (by decide) (fun c => absurd c (by decide)) (fun _ => ?_)
      refine lv_aload_n hx hb dX9_image_19 rfl (lv_at hl 1 rfl) ?_
      refine va_get (D := D) (cl := vwCl) (ci := 9) (v := .ref a2) (C := RX9) (T := TX9) (N := 64) hx hb hts in_X9_image_X9 hown hK hP 0 rfl rfl 62 (by decide) (hts (.fieldLink RX9 125 "EightReasonsModel" "boxAll" "[I") (List.mem_of_getElem? (i := 1) (by decide +kernel))) (fun _ h9 => h9) rfl dX9_image_20 ?_
      refine lv_bipush (v := 16) hx hb dX9_image_23 (by decide) ?_
      refine lv_iload_n hx hb dX9_image_25 rfl (lv_at hl 2 rfl) ?_
      refine lv_imul hx hb dX9_image_26 (tpi (v := 16) (by decide) ?_)
      refine lv_iload_n hx hb dX9_image_27 rfl (lv_at hl 0 rfl) ?_
      refine lv_iadd hx hb dX9_image_28 (tpi (v := 28) (by decide) ?_)
      refine lv_aload_n hx hb dX9_image_29 rfl (lv_at hl 1 rfl) ?_
      refine va_get (D := D) (cl := vwCl) (ci := 9) (v := .ref a1) (C := RX9) (T := TX9) (N := 64) hx hb hts in_X9_image_X9 hown hK hP 0 rfl rfl 37 (by decide) (hts (.fieldLink RX9 76 "EightReasonsModel" "all" "[I") (List.mem_of_getElem? (i := 2) (by decide +kernel))) (fun _ h9 => h9) rfl dX9_image_30 ?_
      refine lv_iload_n hx hb dX9_image_33 rfl (lv_at hl 0 rfl) ?_
      refine va_iald hx hb hK hP 1 0 rfl rfl (vin (by decide)) dX9_image_34 (tpi (v := 0) rfl ?_)
      refine va_iast hx hb hK hP hD hS 2 0 rfl rfl (vin (by decide)) dX9_image_35 (fun H locs hP hD hS => ?_)
      rw [zI_upd] at hP hD
      have hP : va_P D vwCl [(a0, .inr (9, [v0_0, v0_1, v0_2, v0_3, v0_4, v0_5, v0_6, v0_7, v0_8, v0_9, v0_10, v0_11, v0_12, v0_13, v0_14, v0_15, v0_16, v0_17, v0_18, v0_19, v0_20, v0_21, v0_22, v0_23, v0_24, v0_25, v0_26, v0_27, v0_28, v0_29, v0_30, v0_31, v0_32, v0_33, v0_34, v0_35, v0_36, .ref a1, v0_38, v0_39, v0_40, v0_41, v0_42, v0_43, v0_44, v0_45, v0_46, v0_47, v0_48, v0_49, v0_50, v0_51, v0_52, v0_53, v0_54, v0_55, v0_56, v0_57, v0_58, v0_59, v0_60, v0_61, .ref a2, .ref a3])), (a1, .inl (cy 0, 16, .inl zI)), (a2, .inl (cy 0, 48, .inl zI)), (a3, .inl (cy 3, 3, .inl zI))] H := hP
      have hD : va_D A [(a0, .inr (9, [v0_0, v0_1, v0_2, v0_3, v0_4, v0_5, v0_6, v0_7, v0_8, v0_9, v0_10, v0_11, v0_12, v0_13, v0_14, v0_15, v0_16, v0_17, v0_18, v0_19, v0_20, v0_21, v0_22, v0_23, v0_24, v0_25, v0_26, v0_27, v0_28, v0_29, v0_30, v0_31, v0_32, v0_33, v0_34, v0_35, v0_36, .ref a1, v0_38, v0_39, v0_40, v0_41, v0_42, v0_43, v0_44, v0_45, v0_46, v0_47, v0_48, v0_49, v0_50, v0_51, v0_52, v0_53, v0_54, v0_55, v0_56, v0_57, v0_58, v0_59, v0_60, v0_61, .ref a2, .ref a3])), (a1, .inl (cy 0, 16, .inl zI)), (a2, .inl (cy 0, 48, .inl zI)), (a3, .inl (cy 3, 3, .inl zI))] := hD
      refine lv_iinc (v := 13) (lv' := [(2, .int 13), (0, .ref a0), (1, .int 1)]) hx hb dX9_image_36 hl (k := 0) rfl (by decide) (by decide) rfl (fun ls hl => ?_)
      refine lv_goto (tgt := 13) hx hb dX9_image_39 (by decide) ?_
      refine lv_iload_n hx hb dX9_image_13 rfl (lv_at hl 0 rfl) ?_
      refine lv_bipush (v := 16) hx hb dX9_image_14 (by decide) ?_
      refine lv_icmp_ge (tgt := 42) hx hb dX9_image_16 (by decide) (fun c => absurd c (by decide)) (fun _ => ?_)
      refine lv_aload_n hx hb dX9_image_19 rfl (lv_at hl 1 rfl) ?_
      refine va_get (D := D) (cl := vwCl) (ci := 9) (v := .ref a2) (C := RX9) (T := TX9) (N := 64) hx hb hts in_X9_image_X9 hown hK hP 0 rfl rfl 62 (by decide) (hts (.fieldLink RX9 125 "EightReasonsModel" "boxAll" "[I") (List.mem_of_getElem? (i := 1) (by decide +kernel))) (fun _ h9 => h9) rfl dX9_image_20 ?_
      refine lv_bipush (v := 16) hx hb dX9_image_23 (by decide) ?_
      refine lv_iload_n hx hb dX9_image_25 rfl (lv_at hl 2 rfl) ?_
      refine lv_imul hx hb dX9_image_26 (tpi (v := 16) (by decide) ?_)
      refine lv_iload_n hx hb dX9_image_27 rfl (lv_at hl 0 rfl) ?_
      refine lv_iadd hx hb dX9_image_28 (tpi (v := 29) (by decide) ?_)
      refine lv_aload_n hx hb dX9_image_29 rfl (lv_at hl 1 rfl) ?_
      refine va_get (D := D) (cl := vwCl) (ci := 9) (v := .ref a1) (C := RX9) (T := TX9) (N := 64) hx hb hts in_X9_image_X9 hown hK hP 0 rfl rfl 37 (by decide) (hts (.fieldLink RX9 76 "EightReasonsModel" "all" "[I") (List.mem_of_getElem? (i := 2) (by decide +kernel))) (fun _ h9 => h9) rfl dX9_image_30 ?_
      refine lv_iload_n hx hb dX9_image_33 rfl (lv_at hl 0 rfl) ?_
      refine va_iald hx hb hK hP 1 0 rfl rfl (vin (by decide)) dX9_image_34 (tpi (v := 0) rfl ?_)
      refine va_iast hx hb hK hP hD hS 2 0 rfl rfl (vin (by decide)) dX9_image_35 (fun H locs hP hD hS => ?_)
      rw [zI_upd] at hP hD
      have hP : va_P D vwCl [(a0, .inr (9, [v0_0, v0_1, v0_2, v0_3, v0_4, v0_5, v0_6, v0_7, v0_8, v0_9, v0_10, v0_11, v0_12, v0_13, v0_14, v0_15, v0_16, v0_17, v0_18, v0_19, v0_20, v0_21, v0_22, v0_23, v0_24, v0_25, v0_26, v0_27, v0_28, v0_29, v0_30, v0_31, v0_32, v0_33, v0_34, v0_35, v0_36, .ref a1, v0_38, v0_39, v0_40, v0_41, v0_42, v0_43, v0_44, v0_45, v0_46, v0_47, v0_48, v0_49, v0_50, v0_51, v0_52, v0_53, v0_54, v0_55, v0_56, v0_57, v0_58, v0_59, v0_60, v0_61, .ref a2, .ref a3])), (a1, .inl (cy 0, 16, .inl zI)), (a2, .inl (cy 0, 48, .inl zI)), (a3, .inl (cy 3, 3, .inl zI))] H := hP
      have hD : va_D A [(a0, .inr (9, [v0_0, v0_1, v0_2, v0_3, v0_4, v0_5, v0_6, v0_7, v0_8, v0_9, v0_10, v0_11, v0_12, v0_13, v0_14, v0_15, v0_16, v0_17, v0_18, v0_19, v0_20, v0_21, v0_22, v0_23, v0_24, v0_25, v0_26, v0_27, v0_28, v0_29, v0_30, v0_31, v0_32, v0_33, v0_34, v0_35, v0_36, .ref a1, v0_38, v0_39, v0_40, v0_41, v0_42, v0_43, v0_44, v0_45, v0_46, v0_47, v0_48, v0_49, v0_50, v0_51, v0_52, v0_53, v0_54, v0_55, v0_56, v0_57, v0_58, v0_59, v0_60, v0_61, .ref a2, .ref a3])), (a1, .inl (cy 0, 16, .inl zI)), (a2, .inl (cy 0, 48, .inl zI)), (a3, .inl (cy 3, 3, .inl zI))] := hD
      refine lv_iinc (v := 14) (lv' := [(2, .int 14), (0, .ref a0), (1, .int 1)]) hx hb dX9_image_36 hl (k := 0) rfl (by decide) (by decide) rfl (fun ls hl => ?_)
      refine lv_goto (tgt := 13) hx hb dX9_image_39 (by decide) ?_
      refine lv_iload_n hx hb dX9_image_13 rfl (lv_at hl 0 rfl) ?_
      refine lv_bipush (v := 16) hx hb dX9_image_14 (by decide) ?_
      refine lv_icmp_ge (tgt := 42) hx hb dX9_image_16 (by decide) (fun c => absurd c (by decide)) (fun _ => ?_)
      refine lv_aload_n hx hb dX9_image_19 rfl (lv_at hl 1 rfl) ?_
      refine va_get (D := D) (cl := vwCl) (ci := 9) (v := .ref a2) (C := RX9) (T := TX9) (N := 64) hx hb hts in_X9_image_X9 hown hK hP 0 rfl rfl 62 (by decide) (hts (.fieldLink RX9 125 "EightReasonsModel" "boxAll" "[I") (List.mem_of_getElem? (i := 1) (by decide +kernel))) (fun _ h9 => h9) rfl dX9_image_20 ?_
      refine lv_bipush (v := 16) hx hb dX9_image_23 (by decide) ?_
      refine lv_iload_n hx hb dX9_image_25 rfl (lv_at hl 2 rfl) ?_
      refine lv_imul hx hb dX9_image_26 (tpi (v := 16) (by decide) ?_)
      refine lv_iload_n hx hb dX9_image_27 rfl (lv_at hl 0 rfl) ?_
      refine lv_iadd hx hb dX9_image_28 (tpi (v := 30) (by decide) ?_)
      refine lv_aload_n hx hb dX9_image_29 rfl (lv_at hl 1 rfl) ?_
      refine va_get (D := D) (cl := vwCl) (ci := 9) (v := .ref a1) (C := RX9) (T := TX9) (N := 64) hx hb hts in_X9_image_X9 hown hK hP 0 rfl rfl 37 (by decide) (hts (.fieldLink RX9 76 "EightReasonsModel" "all" "[I") (List.mem_of_getElem? (i := 2) (by decide +kernel))) (fun _ h9 => h9) rfl dX9_image_30 ?_
      refine lv_iload_n hx hb dX9_image_33 rfl (lv_at hl 0 rfl) ?_
      refine va_iald hx hb hK hP 1 0 rfl rfl (vin (by decide)) dX9_image_34 (tpi (v := 0) rfl ?_)
      refine va_iast hx hb hK hP hD hS 2 0 rfl rfl (vin (by decide)) dX9_image_35 (fun H locs hP hD hS => ?_)
      rw [zI_upd] at hP hD
      have hP : va_P D vwCl [(a0, .inr (9, [v0_0, v0_1, v0_2, v0_3, v0_4, v0_5, v0_6, v0_7, v0_8, v0_9, v0_10, v0_11, v0_12, v0_13, v0_14, v0_15, v0_16, v0_17, v0_18, v0_19, v0_20, v0_21, v0_22, v0_23, v0_24, v0_25, v0_26, v0_27, v0_28, v0_29, v0_30, v0_31, v0_32, v0_33, v0_34, v0_35, v0_36, .ref a1, v0_38, v0_39, v0_40, v0_41, v0_42, v0_43, v0_44, v0_45, v0_46, v0_47, v0_48, v0_49, v0_50, v0_51, v0_52, v0_53, v0_54, v0_55, v0_56, v0_57, v0_58, v0_59, v0_60, v0_61, .ref a2, .ref a3])), (a1, .inl (cy 0, 16, .inl zI)), (a2, .inl (cy 0, 48, .inl zI)), (a3, .inl (cy 3, 3, .inl zI))] H := hP
      have hD : va_D A [(a0, .inr (9, [v0_0, v0_1, v0_2, v0_3, v0_4, v0_5, v0_6, v0_7, v0_8, v0_9, v0_10, v0_11, v0_12, v0_13, v0_14, v0_15, v0_16, v0_17, v0_18, v0_19, v0_20, v0_21, v0_22, v0_23, v0_24, v0_25, v0_26, v0_27, v0_28, v0_29, v0_30, v0_31, v0_32, v0_33, v0_34, v0_35, v0_36, .ref a1, v0_38, v0_39, v0_40, v0_41, v0_42, v0_43, v0_44, v0_45, v0_46, v0_47, v0_48, v0_49, v0_50, v0_51, v0_52, v0_53, v0_54, v0_55, v0_56, v0_57, v0_58, v0_59, v0_60, v0_61, .ref a2, .ref a3])), (a1, .inl (cy 0, 16, .inl zI)), (a2, .inl (cy 0, 48, .inl zI)), (a3, .inl (cy 3, 3, .inl zI))] := hD
      refine lv_iinc (v := 15) (lv' := [(2, .int 15), (0, .ref a0), (1, .int 1)]) hx hb dX9_image_36 hl (k := 0) rfl (by decide) (by decide) rfl (fun ls hl => ?_)
      refine lv_goto (tgt := 13) hx hb dX9_image_39 (by decide) ?_
      refine lv_iload_n hx hb dX9_image_13 rfl (lv_at hl 0 rfl) ?_
      refine lv_bipush (v := 16) hx hb dX9_image_14 (by decide) ?_
      refine lv_icmp_ge (tgt := 42) hx hb dX9_image_16 (by decide) (fun c => absurd c (by decide)) (fun _ => ?_)
      refine lv_aload_n hx hb dX9_image_19 rfl (lv_at hl 1 rfl) ?_
      refine va_get (D := D) (cl := vwCl) (ci := 9) (v := .ref a2) (C := RX9) (T := TX9) (N := 64) hx hb hts in_X9_image_X9 hown hK hP 0 rfl rfl 62 (by decide) (hts (.fieldLink RX9 125 "EightReasonsModel" "boxAll" "[I") (List.mem_of_getElem? (i := 1) (by decide +kernel))) (fun _ h9 => h9) rfl dX9_image_20 ?_
      refine lv_bipush (v := 16) hx hb dX9_image_23 (by decide) ?_
      refine lv_iload_n hx hb dX9_image_25 rfl (lv_at hl 2 rfl) ?_
      refine lv_imul hx hb dX9_image_26 (tpi (v := 16) (by decide) ?_)
      refine lv_iload_n hx hb dX9_image_27 rfl (lv_at hl 0 rfl) ?_
      refine lv_iadd hx hb dX9_image_28 (tpi (v := 31) (by decide) ?_)
      refine lv_aload_n hx hb dX9_image_29 rfl (lv_at hl 1 rfl) ?_
      refine va_get (D := D) (cl := vwCl) (ci := 9) (v := .ref a1) (C := RX9) (T := TX9) (N := 64) hx hb hts in_X9_image_X9 hown hK hP 0 rfl rfl 37 (by decide) (hts (.fieldLink RX9 76 "EightReasonsModel" "all" "[I") (List.mem_of_getElem? (i := 2) (by decide +kernel))) (fun _ h9 => h9) rfl dX9_image_30 ?_
      refine lv_iload_n hx hb dX9_image_33 rfl (lv_at hl 0 rfl) ?_
      refine va_iald hx hb hK hP 1 0 rfl rfl (vin (by decide)) dX9_image_34 (tpi (v := 0) rfl ?_)
      refine va_iast hx hb hK hP hD hS 2 0 rfl rfl (vin (by decide)) dX9_image_35 (fun H locs hP hD hS => ?_)
      rw [zI_upd] at hP hD
      have hP : va_P D vwCl [(a0, .inr (9, [v0_0, v0_1, v0_2, v0_3, v0_4, v0_5, v0_6, v0_7, v0_8, v0_9, v0_10, v0_11, v0_12, v0_13, v0_14, v0_15, v0_16, v0_17, v0_18, v0_19, v0_20, v0_21, v0_22, v0_23, v0_24, v0_25, v0_26, v0_27, v0_28, v0_29, v0_30, v0_31, v0_32, v0_33, v0_34, v0_35, v0_36, .ref a1, v0_38, v0_39, v0_40, v0_41, v0_42, v0_43, v0_44, v0_45, v0_46, v0_47, v0_48, v0_49, v0_50, v0_51, v0_52, v0_53, v0_54, v0_55, v0_56, v0_57, v0_58, v0_59, v0_60, v0_61, .ref a2, .ref a3])), (a1, .inl (cy 0, 16, .inl zI)), (a2, .inl (cy 0, 48, .inl zI)), (a3, .inl (cy 3, 3, .inl zI))] H := hP
      have hD : va_D A [(a0, .inr (9, [v0_0, v0_1, v0_2, v0_3, v0_4, v0_5, v0_6, v0_7, v0_8, v0_9, v0_10, v0_11, v0_12, v0_13, v0_14, v0_15, v0_16, v0_17, v0_18, v0_19, v0_20, v0_21, v0_22, v0_23, v0_24, v0_25, v0_26, v0_27, v0_28, v0_29, v0_30, v0_31, v0_32, v0_33, v0_34, v0_35, v0_36, .ref a1, v0_38, v0_39, v0_40, v0_41, v0_42, v0_43, v0_44, v0_45, v0_46, v0_47, v0_48, v0_49, v0_50, v0_51, v0_52, v0_53, v0_54, v0_55, v0_56, v0_57, v0_58, v0_59, v0_60, v0_61, .ref a2, .ref a3])), (a1, .inl (cy 0, 16, .inl zI)), (a2, .inl (cy 0, 48, .inl zI)), (a3, .inl (cy 3, 3, .inl zI))] := hD
      refine lv_iinc (v := 16) (lv' := [(2, .int 16), (0, .ref a0), (1, .int 1)]) hx hb dX9_image_36 hl (k := 0) rfl (by decide) (by decide) rfl (fun ls hl => ?_)
      refine lv_goto (tgt := 13) hx hb dX9_image_39 (by decide) ?_
      refine lv_iload_n hx hb dX9_image_13 rfl (lv_at hl 0 rfl) ?_
      refine lv_bipush (v := 16) hx hb dX9_image_14 (by decide) ?_
      refine lv_icmp_ge (tgt := 42) hx hb dX9_image_16 (by decide) (fun _ => ?_) (fun c => absurd (by decide) c)
      refine lv_aload_n hx hb dX9_image_42 rfl (lv_at hl 1 rfl) ?_
      refine va_get (D := D) (cl := vwCl) (ci := 9) (v := .ref a3) (C := RX9) (T := TX9) (N := 64) hx hb hts in_X9_image_X9 hown hK hP 0 rfl rfl 63 (by decide) (hts (.fieldLink RX9 128 "EightReasonsModel" "isBoxed" "[Z") (List.mem_of_getElem? (i := 3) (by decide +kernel))) (fun _ h9 => h9) rfl dX9_image_43 ?_
      refine lv_iload_n hx hb dX9_image_46 rfl (lv_at hl 2 rfl) ?_
      refine lv_iconst (v := 1) hx hb dX9_image_47 (by decide) ?_
      refine va_zast hx hb hK hP hD hS 3 3 rfl rfl (vin (by decide)) dX9_image_48 (fun H locs hP hD hS => ?_)
      generalize hhg5 : upd zI (Int32.toNatClampNeg 1) (vp_nar .boolean 1) = g5 at hP hD
      have fg5_0 : g5 0 = 0 := by rw [← hhg5]; exact (pk_un (by decide)).trans (rfl : zI 0 = 0)
      have fg5_2 : g5 2 = 0 := by rw [← hhg5]; exact (pk_un (by decide)).trans (rfl : zI 2 = 0)
      have fg5_1 : g5 1 = 1 := by rw [← hhg5]; exact pk_us.trans (by decide)
      have hP : va_P D vwCl [(a0, .inr (9, [v0_0, v0_1, v0_2, v0_3, v0_4, v0_5, v0_6, v0_7, v0_8, v0_9, v0_10, v0_11, v0_12, v0_13, v0_14, v0_15, v0_16, v0_17, v0_18, v0_19, v0_20, v0_21, v0_22, v0_23, v0_24, v0_25, v0_26, v0_27, v0_28, v0_29, v0_30, v0_31, v0_32, v0_33, v0_34, v0_35, v0_36, .ref a1, v0_38, v0_39, v0_40, v0_41, v0_42, v0_43, v0_44, v0_45, v0_46, v0_47, v0_48, v0_49, v0_50, v0_51, v0_52, v0_53, v0_54, v0_55, v0_56, v0_57, v0_58, v0_59, v0_60, v0_61, .ref a2, .ref a3])), (a1, .inl (cy 0, 16, .inl zI)), (a2, .inl (cy 0, 48, .inl zI)), (a3, .inl (cy 3, 3, .inl g5))] H := hP
      have hD : va_D A [(a0, .inr (9, [v0_0, v0_1, v0_2, v0_3, v0_4, v0_5, v0_6, v0_7, v0_8, v0_9, v0_10, v0_11, v0_12, v0_13, v0_14, v0_15, v0_16, v0_17, v0_18, v0_19, v0_20, v0_21, v0_22, v0_23, v0_24, v0_25, v0_26, v0_27, v0_28, v0_29, v0_30, v0_31, v0_32, v0_33, v0_34, v0_35, v0_36, .ref a1, v0_38, v0_39, v0_40, v0_41, v0_42, v0_43, v0_44, v0_45, v0_46, v0_47, v0_48, v0_49, v0_50, v0_51, v0_52, v0_53, v0_54, v0_55, v0_56, v0_57, v0_58, v0_59, v0_60, v0_61, .ref a2, .ref a3])), (a1, .inl (cy 0, 16, .inl zI)), (a2, .inl (cy 0, 48, .inl zI)), (a3, .inl (cy 3, 3, .inl g5))] := hD
      refine lv_aload_n hx hb dX9_image_49 rfl (lv_at hl 1 rfl) ?_
      refine va_get (D := D) (cl := vwCl) (ci := 9) (v := .ref a1) (C := RX9) (T := TX9) (N := 64) hx hb hts in_X9_image_X9 hown hK hP 0 rfl rfl 37 (by decide) (hts (.fieldLink RX9 76 "EightReasonsModel" "all" "[I") (List.mem_of_getElem? (i := 2) (by decide +kernel))) (fun _ h9 => h9) rfl dX9_image_50 ?_
      refine lv_bipush (v := 14) hx hb dX9_image_53 (by decide) ?_
      refine va_iald hx hb hK hP 1 0 rfl rfl (vin (by decide)) dX9_image_55 (tpi (v := 0) rfl ?_)
      exact rtI hx hb hr hlk rfl hP hD hS () [] rfl rfl (Or.inr ⟨rfl, (Or.inr (Or.inl ⟨c2, rfl⟩))⟩) dX9_image_56
    · refine lv_iconst (v := 0) hx hb dX9_image_11 (by decide) ?_
      refine lv_istore_n (lv' := [(2, .int 0), (0, .ref a0), (1, .int 2)]) hx hb dX9_image_12 rfl hl (by decide) rfl (fun ls hl => ?_)
      refine lv_iload_n hx hb dX9_image_13 rfl (lv_at hl 0 rfl) ?_
      refine lv_bipush (v := 16) hx hb dX9_image_14 (by decide) ?_
      refine lv_icmp_ge (tgt := 42) hx hb dX9_image_16 (by decide) (fun c => absurd c (by decide)) (fun _ => ?_)
      refine lv_aload_n hx hb dX9_image_19 rfl (lv_at hl 1 rfl) ?_
      refine va_get (D := D) (cl := vwCl) (ci := 9) (v := .ref a2) (C := RX9) (T := TX9) (N := 64) hx hb hts in_X9_image_X9 hown hK hP 0 rfl rfl 62 (by decide) (hts (.fieldLink RX9 125 "EightReasonsModel" "boxAll" "[I") (List.mem_of_getElem? (i := 1) (by decide +kernel))) (fun _ h9 => h9) rfl dX9_image_20 ?_
      refine lv_bipush (v := 16) hx hb dX9_image_23 (by decide) ?_
      refine lv_iload_n hx hb dX9_image_25 rfl (lv_at hl 2 rfl) ?_
      refine lv_imul hx hb dX9_image_26 (tpi (v := 32) (by decide) ?_)
      refine lv_iload_n hx hb dX9_image_27 rfl (lv_at hl 0 rfl) ?_
      refine lv_iadd hx hb dX9_image_28 (tpi (v := 32) (by decide) ?_)
      refine lv_aload_n hx hb dX9_image_29 rfl (lv_at hl 1 rfl) ?_
      refine va_get (D := D) (cl := vwCl) (ci := 9) (v := .ref a1) (C := RX9) (T := TX9) (N := 64) hx hb hts in_X9_image_X9 hown hK hP 0 rfl rfl 37 (by decide) (hts (.fieldLink RX9 76 "EightReasonsModel" "all" "[I") (List.mem_of_getElem? (i := 2) (by decide +kernel))) (fun _ h9 => h9) rfl dX9_image_30 ?_
      refine lv_iload_n hx hb dX9_image_33 rfl (lv_at hl 0 rfl) ?_
      refine va_iald hx hb hK hP 1 0 rfl rfl (vin (by decide)) dX9_image_34 (tpi (v := 0) rfl ?_)
      refine va_iast hx hb hK hP hD hS 2 0 rfl rfl (vin (by decide)) dX9_image_35 (fun H locs hP hD hS => ?_)
      rw [zI_upd] at hP hD
      have hP : va_P D vwCl [(a0, .inr (9, [v0_0, v0_1, v0_2, v0_3, v0_4, v0_5, v0_6, v0_7, v0_8, v0_9, v0_10, v0_11, v0_12, v0_13, v0_14, v0_15, v0_16, v0_17, v0_18, v0_19, v0_20, v0_21, v0_22, v0_23, v0_24, v0_25, v0_26, v0_27, v0_28, v0_29, v0_30, v0_31, v0_32, v0_33, v0_34, v0_35, v0_36, .ref a1, v0_38, v0_39, v0_40, v0_41, v0_42, v0_43, v0_44, v0_45, v0_46, v0_47, v0_48, v0_49, v0_50, v0_51, v0_52, v0_53, v0_54, v0_55, v0_56, v0_57, v0_58, v0_59, v0_60, v0_61, .ref a2, .ref a3])), (a1, .inl (cy 0, 16, .inl zI)), (a2, .inl (cy 0, 48, .inl zI)), (a3, .inl (cy 3, 3, .inl zI))] H := hP
      have hD : va_D A [(a0, .inr (9, [v0_0, v0_1, v0_2, v0_3, v0_4, v0_5, v0_6, v0_7, v0_8, v0_9, v0_10, v0_11, v0_12, v0_13, v0_14, v0_15, v0_16, v0_17, v0_18, v0_19, v0_20, v0_21, v0_22, v0_23, v0_24, v0_25, v0_26, v0_27, v0_28, v0_29, v0_30, v0_31, v0_32, v0_33, v0_34, v0_35, v0_36, .ref a1, v0_38, v0_39, v0_40, v0_41, v0_42, v0_43, v0_44, v0_45, v0_46, v0_47, v0_48, v0_49, v0_50, v0_51, v0_52, v0_53, v0_54, v0_55, v0_56, v0_57, v0_58, v0_59, v0_60, v0_61, .ref a2, .ref a3])), (a1, .inl (cy 0, 16, .inl zI)), (a2, .inl (cy 0, 48, .inl zI)), (a3, .inl (cy 3, 3, .inl zI))] := hD
      refine lv_iinc (v := 1) (lv' := [(2, .int 1), (0, .ref a0), (1, .int 2)]) hx hb dX9_image_36 hl (k := 0) rfl (by decide) (by decide) rfl (fun ls hl => ?_)
      refine lv_goto (tgt := 13) hx hb dX9_image_39 (by decide) ?_
      refine lv_iload_n hx hb dX9_image_13 rfl (lv_at hl 0 rfl) ?_
      refine lv_bipush (v := 16) hx hb dX9_image_14 (by decide) ?_
      refine lv_icmp_ge (tgt := 42) hx hb dX9_image_16 (by decide) (fun c => absurd c (by decide)) (fun _ => ?_)
      refine lv_aload_n hx hb dX9_image_19 rfl (lv_at hl 1 rfl) ?_
      refine va_get (D := D) (cl := vwCl) (ci := 9) (v := .ref a2) (C := RX9) (T := TX9) (N := 64) hx hb hts in_X9_image_X9 hown hK hP 0 rfl rfl 62 (by decide) (hts (.fieldLink RX9 125 "EightReasonsModel" "boxAll" "[I") (List.mem_of_getElem? (i := 1) (by decide +kernel))) (fun _ h9 => h9) rfl dX9_image_20 ?_
      refine lv_bipush (v := 16) hx hb dX9_image_23 (by decide) ?_
      refine lv_iload_n hx hb dX9_image_25 rfl (lv_at hl 2 rfl) ?_
      refine lv_imul hx hb dX9_image_26 (tpi (v := 32) (by decide) ?_)
      refine lv_iload_n hx hb dX9_image_27 rfl (lv_at hl 0 rfl) ?_
      refine lv_iadd hx hb dX9_image_28 (tpi (v := 33) (by decide) ?_)
      refine lv_aload_n hx hb dX9_image_29 rfl (lv_at hl 1 rfl) ?_
      refine va_get (D := D) (cl := vwCl) (ci := 9) (v := .ref a1) (C := RX9) (T := TX9) (N := 64) hx hb hts in_X9_image_X9 hown hK hP 0 rfl rfl 37 (by decide) (hts (.fieldLink RX9 76 "EightReasonsModel" "all" "[I") (List.mem_of_getElem? (i := 2) (by decide +kernel))) (fun _ h9 => h9) rfl dX9_image_30 ?_
      refine lv_iload_n hx hb dX9_image_33 rfl (lv_at hl 0 rfl) ?_
      refine va_iald hx hb hK hP 1 0 rfl rfl (vin (by decide)) dX9_image_34 (tpi (v := 0) rfl ?_)
      refine va_iast hx hb hK hP hD hS 2 0 rfl rfl (vin (by decide)) dX9_image_35 (fun H locs hP hD hS => ?_)
      rw [zI_upd] at hP hD
      have hP : va_P D vwCl [(a0, .inr (9, [v0_0, v0_1, v0_2, v0_3, v0_4, v0_5, v0_6, v0_7, v0_8, v0_9, v0_10, v0_11, v0_12, v0_13, v0_14, v0_15, v0_16, v0_17, v0_18, v0_19, v0_20, v0_21, v0_22, v0_23, v0_24, v0_25, v0_26, v0_27, v0_28, v0_29, v0_30, v0_31, v0_32, v0_33, v0_34, v0_35, v0_36, .ref a1, v0_38, v0_39, v0_40, v0_41, v0_42, v0_43, v0_44, v0_45, v0_46, v0_47, v0_48, v0_49, v0_50, v0_51, v0_52, v0_53, v0_54, v0_55, v0_56, v0_57, v0_58, v0_59, v0_60, v0_61, .ref a2, .ref a3])), (a1, .inl (cy 0, 16, .inl zI)), (a2, .inl (cy 0, 48, .inl zI)), (a3, .inl (cy 3, 3, .inl zI))] H := hP
      have hD : va_D A [(a0, .inr (9, [v0_0, v0_1, v0_2, v0_3, v0_4, v0_5, v0_6, v0_7, v0_8, v0_9, v0_10, v0_11, v0_12, v0_13, v0_14, v0_15, v0_16, v0_17, v0_18, v0_19, v0_20, v0_21, v0_22, v0_23, v0_24, v0_25, v0_26, v0_27, v0_28, v0_29, v0_30, v0_31, v0_32, v0_33, v0_34, v0_35, v0_36, .ref a1, v0_38, v0_39, v0_40, v0_41, v0_42, v0_43, v0_44, v0_45, v0_46, v0_47, v0_48, v0_49, v0_50, v0_51, v0_52, v0_53, v0_54, v0_55, v0_56, v0_57, v0_58, v0_59, v0_60, v0_61, .ref a2, .ref a3])), (a1, .inl (cy 0, 16, .inl zI)), (a2, .inl (cy 0, 48, .inl zI)), (a3, .inl (cy 3, 3, .inl zI))] := hD
      refine lv_iinc (v := 2) (lv' := [(2, .int 2), (0, .ref a0), (1, .int 2)]) hx hb dX9_image_36 hl (k := 0) rfl (by decide) (by decide) rfl (fun ls hl => ?_)
      refine lv_goto (tgt := 13) hx hb dX9_image_39 (by decide) ?_
      refine lv_iload_n hx hb dX9_image_13 rfl (lv_at hl 0 rfl) ?_
      refine lv_bipush (v := 16) hx hb dX9_image_14 (by decide) ?_
      refine lv_icmp_ge (tgt := 42) hx hb dX9_image_16 (by decide) (fun c => absurd c (by decide)) (fun _ => ?_)
      refine lv_aload_n hx hb dX9_image_19 rfl (lv_at hl 1 rfl) ?_
      refine va_get (D := D) (cl := vwCl) (ci := 9) (v := .ref a2) (C := RX9) (T := TX9) (N := 64) hx hb hts in_X9_image_X9 hown hK hP 0 rfl rfl 62 (by decide) (hts (.fieldLink RX9 125 "EightReasonsModel" "boxAll" "[I") (List.mem_of_getElem? (i := 1) (by decide +kernel))) (fun _ h9 => h9) rfl dX9_image_20 ?_
      refine lv_bipush (v := 16) hx hb dX9_image_23 (by decide) ?_
      refine lv_iload_n hx hb dX9_image_25 rfl (lv_at hl 2 rfl) ?_
      refine lv_imul hx hb dX9_image_26 (tpi (v := 32) (by decide) ?_)
      refine lv_iload_n hx hb dX9_image_27 rfl (lv_at hl 0 rfl) ?_
      refine lv_iadd hx hb dX9_image_28 (tpi (v := 34) (by decide) ?_)
      refine lv_aload_n hx hb dX9_image_29 rfl (lv_at hl 1 rfl) ?_
      refine va_get (D := D) (cl := vwCl) (ci := 9) (v := .ref a1) (C := RX9) (T := TX9) (N := 64) hx hb hts in_X9_image_X9 hown hK hP 0 rfl rfl 37 (by decide) (hts (.fieldLink RX9 76 "EightReasonsModel" "all" "[I") (List.mem_of_getElem? (i := 2) (by decide +kernel))) (fun _ h9 => h9) rfl dX9_image_30 ?_
      refine lv_iload_n hx hb dX9_image_33 rfl (lv_at hl 0 rfl) ?_
      refine va_iald hx hb hK hP 1 0 rfl rfl (vin (by decide)) dX9_image_34 (tpi (v := 0) rfl ?_)
      refine va_iast hx hb hK hP hD hS 2 0 rfl rfl (vin (by decide)) dX9_image_35 (fun H locs hP hD hS => ?_)
      rw [zI_upd] at hP hD
      have hP : va_P D vwCl [(a0, .inr (9, [v0_0, v0_1, v0_2, v0_3, v0_4, v0_5, v0_6, v0_7, v0_8, v0_9, v0_10, v0_11, v0_12, v0_13, v0_14, v0_15, v0_16, v0_17, v0_18, v0_19, v0_20, v0_21, v0_22, v0_23, v0_24, v0_25, v0_26, v0_27, v0_28, v0_29, v0_30, v0_31, v0_32, v0_33, v0_34, v0_35, v0_36, .ref a1, v0_38, v0_39, v0_40, v0_41, v0_42, v0_43, v0_44, v0_45, v0_46, v0_47, v0_48, v0_49, v0_50, v0_51, v0_52, v0_53, v0_54, v0_55, v0_56, v0_57, v0_58, v0_59, v0_60, v0_61, .ref a2, .ref a3])), (a1, .inl (cy 0, 16, .inl zI)), (a2, .inl (cy 0, 48, .inl zI)), (a3, .inl (cy 3, 3, .inl zI))] H := hP
      have hD : va_D A [(a0, .inr (9, [v0_0, v0_1, v0_2, v0_3, v0_4, v0_5, v0_6, v0_7, v0_8, v0_9, v0_10, v0_11, v0_12, v0_13, v0_14, v0_15, v0_16, v0_17, v0_18, v0_19, v0_20, v0_21, v0_22, v0_23, v0_24, v0_25, v0_26, v0_27, v0_28, v0_29, v0_30, v0_31, v0_32, v0_33, v0_34, v0_35, v0_36, .ref a1, v0_38, v0_39, v0_40, v0_41, v0_42, v0_43, v0_44, v0_45, v0_46, v0_47, v0_48, v0_49, v0_50, v0_51, v0_52, v0_53, v0_54, v0_55, v0_56, v0_57, v0_58, v0_59, v0_60, v0_61, .ref a2, .ref a3])), (a1, .inl (cy 0, 16, .inl zI)), (a2, .inl (cy 0, 48, .inl zI)), (a3, .inl (cy 3, 3, .inl zI))] := hD
      refine lv_iinc (v := 3) (lv' := [(2, .int 3), (0, .ref a0), (1, .int 2)]) hx hb dX9_image_36 hl (k := 0) rfl (by decide) (by decide) rfl (fun ls hl => ?_)
      refine lv_goto (tgt := 13) hx hb dX9_image_39 (by decide) ?_
      refine lv_iload_n hx hb dX9_image_13 rfl (lv_at hl 0 rfl) ?_
      refine lv_bipush (v := 16) hx hb dX9_image_14 (by decide) ?_
      refine lv_icmp_ge (tgt := 42) hx hb dX9_image_16 (by decide) (fun c => absurd c (by decide)) (fun _ => ?_)
      refine lv_aload_n hx hb dX9_image_19 rfl (lv_at hl 1 rfl) ?_
      refine va_get (D := D) (cl := vwCl) (ci := 9) (v := .ref a2) (C := RX9) (T := TX9) (N := 64) hx hb hts in_X9_image_X9 hown hK hP 0 rfl rfl 62 (by decide) (hts (.fieldLink RX9 125 "EightReasonsModel" "boxAll" "[I") (List.mem_of_getElem? (i := 1) (by decide +kernel))) (fun _ h9 => h9) rfl dX9_image_20 ?_
      refine lv_bipush (v := 16) hx hb dX9_image_23 (by decide) ?_
      refine lv_iload_n hx hb dX9_image_25 rfl (lv_at hl 2 rfl) ?_
      refine lv_imul hx hb dX9_image_26 (tpi (v := 32) (by decide) ?_)
      refine lv_iload_n hx hb dX9_image_27 rfl (lv_at hl 0 rfl) ?_
      refine lv_iadd hx hb dX9_image_28 (tpi (v := 35) (by decide) ?_)
      refine lv_aload_n hx hb dX9_image_29 rfl (lv_at hl 1 rfl) ?_
      refine va_get (D := D) (cl := vwCl) (ci := 9) (v := .ref a1) (C := RX9) (T := TX9) (N := 64) hx hb hts in_X9_image_X9 hown hK hP 0 rfl rfl 37 (by decide) (hts (.fieldLink RX9 76 "EightReasonsModel" "all" "[I") (List.mem_of_getElem? (i := 2) (by decide +kernel))) (fun _ h9 => h9) rfl dX9_image_30 ?_
      refine lv_iload_n hx hb dX9_image_33 rfl (lv_at hl 0 rfl) ?_
      refine va_iald hx hb hK hP 1 0 rfl rfl (vin (by decide)) dX9_image_34 (tpi (v := 0) rfl ?_)
      refine va_iast hx hb hK hP hD hS 2 0 rfl rfl (vin (by decide)) dX9_image_35 (fun H locs hP hD hS => ?_)
      rw [zI_upd] at hP hD
      have hP : va_P D vwCl [(a0, .inr (9, [v0_0, v0_1, v0_2, v0_3, v0_4, v0_5, v0_6, v0_7, v0_8, v0_9, v0_10, v0_11, v0_12, v0_13, v0_14, v0_15, v0_16, v0_17, v0_18, v0_19, v0_20, v0_21, v0_22, v0_23, v0_24, v0_25, v0_26, v0_27, v0_28, v0_29, v0_30, v0_31, v0_32, v0_33, v0_34, v0_35, v0_36, .ref a1, v0_38, v0_39, v0_40, v0_41, v0_42, v0_43, v0_44, v0_45, v0_46, v0_47, v0_48, v0_49, v0_50, v0_51, v0_52, v0_53, v0_54, v0_55, v0_56, v0_57, v0_58, v0_59, v0_60, v0_61, .ref a2, .ref a3])), (a1, .inl (cy 0, 16, .inl zI)), (a2, .inl (cy 0, 48, .inl zI)), (a3, .inl (cy 3, 3, .inl zI))] H := hP
      have hD : va_D A [(a0, .inr (9, [v0_0, v0_1, v0_2, v0_3, v0_4, v0_5, v0_6, v0_7, v0_8, v0_9, v0_10, v0_11, v0_12, v0_13, v0_14, v0_15, v0_16, v0_17, v0_18, v0_19, v0_20, v0_21, v0_22, v0_23, v0_24, v0_25, v0_26, v0_27, v0_28, v0_29, v0_30, v0_31, v0_32, v0_33, v0_34, v0_35, v0_36, .ref a1, v0_38, v0_39, v0_40, v0_41, v0_42, v0_43, v0_44, v0_45, v0_46, v0_47, v0_48, v0_49, v0_50, v0_51, v0_52, v0_53, v0_54, v0_55, v0_56, v0_57, v0_58, v0_59, v0_60, v0_61, .ref a2, .ref a3])), (a1, .inl (cy 0, 16, .inl zI)), (a2, .inl (cy 0, 48, .inl zI)), (a3, .inl (cy 3, 3, .inl zI))] := hD
      refine lv_iinc (v := 4) (lv' := [(2, .int 4), (0, .ref a0), (1, .int 2)]) hx hb dX9_image_36 hl (k := 0) rfl (by decide) (by decide) rfl (fun ls hl => ?_)
      refine lv_goto (tgt := 13) hx hb dX9_image_39 (by decide) ?_
      refine lv_iload_n hx hb dX9_image_13 rfl (lv_at hl 0 rfl) ?_
      refine lv_bipush (v := 16) hx hb dX9_image_14 (by decide) ?_
      refine lv_icmp_ge (tgt := 42) hx hb dX9_image_16 (by decide) (fun c => absurd c (by decide)) (fun _ => ?_)
      refine lv_aload_n hx hb dX9_image_19 rfl (lv_at hl 1 rfl) ?_
      refine va_get (D := D) (cl := vwCl) (ci := 9) (v := .ref a2) (C := RX9) (T := TX9) (N := 64) hx hb hts in_X9_image_X9 hown hK hP 0 rfl rfl 62 (by decide) (hts (.fieldLink RX9 125 "EightReasonsModel" "boxAll" "[I") (List.mem_of_getElem? (i := 1) (by decide +kernel))) (fun _ h9 => h9) rfl dX9_image_20 ?_
      refine lv_bipush (v := 16) hx hb dX9_image_23 (by decide) ?_
      refine lv_iload_n hx hb dX9_image_25 rfl (lv_at hl 2 rfl) ?_
      refine lv_imul hx hb dX9_image_26 (tpi (v := 32) (by decide) ?_)
      refine lv_iload_n hx hb dX9_image_27 rfl (lv_at hl 0 rfl) ?_
      refine lv_iadd hx hb dX9_image_28 (tpi (v := 36) (by decide) ?_)
      refine lv_aload_n hx hb dX9_image_29 rfl (lv_at hl 1 rfl) ?_
      refine va_get (D := D) (cl := vwCl) (ci := 9) (v := .ref a1) (C := RX9) (T := TX9) (N := 64) hx hb hts in_X9_image_X9 hown hK hP 0 rfl rfl 37 (by decide) (hts (.fieldLink RX9 76 "EightReasonsModel" "all" "[I") (List.mem_of_getElem? (i := 2) (by decide +kernel))) (fun _ h9 => h9) rfl dX9_image_30 ?_
      refine lv_iload_n hx hb dX9_image_33 rfl (lv_at hl 0 rfl) ?_
      refine va_iald hx hb hK hP 1 0 rfl rfl (vin (by decide)) dX9_image_34 (tpi (v := 0) rfl ?_)
      refine va_iast hx hb hK hP hD hS 2 0 rfl rfl (vin (by decide)) dX9_image_35 (fun H locs hP hD hS => ?_)
      rw [zI_upd] at hP hD
      have hP : va_P D vwCl [(a0, .inr (9, [v0_0, v0_1, v0_2, v0_3, v0_4, v0_5, v0_6, v0_7, v0_8, v0_9, v0_10, v0_11, v0_12, v0_13, v0_14, v0_15, v0_16, v0_17, v0_18, v0_19, v0_20, v0_21, v0_22, v0_23, v0_24, v0_25, v0_26, v0_27, v0_28, v0_29, v0_30, v0_31, v0_32, v0_33, v0_34, v0_35, v0_36, .ref a1, v0_38, v0_39, v0_40, v0_41, v0_42, v0_43, v0_44, v0_45, v0_46, v0_47, v0_48, v0_49, v0_50, v0_51, v0_52, v0_53, v0_54, v0_55, v0_56, v0_57, v0_58, v0_59, v0_60, v0_61, .ref a2, .ref a3])), (a1, .inl (cy 0, 16, .inl zI)), (a2, .inl (cy 0, 48, .inl zI)), (a3, .inl (cy 3, 3, .inl zI))] H := hP
      have hD : va_D A [(a0, .inr (9, [v0_0, v0_1, v0_2, v0_3, v0_4, v0_5, v0_6, v0_7, v0_8, v0_9, v0_10, v0_11, v0_12, v0_13, v0_14, v0_15, v0_16, v0_17, v0_18, v0_19, v0_20, v0_21, v0_22, v0_23, v0_24, v0_25, v0_26, v0_27, v0_28, v0_29, v0_30, v0_31, v0_32, v0_33, v0_34, v0_35, v0_36, .ref a1, v0_38, v0_39, v0_40, v0_41, v0_42, v0_43, v0_44, v0_45, v0_46, v0_47, v0_48, v0_49, v0_50, v0_51, v0_52, v0_53, v0_54, v0_55, v0_56, v0_57, v0_58, v0_59, v0_60, v0_61, .ref a2, .ref a3])), (a1, .inl (cy 0, 16, .inl zI)), (a2, .inl (cy 0, 48, .inl zI)), (a3, .inl (cy 3, 3, .inl zI))] := hD
      refine lv_iinc (v := 5) (lv' := [(2, .int 5), (0, .ref a0), (1, .int 2)]) hx hb dX9_image_36 hl (k := 0) rfl (by decide) (by decide) rfl (fun ls hl => ?_)
      refine lv_goto (tgt := 13) hx hb dX9_image_39 (by decide) ?_
      refine lv_iload_n hx hb dX9_image_13 rfl (lv_at hl 0 rfl) ?_
      refine lv_bipush (v := 16) hx hb dX9_image_14 (by decide) ?_
      refine lv_icmp_ge (tgt := 42) hx hb dX9_image_16 (by decide) (fun c => absurd c (by decide)) (fun _ => ?_)
      refine lv_aload_n hx hb dX9_image_19 rfl (lv_at hl 1 rfl) ?_
      refine va_get (D := D) (cl := vwCl) (ci := 9) (v := .ref a2) (C := RX9) (T := TX9) (N := 64) hx hb hts in_X9_image_X9 hown hK hP 0 rfl rfl 62 (by decide) (hts (.fieldLink RX9 125 "EightReasonsModel" "boxAll" "[I") (List.mem_of_getElem? (i := 1) (by decide +kernel))) (fun _ h9 => h9) rfl dX9_image_20 ?_
      refine lv_bipush (v := 16) hx hb dX9_image_23 (by decide) ?_
      refine lv_iload_n hx hb dX9_image_25 rfl (lv_at hl 2 rfl) ?_
      refine lv_imul hx hb dX9_image_26 (tpi (v := 32) (by decide) ?_)
      refine lv_iload_n hx hb dX9_image_27 rfl (lv_at hl 0 rfl) ?_
      refine lv_iadd hx hb dX9_image_28 (tpi (v := 37) (by decide) ?_)
      refine lv_aload_n hx hb dX9_image_29 rfl (lv_at hl 1 rfl) ?_
      refine va_get (D := D) (cl := vwCl) (ci := 9) (v := .ref a1) (C := RX9) (T := TX9) (N := 64) hx hb hts in_X9_image_X9 hown hK hP 0 rfl rfl 37 (by decide) (hts (.fieldLink RX9 76 "EightReasonsModel" "all" "[I") (List.mem_of_getElem? (i := 2) (by decide +kernel))) (fun _ h9 => h9) rfl dX9_image_30 ?_
      refine lv_iload_n hx hb dX9_image_33 rfl (lv_at hl 0 rfl) ?_
      refine va_iald hx hb hK hP 1 0 rfl rfl (vin (by decide)) dX9_image_34 (tpi (v := 0) rfl ?_)
      refine va_iast hx hb hK hP hD hS 2 0 rfl rfl (vin (by decide)) dX9_image_35 (fun H locs hP hD hS => ?_)
      rw [zI_upd] at hP hD
      have hP : va_P D vwCl [(a0, .inr (9, [v0_0, v0_1, v0_2, v0_3, v0_4, v0_5, v0_6, v0_7, v0_8, v0_9, v0_10, v0_11, v0_12, v0_13, v0_14, v0_15, v0_16, v0_17, v0_18, v0_19, v0_20, v0_21, v0_22, v0_23, v0_24, v0_25, v0_26, v0_27, v0_28, v0_29, v0_30, v0_31, v0_32, v0_33, v0_34, v0_35, v0_36, .ref a1, v0_38, v0_39, v0_40, v0_41, v0_42, v0_43, v0_44, v0_45, v0_46, v0_47, v0_48, v0_49, v0_50, v0_51, v0_52, v0_53, v0_54, v0_55, v0_56, v0_57, v0_58, v0_59, v0_60, v0_61, .ref a2, .ref a3])), (a1, .inl (cy 0, 16, .inl zI)), (a2, .inl (cy 0, 48, .inl zI)), (a3, .inl (cy 3, 3, .inl zI))] H := hP
      have hD : va_D A [(a0, .inr (9, [v0_0, v0_1, v0_2, v0_3, v0_4, v0_5, v0_6, v0_7, v0_8, v0_9, v0_10, v0_11, v0_12, v0_13, v0_14, v0_15, v0_16, v0_17, v0_18, v0_19, v0_20, v0_21, v0_22, v0_23, v0_24, v0_25, v0_26, v0_27, v0_28, v0_29, v0_30, v0_31, v0_32, v0_33, v0_34, v0_35, v0_36, .ref a1, v0_38, v0_39, v0_40, v0_41, v0_42, v0_43, v0_44, v0_45, v0_46, v0_47, v0_48, v0_49, v0_50, v0_51, v0_52, v0_53, v0_54, v0_55, v0_56, v0_57, v0_58, v0_59, v0_60, v0_61, .ref a2, .ref a3])), (a1, .inl (cy 0, 16, .inl zI)), (a2, .inl (cy 0, 48, .inl zI)), (a3, .inl (cy 3, 3, .inl zI))] := hD
      refine lv_iinc (v := 6) (lv' := [(2, .int 6), (0, .ref a0), (1, .int 2)]) hx hb dX9_image_36 hl (k := 0) rfl (by decide) (by decide) rfl (fun ls hl => ?_)
      refine lv_goto (tgt := 13) hx hb dX9_image_39 (by decide) ?_
      refine lv_iload_n hx hb dX9_image_13 rfl (lv_at hl 0 rfl) ?_
      refine lv_bipush (v := 16) hx hb dX9_image_14 (by decide) ?_
      refine lv_icmp_ge (tgt := 42) hx hb dX9_image_16 (by decide) (fun c => absurd c (by decide)) (fun _ => ?_)
      refine lv_aload_n hx hb dX9_image_19 rfl (lv_at hl 1 rfl) ?_
      refine va_get (D := D) (cl := vwCl) (ci := 9) (v := .ref a2) (C := RX9) (T := TX9) (N := 64) hx hb hts in_X9_image_X9 hown hK hP 0 rfl rfl 62 (by decide) (hts (.fieldLink RX9 125 "EightReasonsModel" "boxAll" "[I") (List.mem_of_getElem? (i := 1) (by decide +kernel))) (fun _ h9 => h9) rfl dX9_image_20 ?_
      refine lv_bipush (v := 16) hx hb dX9_image_23 (by decide) ?_
      refine lv_iload_n hx hb dX9_image_25 rfl (lv_at hl 2 rfl) ?_
      refine lv_imul hx hb dX9_image_26 (tpi (v := 32) (by decide) ?_)
      refine lv_iload_n hx hb dX9_image_27 rfl (lv_at hl 0 rfl) ?_
      refine lv_iadd hx hb dX9_image_28 (tpi (v := 38) (by decide) ?_)
      refine lv_aload_n hx hb dX9_image_29 rfl (lv_at hl 1 rfl) ?_
      refine va_get (D := D) (cl := vwCl) (ci := 9) (v := .ref a1) (C := RX9) (T := TX9) (N := 64) hx hb hts in_X9_image_X9 hown hK hP 0 rfl rfl 37 (by decide) (hts (.fieldLink RX9 76 "EightReasonsModel" "all" "[I") (List.mem_of_getElem? (i := 2) (by decide +kernel))) (fun _ h9 => h9) rfl dX9_image_30 ?_
      refine lv_iload_n hx hb dX9_image_33 rfl (lv_at hl 0 rfl) ?_
      refine va_iald hx hb hK hP 1 0 rfl rfl (vin (by decide)) dX9_image_34 (tpi (v := 0) rfl ?_)
      refine va_iast hx hb hK hP hD hS 2 0 rfl rfl (vin (by decide)) dX9_image_35 (fun H locs hP hD hS => ?_)
      rw [zI_upd] at hP hD
      have hP : va_P D vwCl [(a0, .inr (9, [v0_0, v0_1, v0_2, v0_3, v0_4, v0_5, v0_6, v0_7, v0_8, v0_9, v0_10, v0_11, v0_12, v0_13, v0_14, v0_15, v0_16, v0_17, v0_18, v0_19, v0_20, v0_21, v0_22, v0_23, v0_24, v0_25, v0_26, v0_27, v0_28, v0_29, v0_30, v0_31, v0_32, v0_33, v0_34, v0_35, v0_36, .ref a1, v0_38, v0_39, v0_40, v0_41, v0_42, v0_43, v0_44, v0_45, v0_46, v0_47, v0_48, v0_49, v0_50, v0_51, v0_52, v0_53, v0_54, v0_55, v0_56, v0_57, v0_58, v0_59, v0_60, v0_61, .ref a2, .ref a3])), (a1, .inl (cy 0, 16, .inl zI)), (a2, .inl (cy 0, 48, .inl zI)), (a3, .inl (cy 3, 3, .inl zI))] H := hP
      have hD : va_D A [(a0, .inr (9, [v0_0, v0_1, v0_2, v0_3, v0_4, v0_5, v0_6, v0_7, v0_8, v0_9, v0_10, v0_11, v0_12, v0_13, v0_14, v0_15, v0_16, v0_17, v0_18, v0_19, v0_20, v0_21, v0_22, v0_23, v0_24, v0_25, v0_26, v0_27, v0_28, v0_29, v0_30, v0_31, v0_32, v0_33, v0_34, v0_35, v0_36, .ref a1, v0_38, v0_39, v0_40, v0_41, v0_42, v0_43, v0_44, v0_45, v0_46, v0_47, v0_48, v0_49, v0_50, v0_51, v0_52, v0_53, v0_54, v0_55, v0_56, v0_57, v0_58, v0_59, v0_60, v0_61, .ref a2, .ref a3])), (a1, .inl (cy 0, 16, .inl zI)), (a2, .inl (cy 0, 48, .inl zI)), (a3, .inl (cy 3, 3, .inl zI))] := hD
      refine lv_iinc (v := 7) (lv' := [(2, .int 7), (0, .ref a0), (1, .int 2)]) hx hb dX9_image_36 hl (k := 0) rfl (by decide) (by decide) rfl (fun ls hl => ?_)
      refine lv_goto (tgt := 13) hx hb dX9_image_39 (by decide) ?_
      refine lv_iload_n hx hb dX9_image_13 rfl (lv_at hl 0 rfl) ?_
      refine lv_bipush (v := 16) hx hb dX9_image_14 (by decide) ?_
      refine lv_icmp_ge (tgt := 42) hx hb dX9_image_16 (by decide) (fun c => absurd c (by decide)) (fun _ => ?_)
      refine lv_aload_n hx hb dX9_image_19 rfl (lv_at hl 1 rfl) ?_
      refine va_get (D := D) (cl := vwCl) (ci := 9) (v := .ref a2) (C := RX9) (T := TX9) (N := 64) hx hb hts in_X9_image_X9 hown hK hP 0 rfl rfl 62 (by decide) (hts (.fieldLink RX9 125 "EightReasonsModel" "boxAll" "[I") (List.mem_of_getElem? (i := 1) (by decide +kernel))) (fun _ h9 => h9) rfl dX9_image_20 ?_
      refine lv_bipush (v := 16) hx hb dX9_image_23 (by decide) ?_
      refine lv_iload_n hx hb dX9_image_25 rfl (lv_at hl 2 rfl) ?_
      refine lv_imul hx hb dX9_image_26 (tpi (v := 32) (by decide) ?_)
      refine lv_iload_n hx hb dX9_image_27 rfl (lv_at hl 0 rfl) ?_
      refine lv_iadd hx hb dX9_image_28 (tpi (v := 39) (by decide) ?_)
      refine lv_aload_n hx hb dX9_image_29 rfl (lv_at hl 1 rfl) ?_
      refine va_get (D := D) (cl := vwCl) (ci := 9) (v := .ref a1) (C := RX9) (T := TX9) (N := 64) hx hb hts in_X9_image_X9 hown hK hP 0 rfl rfl 37 (by decide) (hts (.fieldLink RX9 76 "EightReasonsModel" "all" "[I") (List.mem_of_getElem? (i := 2) (by decide +kernel))) (fun _ h9 => h9) rfl dX9_image_30 ?_
      refine lv_iload_n hx hb dX9_image_33 rfl (lv_at hl 0 rfl) ?_
      refine va_iald hx hb hK hP 1 0 rfl rfl (vin (by decide)) dX9_image_34 (tpi (v := 0) rfl ?_)
      refine va_iast hx hb hK hP hD hS 2 0 rfl rfl (vin (by decide)) dX9_image_35 (fun H locs hP hD hS => ?_)
      rw [zI_upd] at hP hD
      have hP : va_P D vwCl [(a0, .inr (9, [v0_0, v0_1, v0_2, v0_3, v0_4, v0_5, v0_6, v0_7, v0_8, v0_9, v0_10, v0_11, v0_12, v0_13, v0_14, v0_15, v0_16, v0_17, v0_18, v0_19, v0_20, v0_21, v0_22, v0_23, v0_24, v0_25, v0_26, v0_27, v0_28, v0_29, v0_30, v0_31, v0_32, v0_33, v0_34, v0_35, v0_36, .ref a1, v0_38, v0_39, v0_40, v0_41, v0_42, v0_43, v0_44, v0_45, v0_46, v0_47, v0_48, v0_49, v0_50, v0_51, v0_52, v0_53, v0_54, v0_55, v0_56, v0_57, v0_58, v0_59, v0_60, v0_61, .ref a2, .ref a3])), (a1, .inl (cy 0, 16, .inl zI)), (a2, .inl (cy 0, 48, .inl zI)), (a3, .inl (cy 3, 3, .inl zI))] H := hP
      have hD : va_D A [(a0, .inr (9, [v0_0, v0_1, v0_2, v0_3, v0_4, v0_5, v0_6, v0_7, v0_8, v0_9, v0_10, v0_11, v0_12, v0_13, v0_14, v0_15, v0_16, v0_17, v0_18, v0_19, v0_20, v0_21, v0_22, v0_23, v0_24, v0_25, v0_26, v0_27, v0_28, v0_29, v0_30, v0_31, v0_32, v0_33, v0_34, v0_35, v0_36, .ref a1, v0_38, v0_39, v0_40, v0_41, v0_42, v0_43, v0_44, v0_45, v0_46, v0_47, v0_48, v0_49, v0_50, v0_51, v0_52, v0_53, v0_54, v0_55, v0_56, v0_57, v0_58, v0_59, v0_60, v0_61, .ref a2, .ref a3])), (a1, .inl (cy 0, 16, .inl zI)), (a2, .inl (cy 0, 48, .inl zI)), (a3, .inl (cy 3, 3, .inl zI))] := hD
      refine lv_iinc (v := 8) (lv' := [(2, .int 8), (0, .ref a0), (1, .int 2)]) hx hb dX9_image_36 hl (k := 0) rfl (by decide) (by decide) rfl (fun ls hl => ?_)
      refine lv_goto (tgt := 13) hx hb dX9_image_39 (by decide) ?_
      refine lv_iload_n hx hb dX9_image_13 rfl (lv_at hl 0 rfl) ?_
      refine lv_bipush (v := 16) hx hb dX9_image_14 (by decide) ?_
      refine lv_icmp_ge (tgt := 42) hx hb dX9_image_16 (by decide) (fun c => absurd c (by decide)) (fun _ => ?_)
      refine lv_aload_n hx hb dX9_image_19 rfl (lv_at hl 1 rfl) ?_
      refine va_get (D := D) (cl := vwCl) (ci := 9) (v := .ref a2) (C := RX9) (T := TX9) (N := 64) hx hb hts in_X9_image_X9 hown hK hP 0 rfl rfl 62 (by decide) (hts (.fieldLink RX9 125 "EightReasonsModel" "boxAll" "[I") (List.mem_of_getElem? (i := 1) (by decide +kernel))) (fun _ h9 => h9) rfl dX9_image_20 ?_
      refine lv_bipush (v := 16) hx hb dX9_image_23 (by decide) ?_
      refine lv_iload_n hx hb dX9_image_25 rfl (lv_at hl 2 rfl) ?_
      refine lv_imul hx hb dX9_image_26 (tpi (v := 32) (by decide) ?_)
      refine lv_iload_n hx hb dX9_image_27 rfl (lv_at hl 0 rfl) ?_
      refine lv_iadd hx hb dX9_image_28 (tpi (v := 40) (by decide) ?_)
      refine lv_aload_n hx hb dX9_image_29 rfl (lv_at hl 1 rfl) ?_
      refine va_get (D := D) (cl := vwCl) (ci := 9) (v := .ref a1) (C := RX9) (T := TX9) (N := 64) hx hb hts in_X9_image_X9 hown hK hP 0 rfl rfl 37 (by decide) (hts (.fieldLink RX9 76 "EightReasonsModel" "all" "[I") (List.mem_of_getElem? (i := 2) (by decide +kernel))) (fun _ h9 => h9) rfl dX9_image_30 ?_
      refine lv_iload_n hx hb dX9_image_33 rfl (lv_at hl 0 rfl) ?_
      refine va_iald hx hb hK hP 1 0 rfl rfl (vin (by decide)) dX9_image_34 (tpi (v := 0) rfl ?_)
      refine va_iast hx hb hK hP hD hS 2 0 rfl rfl (vin (by decide)) dX9_image_35 (fun H locs hP hD hS => ?_)
      rw [zI_upd] at hP hD
      have hP : va_P D vwCl [(a0, .inr (9, [v0_0, v0_1, v0_2, v0_3, v0_4, v0_5, v0_6, v0_7, v0_8, v0_9, v0_10, v0_11, v0_12, v0_13, v0_14, v0_15, v0_16, v0_17, v0_18, v0_19, v0_20, v0_21, v0_22, v0_23, v0_24, v0_25, v0_26, v0_27, v0_28, v0_29, v0_30, v0_31, v0_32, v0_33, v0_34, v0_35, v0_36, .ref a1, v0_38, v0_39, v0_40, v0_41, v0_42, v0_43, v0_44, v0_45, v0_46, v0_47, v0_48, v0_49, v0_50, v0_51, v0_52, v0_53, v0_54, v0_55, v0_56, v0_57, v0_58, v0_59, v0_60, v0_61, .ref a2, .ref a3])), (a1, .inl (cy 0, 16, .inl zI)), (a2, .inl (cy 0, 48, .inl zI)), (a3, .inl (cy 3, 3, .inl zI))] H := hP
      have hD : va_D A [(a0, .inr (9, [v0_0, v0_1, v0_2, v0_3, v0_4, v0_5, v0_6, v0_7, v0_8, v0_9, v0_10, v0_11, v0_12, v0_13, v0_14, v0_15, v0_16, v0_17, v0_18, v0_19, v0_20, v0_21, v0_22, v0_23, v0_24, v0_25, v0_26, v0_27, v0_28, v0_29, v0_30, v0_31, v0_32, v0_33, v0_34, v0_35, v0_36, .ref a1, v0_38, v0_39, v0_40, v0_41, v0_42, v0_43, v0_44, v0_45, v0_46, v0_47, v0_48, v0_49, v0_50, v0_51, v0_52, v0_53, v0_54, v0_55, v0_56, v0_57, v0_58, v0_59, v0_60, v0_61, .ref a2, .ref a3])), (a1, .inl (cy 0, 16, .inl zI)), (a2, .inl (cy 0, 48, .inl zI)), (a3, .inl (cy 3, 3, .inl zI))] := hD
      refine lv_iinc (v := 9) (lv' := [(2, .int 9), (0, .ref a0), (1, .int 2)]) hx hb dX9_image_36 hl (k := 0) rfl (by decide) (by decide) rfl (fun ls hl => ?_)
      refine lv_goto (tgt := 13) hx hb dX9_image_39 (by decide) ?_
      refine lv_iload_n hx hb dX9_image_13 rfl (lv_at hl 0 rfl) ?_
      refine lv_bipush (v := 16) hx hb dX9_image_14 (by decide) ?_
      refine lv_icmp_ge (tgt := 42) hx hb dX9_image_16 (by decide) (fun c => absurd c (by decide)) (fun _ => ?_)
      refine lv_aload_n hx hb dX9_image_19 rfl (lv_at hl 1 rfl) ?_
      refine va_get (D := D) (cl := vwCl) (ci := 9) (v := .ref a2) (C := RX9) (T := TX9) (N := 64) hx hb hts in_X9_image_X9 hown hK hP 0 rfl rfl 62 (by decide) (hts (.fieldLink RX9 125 "EightReasonsModel" "boxAll" "[I") (List.mem_of_getElem? (i := 1) (by decide +kernel))) (fun _ h9 => h9) rfl dX9_image_20 ?_
      refine lv_bipush (v := 16) hx hb dX9_image_23 (by decide) ?_
      refine lv_iload_n hx hb dX9_image_25 rfl (lv_at hl 2 rfl) ?_
      refine lv_imul hx hb dX9_image_26 (tpi (v := 32) (by decide) ?_)
      refine lv_iload_n hx hb dX9_image_27 rfl (lv_at hl 0 rfl) ?_
      refine lv_iadd hx hb dX9_image_28 (tpi (v := 41) (by decide) ?_)
      refine lv_aload_n hx hb dX9_image_29 rfl (lv_at hl 1 rfl) ?_
      refine va_get (D := D) (cl := vwCl) (ci := 9) (v := .ref a1) (C := RX9) (T := TX9) (N := 64) hx hb hts in_X9_image_X9 hown hK hP 0 rfl rfl 37 (by decide) (hts (.fieldLink RX9 76 "EightReasonsModel" "all" "[I") (List.mem_of_getElem? (i := 2) (by decide +kernel))) (fun _ h9 => h9) rfl dX9_image_30 ?_
      refine lv_iload_n hx hb dX9_image_33 rfl (lv_at hl 0 rfl) ?_
      refine va_iald hx hb hK hP 1 0 rfl rfl (vin (by decide)) dX9_image_34 (tpi (v := 0) rfl ?_)
      refine va_iast hx hb hK hP hD hS 2 0 rfl rfl (vin (by decide)) dX9_image_35 (fun H locs hP hD hS => ?_)
      rw [zI_upd] at hP hD
      have hP : va_P D vwCl [(a0, .inr (9, [v0_0, v0_1, v0_2, v0_3, v0_4, v0_5, v0_6, v0_7, v0_8, v0_9, v0_10, v0_11, v0_12, v0_13, v0_14, v0_15, v0_16, v0_17, v0_18, v0_19, v0_20, v0_21, v0_22, v0_23, v0_24, v0_25, v0_26, v0_27, v0_28, v0_29, v0_30, v0_31, v0_32, v0_33, v0_34, v0_35, v0_36, .ref a1, v0_38, v0_39, v0_40, v0_41, v0_42, v0_43, v0_44, v0_45, v0_46, v0_47, v0_48, v0_49, v0_50, v0_51, v0_52, v0_53, v0_54, v0_55, v0_56, v0_57, v0_58, v0_59, v0_60, v0_61, .ref a2, .ref a3])), (a1, .inl (cy 0, 16, .inl zI)), (a2, .inl (cy 0, 48, .inl zI)), (a3, .inl (cy 3, 3, .inl zI))] H := hP
      have hD : va_D A [(a0, .inr (9, [v0_0, v0_1, v0_2, v0_3, v0_4, v0_5, v0_6, v0_7, v0_8, v0_9, v0_10, v0_11, v0_12, v0_13, v0_14, v0_15, v0_16, v0_17, v0_18, v0_19, v0_20, v0_21, v0_22, v0_23, v0_24, v0_25, v0_26, v0_27, v0_28, v0_29, v0_30, v0_31, v0_32, v0_33, v0_34, v0_35, v0_36, .ref a1, v0_38, v0_39, v0_40, v0_41, v0_42, v0_43, v0_44, v0_45, v0_46, v0_47, v0_48, v0_49, v0_50, v0_51, v0_52, v0_53, v0_54, v0_55, v0_56, v0_57, v0_58, v0_59, v0_60, v0_61, .ref a2, .ref a3])), (a1, .inl (cy 0, 16, .inl zI)), (a2, .inl (cy 0, 48, .inl zI)), (a3, .inl (cy 3, 3, .inl zI))] := hD
      refine lv_iinc (v := 10) (lv' := [(2, .int 10), (0, .ref a0), (1, .int 2)]) hx hb dX9_image_36 hl (k := 0) rfl (by decide) (by decide) rfl (fun ls hl => ?_)
      refine lv_goto (tgt := 13) hx hb dX9_image_39 (by decide) ?_
      refine lv_iload_n hx hb dX9_image_13 rfl (lv_at hl 0 rfl) ?_
      refine lv_bipush (v := 16) hx hb dX9_image_14 (by decide) ?_
      refine lv_icmp_ge (tgt := 42) hx hb dX9_image_16 (by decide) (fun c => absurd c (by decide)) (fun _ => ?_)
      refine lv_aload_n hx hb dX9_image_19 rfl (lv_at hl 1 rfl) ?_
      refine va_get (D := D) (cl := vwCl) (ci := 9) (v := .ref a2) (C := RX9) (T := TX9) (N := 64) hx hb hts in_X9_image_X9 hown hK hP 0 rfl rfl 62 (by decide) (hts (.fieldLink RX9 125 "EightReasonsModel" "boxAll" "[I") (List.mem_of_getElem? (i := 1) (by decide +kernel))) (fun _ h9 => h9) rfl dX9_image_20 ?_
      refine lv_bipush (v := 16) hx hb dX9_image_23 (by decide) ?_
      refine lv_iload_n hx hb dX9_image_25 rfl (lv_at hl 2 rfl) ?_
      refine lv_imul hx hb dX9_image_26 (tpi (v := 32) (by decide) ?_)
      refine lv_iload_n hx hb dX9_image_27 rfl (lv_at hl 0 rfl) ?_
      refine lv_iadd hx hb dX9_image_28 (tpi (v := 42) (by decide) ?_)
      refine lv_aload_n hx hb dX9_image_29 rfl (lv_at hl 1 rfl) ?_
      refine va_get (D := D) (cl := vwCl) (ci := 9) (v := .ref a1) (C := RX9) (T := TX9) (N := 64) hx hb hts in_X9_image_X9 hown hK hP 0 rfl rfl 37 (by decide) (hts (.fieldLink RX9 76 "EightReasonsModel" "all" "[I") (List.mem_of_getElem? (i := 2) (by decide +kernel))) (fun _ h9 => h9) rfl dX9_image_30 ?_
      refine lv_iload_n hx hb dX9_image_33 rfl (lv_at hl 0 rfl) ?_
      refine va_iald hx hb hK hP 1 0 rfl rfl (vin (by decide)) dX9_image_34 (tpi (v := 0) rfl ?_)
      refine va_iast hx hb hK hP hD hS 2 0 rfl rfl (vin (by decide)) dX9_image_35 (fun H locs hP hD hS => ?_)
      rw [zI_upd] at hP hD
      have hP : va_P D vwCl [(a0, .inr (9, [v0_0, v0_1, v0_2, v0_3, v0_4, v0_5, v0_6, v0_7, v0_8, v0_9, v0_10, v0_11, v0_12, v0_13, v0_14, v0_15, v0_16, v0_17, v0_18, v0_19, v0_20, v0_21, v0_22, v0_23, v0_24, v0_25, v0_26, v0_27, v0_28, v0_29, v0_30, v0_31, v0_32, v0_33, v0_34, v0_35, v0_36, .ref a1, v0_38, v0_39, v0_40, v0_41, v0_42, v0_43, v0_44, v0_45, v0_46, v0_47, v0_48, v0_49, v0_50, v0_51, v0_52, v0_53, v0_54, v0_55, v0_56, v0_57, v0_58, v0_59, v0_60, v0_61, .ref a2, .ref a3])), (a1, .inl (cy 0, 16, .inl zI)), (a2, .inl (cy 0, 48, .inl zI)), (a3, .inl (cy 3, 3, .inl zI))] H := hP
      have hD : va_D A [(a0, .inr (9, [v0_0, v0_1, v0_2, v0_3, v0_4, v0_5, v0_6, v0_7, v0_8, v0_9, v0_10, v0_11, v0_12, v0_13, v0_14, v0_15, v0_16, v0_17, v0_18, v0_19, v0_20, v0_21, v0_22, v0_23, v0_24, v0_25, v0_26, v0_27, v0_28, v0_29, v0_30, v0_31, v0_32, v0_33, v0_34, v0_35, v0_36, .ref a1, v0_38, v0_39, v0_40, v0_41, v0_42, v0_43, v0_44, v0_45, v0_46, v0_47, v0_48, v0_49, v0_50, v0_51, v0_52, v0_53, v0_54, v0_55, v0_56, v0_57, v0_58, v0_59, v0_60, v0_61, .ref a2, .ref a3])), (a1, .inl (cy 0, 16, .inl zI)), (a2, .inl (cy 0, 48, .inl zI)), (a3, .inl (cy 3, 3, .inl zI))] := hD
      refine lv_iinc (v := 11) (lv' := [(2, .int 11), (0, .ref a0), (1, .int 2)]) hx hb dX9_image_36 hl (k := 0) rfl (by decide) (by decide) rfl (fun ls hl => ?_)
      refine lv_goto (tgt := 13) hx hb dX9_image_39 (by decide) ?_
      refine lv_iload_n hx hb dX9_image_13 rfl (lv_at hl 0 rfl) ?_
      refine lv_bipush (v := 16) hx hb dX9_image_14 (by decide) ?_
      refine lv_icmp_ge (tgt := 42) hx hb dX9_image_16 (by decide) (fun c => absurd c (by decide)) (fun _ => ?_)
      refine lv_aload_n hx hb dX9_image_19 rfl (lv_at hl 1 rfl) ?_
      refine va_get (D := D) (cl := vwCl) (ci := 9) (v := .ref a2) (C := RX9) (T := TX9) (N := 64) hx hb hts in_X9_image_X9 hown hK hP 0 rfl rfl 62 (by decide) (hts (.fieldLink RX9 125 "EightReasonsModel" "boxAll" "[I") (List.mem_of_getElem? (i := 1) (by decide +kernel))) (fun _ h9 => h9) rfl dX9_image_20 ?_
      refine lv_bipush (v := 16) hx hb dX9_image_23 (by decide) ?_
      refine lv_iload_n hx hb dX9_image_25 rfl (lv_at hl 2 rfl) ?_
      refine lv_imul hx hb dX9_image_26 (tpi (v := 32) (by decide) ?_)
      refine lv_iload_n hx hb dX9_image_27 rfl (lv_at hl 0 rfl) ?_
      refine lv_iadd hx hb dX9_image_28 (tpi (v := 43) (by decide) ?_)
      refine lv_aload_n hx hb dX9_image_29 rfl (lv_at hl 1 rfl) ?_
      refine va_get (D := D) (cl := vwCl) (ci := 9) (v := .ref a1) (C := RX9) (T := TX9) (N := 64) hx hb hts in_X9_image_X9 hown hK hP 0 rfl rfl 37 (by decide) (hts (.fieldLink RX9 76 "EightReasonsModel" "all" "[I") (List.mem_of_getElem? (i := 2) (by decide +kernel))) (fun _ h9 => h9) rfl dX9_image_30 ?_
      refine lv_iload_n hx hb dX9_image_33 rfl (lv_at hl 0 rfl) ?_
      refine va_iald hx hb hK hP 1 0 rfl rfl (vin (by decide)) dX9_image_34 (tpi (v := 0) rfl ?_)
      refine va_iast hx hb hK hP hD hS 2 0 rfl rfl (vin (by decide)) dX9_image_35 (fun H locs hP hD hS => ?_)
      rw [zI_upd] at hP hD
      have hP : va_P D vwCl [(a0, .inr (9, [v0_0, v0_1, v0_2, v0_3, v0_4, v0_5, v0_6, v0_7, v0_8, v0_9, v0_10, v0_11, v0_12, v0_13, v0_14, v0_15, v0_16, v0_17, v0_18, v0_19, v0_20, v0_21, v0_22, v0_23, v0_24, v0_25, v0_26, v0_27, v0_28, v0_29, v0_30, v0_31, v0_32, v0_33, v0_34, v0_35, v0_36, .ref a1, v0_38, v0_39, v0_40, v0_41, v0_42, v0_43, v0_44, v0_45, v0_46, v0_47, v0_48, v0_49, v0_50, v0_51, v0_52, v0_53, v0_54, v0_55, v0_56, v0_57, v0_58, v0_59, v0_60, v0_61, .ref a2, .ref a3])), (a1, .inl (cy 0, 16, .inl zI)), (a2, .inl (cy 0, 48, .inl zI)), (a3, .inl (cy 3, 3, .inl zI))] H := hP
      have hD : va_D A [(a0, .inr (9, [v0_0, v0_1, v0_2, v0_3, v0_4, v0_5, v0_6, v0_7, v0_8, v0_9, v0_10, v0_11, v0_12, v0_13, v0_14, v0_15, v0_16, v0_17, v0_18, v0_19, v0_20, v0_21, v0_22, v0_23, v0_24, v0_25, v0_26, v0_27, v0_28, v0_29, v0_30, v0_31, v0_32, v0_33, v0_34, v0_35, v0_36, .ref a1, v0_38, v0_39, v0_40, v0_41, v0_42, v0_43, v0_44, v0_45, v0_46, v0_47, v0_48, v0_49, v0_50, v0_51, v0_52, v0_53, v0_54, v0_55, v0_56, v0_57, v0_58, v0_59, v0_60, v0_61, .ref a2, .ref a3])), (a1, .inl (cy 0, 16, .inl zI)), (a2, .inl (cy 0, 48, .inl zI)), (a3, .inl (cy 3, 3, .inl zI))] := hD
      refine lv_iinc (v := 12) (lv' := [(2, .int 12), (0, .ref a0), (1, .int 2)]) hx hb dX9_image_36 hl (k := 0) rfl (by decide) (by decide) rfl (fun ls hl => ?_)
      refine lv_goto (tgt := 13) hx hb dX9_image_39 (by decide) ?_
      refine lv_iload_n hx hb dX9_image_13 rfl (lv_at hl 0 rfl) ?_
      refine lv_bipush (v := 16) hx hb dX9_image_14 (by decide) ?_
      refine lv_icmp_ge (tgt := 42) hx hb dX9_image_16 (by decide) (fun c => absurd c (by decide)) (fun _ => ?_)
      refine lv_aload_n hx hb dX9_image_19 rfl (lv_at hl 1 rfl) ?_
      refine va_get (D := D) (cl := vwCl) (ci := 9) (v := .ref a2) (C := RX9) (T := TX9) (N := 64) hx hb hts in_X9_image_X9 hown hK hP 0 rfl rfl 62 (by decide) (hts (.fieldLink RX9 125 "EightReasonsModel" "boxAll" "[I") (List.mem_of_getElem? (i := 1) (by decide +kernel))) (fun _ h9 => h9) rfl dX9_image_20 ?_
      refine lv_bipush (v := 16) hx hb dX9_image_23 (by decide) ?_
      refine lv_iload_n hx hb dX9_image_25 rfl (lv_at hl 2 rfl) ?_
      refine lv_imul hx hb dX9_image_26 (tpi (v := 32) (by decide) ?_)
      refine lv_iload_n hx hb dX9_image_27 rfl (lv_at hl 0 rfl) ?_
      refine lv_iadd hx hb dX9_image_28 (tpi (v := 44) (by decide) ?_)
      refine lv_aload_n hx hb dX9_image_29 rfl (lv_at hl 1 rfl) ?_
      refine va_get (D := D) (cl := vwCl) (ci := 9) (v := .ref a1) (C := RX9) (T := TX9) (N := 64) hx hb hts in_X9_image_X9 hown hK hP 0 rfl rfl 37 (by decide) (hts (.fieldLink RX9 76 "EightReasonsModel" "all" "[I") (List.mem_of_getElem? (i := 2) (by decide +kernel))) (fun _ h9 => h9) rfl dX9_image_30 ?_
      refine lv_iload_n hx hb dX9_image_33 rfl (lv_at hl 0 rfl) ?_
      refine va_iald hx hb hK hP 1 0 rfl rfl (vin (by decide)) dX9_image_34 (tpi (v := 0) rfl ?_)
      refine va_iast hx hb hK hP hD hS 2 0 rfl rfl (vin (by decide)) dX9_image_35 (fun H locs hP hD hS => ?_)
      rw [zI_upd] at hP hD
      have hP : va_P D vwCl [(a0, .inr (9, [v0_0, v0_1, v0_2, v0_3, v0_4, v0_5, v0_6, v0_7, v0_8, v0_9, v0_10, v0_11, v0_12, v0_13, v0_14, v0_15, v0_16, v0_17, v0_18, v0_19, v0_20, v0_21, v0_22, v0_23, v0_24, v0_25, v0_26, v0_27, v0_28, v0_29, v0_30, v0_31, v0_32, v0_33, v0_34, v0_35, v0_36, .ref a1, v0_38, v0_39, v0_40, v0_41, v0_42, v0_43, v0_44, v0_45, v0_46, v0_47, v0_48, v0_49, v0_50, v0_51, v0_52, v0_53, v0_54, v0_55, v0_56, v0_57, v0_58, v0_59, v0_60, v0_61, .ref a2, .ref a3])), (a1, .inl (cy 0, 16, .inl zI)), (a2, .inl (cy 0, 48, .inl zI)), (a3, .inl (cy 3, 3, .inl zI))] H := hP
      have hD : va_D A [(a0, .inr (9, [v0_0, v0_1, v0_2, v0_3, v0_4, v0_5, v0_6, v0_7, v0_8, v0_9, v0_10, v0_11, v0_12, v0_13, v0_14, v0_15, v0_16, v0_17, v0_18, v0_19, v0_20, v0_21, v0_22, v0_23, v0_24, v0_25, v0_26, v0_27, v0_28, v0_29, v0_30, v0_31, v0_32, v0_33, v0_34, v0_35, v0_36, .ref a1, v0_38, v0_39, v0_40, v0_41, v0_42, v0_43, v0_44, v0_45, v0_46, v0_47, v0_48, v0_49, v0_50, v0_51, v0_52, v0_53, v0_54, v0_55, v0_56, v0_57, v0_58, v0_59, v0_60, v0_61, .ref a2, .ref a3])), (a1, .inl (cy 0, 16, .inl zI)), (a2, .inl (cy 0, 48, .inl zI)), (a3, .inl (cy 3, 3, .inl zI))] := hD
      refine lv_iinc (v := 13) (lv' := [(2, .int 13), (0, .ref a0), (1, .int 2)]) hx hb dX9_image_36 hl (k := 0) rfl (by decide) (by decide) rfl (fun ls hl => ?_)
      refine lv_goto (tgt := 13) hx hb dX9_image_39 (by decide) ?_
      refine lv_iload_n hx hb dX9_image_13 rfl (lv_at hl 0 rfl) ?_
      refine lv_bipush (v := 16) hx hb dX9_image_14 (by decide) ?_
      refine lv_icmp_ge (tgt := 42) hx hb dX9_image_16 (by decide) (fun c => absurd c (by decide)) (fun _ => ?_)
      refine lv_aload_n hx hb dX9_image_19 rfl (lv_at hl 1 rfl) ?_
      refine va_get (D := D) (cl := vwCl) (ci := 9) (v := .ref a2) (C := RX9) (T := TX9) (N := 64) hx hb hts in_X9_image_X9 hown hK hP 0 rfl rfl 62 (by decide) (hts (.fieldLink RX9 125 "EightReasonsModel" "boxAll" "[I") (List.mem_of_getElem? (i := 1) (by decide +kernel))) (fun _ h9 => h9) rfl dX9_image_20 ?_
      refine lv_bipush (v := 16) hx hb dX9_image_23 (by decide) ?_
      refine lv_iload_n hx hb dX9_image_25 rfl (lv_at hl 2 rfl) ?_
      refine lv_imul hx hb dX9_image_26 (tpi (v := 32) (by decide) ?_)
      refine lv_iload_n hx hb dX9_image_27 rfl (lv_at hl 0 rfl) ?_
      refine lv_iadd hx hb dX9_image_28 (tpi (v := 45) (by decide) ?_)
      refine lv_aload_n hx hb dX9_image_29 rfl (lv_at hl 1 rfl) ?_
      refine va_get (D := D) (cl := vwCl) (ci := 9) (v := .ref a1) (C := RX9) (T := TX9) (N := 64) hx hb hts in_X9_image_X9 hown hK hP 0 rfl rfl 37 (by decide) (hts (.fieldLink RX9 76 "EightReasonsModel" "all" "[I") (List.mem_of_getElem? (i := 2) (by decide +kernel))) (fun _ h9 => h9) rfl dX9_image_30 ?_
      refine lv_iload_n hx hb dX9_image_33 rfl (lv_at hl 0 rfl) ?_
      refine va_iald hx hb hK hP 1 0 rfl rfl (vin (by decide)) dX9_image_34 (tpi (v := 0) rfl ?_)
      refine va_iast hx hb hK hP hD hS 2 0 rfl rfl (vin (by decide)) dX9_image_35 (fun H locs hP hD hS => ?_)
      rw [zI_upd] at hP hD
      have hP : va_P D vwCl [(a0, .inr (9, [v0_0, v0_1, v0_2, v0_3, v0_4, v0_5, v0_6, v0_7, v0_8, v0_9, v0_10, v0_11, v0_12, v0_13, v0_14, v0_15, v0_16, v0_17, v0_18, v0_19, v0_20, v0_21, v0_22, v0_23, v0_24, v0_25, v0_26, v0_27, v0_28, v0_29, v0_30, v0_31, v0_32, v0_33, v0_34, v0_35, v0_36, .ref a1, v0_38, v0_39, v0_40, v0_41, v0_42, v0_43, v0_44, v0_45, v0_46, v0_47, v0_48, v0_49, v0_50, v0_51, v0_52, v0_53, v0_54, v0_55, v0_56, v0_57, v0_58, v0_59, v0_60, v0_61, .ref a2, .ref a3])), (a1, .inl (cy 0, 16, .inl zI)), (a2, .inl (cy 0, 48, .inl zI)), (a3, .inl (cy 3, 3, .inl zI))] H := hP
      have hD : va_D A [(a0, .inr (9, [v0_0, v0_1, v0_2, v0_3, v0_4, v0_5, v0_6, v0_7, v0_8, v0_9, v0_10, v0_11, v0_12, v0_13, v0_14, v0_15, v0_16, v0_17, v0_18, v0_19, v0_20, v0_21, v0_22, v0_23, v0_24, v0_25, v0_26, v0_27, v0_28, v0_29, v0_30, v0_31, v0_32, v0_33, v0_34, v0_35, v0_36, .ref a1, v0_38, v0_39, v0_40, v0_41, v0_42, v0_43, v0_44, v0_45, v0_46, v0_47, v0_48, v0_49, v0_50, v0_51, v0_52, v0_53, v0_54, v0_55, v0_56, v0_57, v0_58, v0_59, v0_60, v0_61, .ref a2, .ref a3])), (a1, .inl (cy 0, 16, .inl zI)), (a2, .inl (cy 0, 48, .inl zI)), (a3, .inl (cy 3, 3, .inl zI))] := hD
      refine lv_iinc (v := 14) (lv' := [(2, .int 14), (0, .ref a0), (1, .int 2)]) hx hb dX9_image_36 hl (k := 0) rfl (by decide) (by decide) rfl (fun ls hl => ?_)
      refine lv_goto (tgt := 13) hx hb dX9_image_39 (by decide) ?_
      refine lv_iload_n hx hb dX9_image_13 rfl (lv_at hl 0 rfl) ?_
      refine lv_bipush (v := 16) hx hb dX9_image_14 (by decide) ?_
      refine lv_icmp_ge (tgt := 42) hx hb dX9_image_16 (by decide) (fun c => absurd c (by decide)) (fun _ => ?_)
      refine lv_aload_n hx hb dX9_image_19 rfl (lv_at hl 1 rfl) ?_
      refine va_get (D := D) (cl := vwCl) (ci := 9) (v := .ref a2) (C := RX9) (T := TX9) (N := 64) hx hb hts in_X9_image_X9 hown hK hP 0 rfl rfl 62 (by decide) (hts (.fieldLink RX9 125 "EightReasonsModel" "boxAll" "[I") (List.mem_of_getElem? (i := 1) (by decide +kernel))) (fun _ h9 => h9) rfl dX9_image_20 ?_
      refine lv_bipush (v := 16) hx hb dX9_image_23 (by decide) ?_
      refine lv_iload_n hx hb dX9_image_25 rfl (lv_at hl 2 rfl) ?_
      refine lv_imul hx hb dX9_image_26 (tpi (v := 32) (by decide) ?_)
      refine lv_iload_n hx hb dX9_image_27 rfl (lv_at hl 0 rfl) ?_
      refine lv_iadd hx hb dX9_image_28 (tpi (v := 46) (by decide) ?_)
      refine lv_aload_n hx hb dX9_image_29 rfl (lv_at hl 1 rfl) ?_
      refine va_get (D := D) (cl := vwCl) (ci := 9) (v := .ref a1) (C := RX9) (T := TX9) (N := 64) hx hb hts in_X9_image_X9 hown hK hP 0 rfl rfl 37 (by decide) (hts (.fieldLink RX9 76 "EightReasonsModel" "all" "[I") (List.mem_of_getElem? (i := 2) (by decide +kernel))) (fun _ h9 => h9) rfl dX9_image_30 ?_
      refine lv_iload_n hx hb dX9_image_33 rfl (lv_at hl 0 rfl) ?_
      refine va_iald hx hb hK hP 1 0 rfl rfl (vin (by decide)) dX9_image_34 (tpi (v := 0) rfl ?_)
      refine va_iast hx hb hK hP hD hS 2 0 rfl rfl (vin (by decide)) dX9_image_35 (fun H locs hP hD hS => ?_)
      rw [zI_upd] at hP hD
      have hP : va_P D vwCl [(a0, .inr (9, [v0_0, v0_1, v0_2, v0_3, v0_4, v0_5, v0_6, v0_7, v0_8, v0_9, v0_10, v0_11, v0_12, v0_13, v0_14, v0_15, v0_16, v0_17, v0_18, v0_19, v0_20, v0_21, v0_22, v0_23, v0_24, v0_25, v0_26, v0_27, v0_28, v0_29, v0_30, v0_31, v0_32, v0_33, v0_34, v0_35, v0_36, .ref a1, v0_38, v0_39, v0_40, v0_41, v0_42, v0_43, v0_44, v0_45, v0_46, v0_47, v0_48, v0_49, v0_50, v0_51, v0_52, v0_53, v0_54, v0_55, v0_56, v0_57, v0_58, v0_59, v0_60, v0_61, .ref a2, .ref a3])), (a1, .inl (cy 0, 16, .inl zI)), (a2, .inl (cy 0, 48, .inl zI)), (a3, .inl (cy 3, 3, .inl zI))] H := hP
      have hD : va_D A [(a0, .inr (9, [v0_0, v0_1, v0_2, v0_3, v0_4, v0_5, v0_6, v0_7, v0_8, v0_9, v0_10, v0_11, v0_12, v0_13, v0_14, v0_15, v0_16, v0_17, v0_18, v0_19, v0_20, v0_21, v0_22, v0_23, v0_24, v0_25, v0_26, v0_27, v0_28, v0_29, v0_30, v0_31, v0_32, v0_33, v0_34, v0_35, v0_36, .ref a1, v0_38, v0_39, v0_40, v0_41, v0_42, v0_43, v0_44, v0_45, v0_46, v0_47, v0_48, v0_49, v0_50, v0_51, v0_52, v0_53, v0_54, v0_55, v0_56, v0_57, v0_58, v0_59, v0_60, v0_61, .ref a2, .ref a3])), (a1, .inl (cy 0, 16, .inl zI)), (a2, .inl (cy 0, 48, .inl zI)), (a3, .inl (cy 3, 3, .inl zI))] := hD
      refine lv_iinc (v := 15) (lv' := [(2, .int 15), (0, .ref a0), (1, .int 2)]) hx hb dX9_image_36 hl (k := 0) rfl (by decide) (by decide) rfl (fun ls hl => ?_)
      refine lv_goto (tgt := 13) hx hb dX9_image_39 (by decide) ?_
      refine lv_iload_n hx hb dX9_image_13 rfl (lv_at hl 0 rfl) ?_
      refine lv_bipush (v := 16) hx hb dX9_image_14 (by decide) ?_
      refine lv_icmp_ge (tgt := 42) hx hb dX9_image_16 (by decide) (fun c => absurd c (by decide)) (fun _ => ?_)
      refine lv_aload_n hx hb dX9_image_19 rfl (lv_at hl 1 rfl) ?_
      refine va_get (D := D) (cl := vwCl) (ci := 9) (v := .ref a2) (C := RX9) (T := TX9) (N := 64) hx hb hts in_X9_image_X9 hown hK hP 0 rfl rfl 62 (by decide) (hts (.fieldLink RX9 125 "EightReasonsModel" "boxAll" "[I") (List.mem_of_getElem? (i := 1) (by decide +kernel))) (fun _ h9 => h9) rfl dX9_image_20 ?_
      refine lv_bipush (v := 16) hx hb dX9_image_23 (by decide) ?_
      refine lv_iload_n hx hb dX9_image_25 rfl (lv_at hl 2 rfl) ?_
      refine lv_imul hx hb dX9_image_26 (tpi (v := 32) (by decide) ?_)
      refine lv_iload_n hx hb dX9_image_27 rfl (lv_at hl 0 rfl) ?_
      refine lv_iadd hx hb dX9_image_28 (tpi (v := 47) (by decide) ?_)
      refine lv_aload_n hx hb dX9_image_29 rfl (lv_at hl 1 rfl) ?_
      refine va_get (D := D) (cl := vwCl) (ci := 9) (v := .ref a1) (C := RX9) (T := TX9) (N := 64) hx hb hts in_X9_image_X9 hown hK hP 0 rfl rfl 37 (by decide) (hts (.fieldLink RX9 76 "EightReasonsModel" "all" "[I") (List.mem_of_getElem? (i := 2) (by decide +kernel))) (fun _ h9 => h9) rfl dX9_image_30 ?_
      refine lv_iload_n hx hb dX9_image_33 rfl (lv_at hl 0 rfl) ?_
      refine va_iald hx hb hK hP 1 0 rfl rfl (vin (by decide)) dX9_image_34 (tpi (v := 0) rfl ?_)
      refine va_iast hx hb hK hP hD hS 2 0 rfl rfl (vin (by decide)) dX9_image_35 (fun H locs hP hD hS => ?_)
      rw [zI_upd] at hP hD
      have hP : va_P D vwCl [(a0, .inr (9, [v0_0, v0_1, v0_2, v0_3, v0_4, v0_5, v0_6, v0_7, v0_8, v0_9, v0_10, v0_11, v0_12, v0_13, v0_14, v0_15, v0_16, v0_17, v0_18, v0_19, v0_20, v0_21, v0_22, v0_23, v0_24, v0_25, v0_26, v0_27, v0_28, v0_29, v0_30, v0_31, v0_32, v0_33, v0_34, v0_35, v0_36, .ref a1, v0_38, v0_39, v0_40, v0_41, v0_42, v0_43, v0_44, v0_45, v0_46, v0_47, v0_48, v0_49, v0_50, v0_51, v0_52, v0_53, v0_54, v0_55, v0_56, v0_57, v0_58, v0_59, v0_60, v0_61, .ref a2, .ref a3])), (a1, .inl (cy 0, 16, .inl zI)), (a2, .inl (cy 0, 48, .inl zI)), (a3, .inl (cy 3, 3, .inl zI))] H := hP
      have hD : va_D A [(a0, .inr (9, [v0_0, v0_1, v0_2, v0_3, v0_4, v0_5, v0_6, v0_7, v0_8, v0_9, v0_10, v0_11, v0_12, v0_13, v0_14, v0_15, v0_16, v0_17, v0_18, v0_19, v0_20, v0_21, v0_22, v0_23, v0_24, v0_25, v0_26, v0_27, v0_28, v0_29, v0_30, v0_31, v0_32, v0_33, v0_34, v0_35, v0_36, .ref a1, v0_38, v0_39, v0_40, v0_41, v0_42, v0_43, v0_44, v0_45, v0_46, v0_47, v0_48, v0_49, v0_50, v0_51, v0_52, v0_53, v0_54, v0_55, v0_56, v0_57, v0_58, v0_59, v0_60, v0_61, .ref a2, .ref a3])), (a1, .inl (cy 0, 16, .inl zI)), (a2, .inl (cy 0, 48, .inl zI)), (a3, .inl (cy 3, 3, .inl zI))] := hD
      refine lv_iinc (v := 16) (lv' := [(2, .int 16), (0, .ref a0), (1, .int 2)]) hx hb dX9_image_36 hl (k := 0) rfl (by decide) (by decide) rfl (fun ls hl => ?_)
      refine lv_goto (tgt := 13) hx hb dX9_image_39 (by decide) ?_
      refine lv_iload_n hx hb dX9_image_13 rfl (lv_at hl 0 rfl) ?_
      refine lv_bipush (v := 16) hx hb dX9_image_14 (by decide) ?_
      refine lv_icmp_ge (tgt := 42) hx hb dX9_image_16 (by decide) (fun _ => ?_) (fun c => absurd (by decide) c)
      refine lv_aload_n hx hb dX9_image_42 rfl (lv_at hl 1 rfl) ?_
      refine va_get (D := D) (cl := vwCl) (ci := 9) (v := .ref a3) (C := RX9) (T := TX9) (N := 64) hx hb hts in_X9_image_X9 hown hK hP 0 rfl rfl 63 (by decide) (hts (.fieldLink RX9 128 "EightReasonsModel" "isBoxed" "[Z") (List.mem_of_getElem? (i := 3) (by decide +kernel))) (fun _ h9 => h9) rfl dX9_image_43 ?_
      refine lv_iload_n hx hb dX9_image_46 rfl (lv_at hl 2 rfl) ?_
      refine lv_iconst (v := 1) hx hb dX9_image_47 (by decide) ?_
      refine va_zast hx hb hK hP hD hS 3 3 rfl rfl (vin (by decide)) dX9_image_48 (fun H locs hP hD hS => ?_)
      generalize hhg6 : upd zI (Int32.toNatClampNeg 2) (vp_nar .boolean 1) = g6 at hP hD
      have fg6_0 : g6 0 = 0 := by rw [← hhg6]; exact (pk_un (by decide)).trans (rfl : zI 0 = 0)
      have fg6_1 : g6 1 = 0 := by rw [← hhg6]; exact (pk_un (by decide)).trans (rfl : zI 1 = 0)
      have fg6_2 : g6 2 = 1 := by rw [← hhg6]; exact pk_us.trans (by decide)
      have hP : va_P D vwCl [(a0, .inr (9, [v0_0, v0_1, v0_2, v0_3, v0_4, v0_5, v0_6, v0_7, v0_8, v0_9, v0_10, v0_11, v0_12, v0_13, v0_14, v0_15, v0_16, v0_17, v0_18, v0_19, v0_20, v0_21, v0_22, v0_23, v0_24, v0_25, v0_26, v0_27, v0_28, v0_29, v0_30, v0_31, v0_32, v0_33, v0_34, v0_35, v0_36, .ref a1, v0_38, v0_39, v0_40, v0_41, v0_42, v0_43, v0_44, v0_45, v0_46, v0_47, v0_48, v0_49, v0_50, v0_51, v0_52, v0_53, v0_54, v0_55, v0_56, v0_57, v0_58, v0_59, v0_60, v0_61, .ref a2, .ref a3])), (a1, .inl (cy 0, 16, .inl zI)), (a2, .inl (cy 0, 48, .inl zI)), (a3, .inl (cy 3, 3, .inl g6))] H := hP
      have hD : va_D A [(a0, .inr (9, [v0_0, v0_1, v0_2, v0_3, v0_4, v0_5, v0_6, v0_7, v0_8, v0_9, v0_10, v0_11, v0_12, v0_13, v0_14, v0_15, v0_16, v0_17, v0_18, v0_19, v0_20, v0_21, v0_22, v0_23, v0_24, v0_25, v0_26, v0_27, v0_28, v0_29, v0_30, v0_31, v0_32, v0_33, v0_34, v0_35, v0_36, .ref a1, v0_38, v0_39, v0_40, v0_41, v0_42, v0_43, v0_44, v0_45, v0_46, v0_47, v0_48, v0_49, v0_50, v0_51, v0_52, v0_53, v0_54, v0_55, v0_56, v0_57, v0_58, v0_59, v0_60, v0_61, .ref a2, .ref a3])), (a1, .inl (cy 0, 16, .inl zI)), (a2, .inl (cy 0, 48, .inl zI)), (a3, .inl (cy 3, 3, .inl g6))] := hD
      refine lv_aload_n hx hb dX9_image_49 rfl (lv_at hl 1 rfl) ?_
      refine va_get (D := D) (cl := vwCl) (ci := 9) (v := .ref a1) (C := RX9) (T := TX9) (N := 64) hx hb hts in_X9_image_X9 hown hK hP 0 rfl rfl 37 (by decide) (hts (.fieldLink RX9 76 "EightReasonsModel" "all" "[I") (List.mem_of_getElem? (i := 2) (by decide +kernel))) (fun _ h9 => h9) rfl dX9_image_50 ?_
      refine lv_bipush (v := 14) hx hb dX9_image_53 (by decide) ?_
      refine va_iald hx hb hK hP 1 0 rfl rfl (vin (by decide)) dX9_image_55 (tpi (v := 0) rfl ?_)
      exact rtI hx hb hr hlk rfl hP hD hS () [] rfl rfl (Or.inr ⟨rfl, (Or.inr (Or.inr ⟨c2, rfl⟩))⟩) dX9_image_56
