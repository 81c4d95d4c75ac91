set_option maxHeartbeats 4000000 in
set_option maxRecDepth 100000 in
theorem k_X3_append_0 (l : Launch) (D : va_G) (cy : Nat → ClassId) (a0 a1 : Nat) (v0_0 : Value) (v0_1 : Value) (v0_4 : Value) (v0_5 : Value) (v0_6 : Value) (v0_7 : Value) (v0_8 : Value) (v0_9 : Value) (v0_10 : Value) (v0_11 : Value) (v0_12 : Value) (p1 : Int32) (sz : Nat) : CtV l yX3_append wsX3_append 0 0 [.ref a0, .int p1] D cy [(a0, .inr (3, [v0_0, v0_1, .int 0, .ref a1, v0_4, v0_5, v0_6, v0_7, v0_8, v0_9, v0_10, v0_11, v0_12])), (a1, .inl (cy 1, 1600, .inl zI))] sz 0 0 (fun (_ : Nat → Nat → Int32) => True) (fun u => [(a0, .inr (3, [v0_0, v0_1, .int 4, .ref a1, v0_4, v0_5, v0_6, v0_7, v0_8, v0_9, v0_10, v0_11, v0_12])), (a1, .inl (cy 1, 1600, .inl (u 0)))]) := by
  refine CtV.of (cc := cX3_append) (maxL := 3) (own := RX3) (by decide) rfl (Nat.le_of_ble_eq_true rfl) rfl ?_
  intro p e s m below meth c A ls hx hb hr hml hts hown hlk hK hP hD hS hA hl
  have hl : lv_has ls 3 [(0, .ref a0), (1, .int p1)] := hl
  refine st0 (fun H locs hP hS => ?_) hP hS
  have hP : va_P D vwCl [(a0, .inr (3, [v0_0, v0_1, .int 0, .ref a1, v0_4, v0_5, v0_6, v0_7, v0_8, v0_9, v0_10, v0_11, v0_12])), (a1, .inl (cy 1, 1600, .inl zI))] H := hP
  have hD : va_D A [(a0, .inr (3, [v0_0, v0_1, .int 0, .ref a1, v0_4, v0_5, v0_6, v0_7, v0_8, v0_9, v0_10, v0_11, v0_12])), (a1, .inl (cy 1, 1600, .inl zI))] := hD
  refine lv_bipush (v := 24) hx hb dX3_append_0 (by decide) ?_
  refine lv_istore_n (lv' := [(2, .int 24), (0, .ref a0), (1, .int p1)]) hx hb dX3_append_2 rfl hl (by decide) rfl (fun ls hl => ?_)
  refine lv_iload_n hx hb dX3_append_3 rfl (lv_at hl 0 rfl) ?_
  refine lv_if_lt (tgt := 46) hx hb dX3_append_4 (by decide) (fun c => absurd c (by decide)) (fun _ => ?_)
  refine lv_aload_n hx hb dX3_append_7 rfl (lv_at hl 1 rfl) ?_
  refine va_get (D := D) (cl := vwCl) (ci := 3) (v := .int 0) (C := RX3) (T := TX3) (N := 13) hx hb hts in_X3_append_X3 hown hK hP 0 rfl rfl 2 (by decide) (hts (.fieldLink RX3 49 "EightReasons$Reader" "bytes" "I") (List.mem_of_getElem? (i := 1) (by decide +kernel))) (fun _ h9 => h9) rfl dX3_append_8 ?_
  refine lv_sipush (v := 1600) hx hb dX3_append_11 (by decide) ?_
  refine lv_icmp_ge (tgt := 46) hx hb dX3_append_14 (by decide) (fun c => absurd c (by decide)) (fun _ => ?_)
  refine lv_aload_n hx hb dX3_append_17 rfl (lv_at hl 1 rfl) ?_
  refine va_get (D := D) (cl := vwCl) (ci := 3) (v := .ref a1) (C := RX3) (T := TX3) (N := 13) hx hb hts in_X3_append_X3 hown hK hP 0 rfl rfl 3 (by decide) (hts (.fieldLink RX3 15 "EightReasons$Reader" "tape" "[B") (List.mem_of_getElem? (i := 2) (by decide +kernel))) (fun _ h9 => h9) rfl dX3_append_18 ?_
  refine lv_aload_n hx hb dX3_append_21 rfl (lv_at hl 1 rfl) ?_
  refine va_get (D := D) (cl := vwCl) (ci := 3) (v := .int 0) (C := RX3) (T := TX3) (N := 13) hx hb hts in_X3_append_X3 hown hK hP 0 rfl rfl 2 (by decide) (hts (.fieldLink RX3 49 "EightReasons$Reader" "bytes" "I") (List.mem_of_getElem? (i := 1) (by decide +kernel))) (fun _ h9 => h9) rfl dX3_append_22 ?_
  refine lv_iload_n hx hb dX3_append_25 rfl (lv_at hl 2 rfl) ?_
  refine lv_iload_n hx hb dX3_append_26 rfl (lv_at hl 0 rfl) ?_
  refine lv_ishr hx hb dX3_append_27 ?_
  refine lv_i2b hx hb dX3_append_28 rfl ?_
  refine va_bast hx hb hK hP hD hS 1 1 rfl rfl (vin (by decide)) dX3_append_29 (fun H locs hP hD hS => ?_)
  generalize hhg1 : upd zI (Int32.toNatClampNeg 0) (vp_nar .byte (p1 >>> (24 &&& 31)).toInt8.toInt32) = g1 at hP hD
  have hP : va_P D vwCl [(a0, .inr (3, [v0_0, v0_1, .int 0, .ref a1, v0_4, v0_5, v0_6, v0_7, v0_8, v0_9, v0_10, v0_11, v0_12])), (a1, .inl (cy 1, 1600, .inl g1))] H := hP
  have hD : va_D A [(a0, .inr (3, [v0_0, v0_1, .int 0, .ref a1, v0_4, v0_5, v0_6, v0_7, v0_8, v0_9, v0_10, v0_11, v0_12])), (a1, .inl (cy 1, 1600, .inl g1))] := hD
  refine lv_aload_n hx hb dX3_append_30 rfl (lv_at hl 1 rfl) ?_
  refine lv_dup hx hb dX3_append_31 rfl ?_
  refine va_get (D := D) (cl := vwCl) (ci := 3) (v := .int 0) (C := RX3) (T := TX3) (N := 13) hx hb hts in_X3_append_X3 hown hK hP 0 rfl rfl 2 (by decide) (hts (.fieldLink RX3 49 "EightReasons$Reader" "bytes" "I") (List.mem_of_getElem? (i := 1) (by decide +kernel))) (fun _ h9 => h9) rfl dX3_append_32 ?_
  refine lv_iconst (v := 1) hx hb dX3_append_35 (by decide) ?_
  refine lv_iadd hx hb dX3_append_36 (tpi (v := 1) (by decide) ?_)
  refine va_put (D := D) (cl := vwCl) (ci := 3) (v := .int 1) (ty := tyX3 2) (C := RX3) (T := TX3) (N := 13) hx hb hts in_X3_append_X3 tyX3 tyX3_ok nmX3 hown hK hP hD hS 0 rfl rfl 2 (by decide) (hts (.fieldLink RX3 49 "EightReasons$Reader" "bytes" "I") (List.mem_of_getElem? (i := 1) (by decide +kernel))) (fun _ h9 => h9) rfl (tyX3_ok 2 (by decide)) rfl rfl (Nat.le_of_ble_eq_true rfl) dX3_append_37 (fun H locs hP hD hS => ?_)
  have hP : va_P D vwCl [(a0, .inr (3, [v0_0, v0_1, .int 1, .ref a1, v0_4, v0_5, v0_6, v0_7, v0_8, v0_9, v0_10, v0_11, v0_12])), (a1, .inl (cy 1, 1600, .inl g1))] H := hP
  have hD : va_D A [(a0, .inr (3, [v0_0, v0_1, .int 1, .ref a1, v0_4, v0_5, v0_6, v0_7, v0_8, v0_9, v0_10, v0_11, v0_12])), (a1, .inl (cy 1, 1600, .inl g1))] := hD
  refine lv_iinc (v := 16) (lv' := [(2, .int 16), (0, .ref a0), (1, .int p1)]) hx hb dX3_append_40 hl (k := 0) rfl (by decide) (by decide) rfl (fun ls hl => ?_)
  refine lv_goto (tgt := 3) hx hb dX3_append_43 (by decide) ?_
  refine lv_iload_n hx hb dX3_append_3 rfl (lv_at hl 0 rfl) ?_
  refine lv_if_lt (tgt := 46) hx hb dX3_append_4 (by decide) (fun c => absurd c (by decide)) (fun _ => ?_)
  refine lv_aload_n hx hb dX3_append_7 rfl (lv_at hl 1 rfl) ?_
  refine va_get (D := D) (cl := vwCl) (ci := 3) (v := .int 1) (C := RX3) (T := TX3) (N := 13) hx hb hts in_X3_append_X3 hown hK hP 0 rfl rfl 2 (by decide) (hts (.fieldLink RX3 49 "EightReasons$Reader" "bytes" "I") (List.mem_of_getElem? (i := 1) (by decide +kernel))) (fun _ h9 => h9) rfl dX3_append_8 ?_
  refine lv_sipush (v := 1600) hx hb dX3_append_11 (by decide) ?_
  refine lv_icmp_ge (tgt := 46) hx hb dX3_append_14 (by decide) (fun c => absurd c (by decide)) (fun _ => ?_)
  refine lv_aload_n hx hb dX3_append_17 rfl (lv_at hl 1 rfl) ?_
  refine va_get (D := D) (cl := vwCl) (ci := 3) (v := .ref a1) (C := RX3) (T := TX3) (N := 13) hx hb hts in_X3_append_X3 hown hK hP 0 rfl rfl 3 (by decide) (hts (.fieldLink RX3 15 "EightReasons$Reader" "tape" "[B") (List.mem_of_getElem? (i := 2) (by decide +kernel))) (fun _ h9 => h9) rfl dX3_append_18 ?_
  refine lv_aload_n hx hb dX3_append_21 rfl (lv_at hl 1 rfl) ?_
  refine va_get (D := D) (cl := vwCl) (ci := 3) (v := .int 1) (C := RX3) (T := TX3) (N := 13) hx hb hts in_X3_append_X3 hown hK hP 0 rfl rfl 2 (by decide) (hts (.fieldLink RX3 49 "EightReasons$Reader" "bytes" "I") (List.mem_of_getElem? (i := 1) (by decide +kernel))) (fun _ h9 => h9) rfl dX3_append_22 ?_
  refine lv_iload_n hx hb dX3_append_25 rfl (lv_at hl 2 rfl) ?_
  refine lv_iload_n hx hb dX3_append_26 rfl (lv_at hl 0 rfl) ?_
  refine lv_ishr hx hb dX3_append_27 ?_
  refine lv_i2b hx hb dX3_append_28 rfl ?_
  refine va_bast hx hb hK hP hD hS 1 1 rfl rfl (vin (by decide)) dX3_append_29 (fun H locs hP hD hS => ?_)
  generalize hhg2 : upd g1 (Int32.toNatClampNeg 1) (vp_nar .byte (p1 >>> (16 &&& 31)).toInt8.toInt32) = g2 at hP hD
  have hP : va_P D vwCl [(a0, .inr (3, [v0_0, v0_1, .int 1, .ref a1, v0_4, v0_5, v0_6, v0_7, v0_8, v0_9, v0_10, v0_11, v0_12])), (a1, .inl (cy 1, 1600, .inl g2))] H := hP
  have hD : va_D A [(a0, .inr (3, [v0_0, v0_1, .int 1, .ref a1, v0_4, v0_5, v0_6, v0_7, v0_8, v0_9, v0_10, v0_11, v0_12])), (a1, .inl (cy 1, 1600, .inl g2))] := hD
  refine lv_aload_n hx hb dX3_append_30 rfl (lv_at hl 1 rfl) ?_
  refine lv_dup hx hb dX3_append_31 rfl ?_
  refine va_get (D := D) (cl := vwCl) (ci := 3) (v := .int 1) (C := RX3) (T := TX3) (N := 13) hx hb hts in_X3_append_X3 hown hK hP 0 rfl rfl 2 (by decide) (hts (.fieldLink RX3 49 "EightReasons$Reader" "bytes" "I") (List.mem_of_getElem? (i := 1) (by decide +kernel))) (fun _ h9 => h9) rfl dX3_append_32 ?_
  refine lv_iconst (v := 1) hx hb dX3_append_35 (by decide) ?_
  refine lv_iadd hx hb dX3_append_36 (tpi (v := 2) (by decide) ?_)
  refine va_put (D := D) (cl := vwCl) (ci := 3) (v := .int 2) (ty := tyX3 2) (C := RX3) (T := TX3) (N := 13) hx hb hts in_X3_append_X3 tyX3 tyX3_ok nmX3 hown hK hP hD hS 0 rfl rfl 2 (by decide) (hts (.fieldLink RX3 49 "EightReasons$Reader" "bytes" "I") (List.mem_of_getElem? (i := 1) (by decide +kernel))) (fun _ h9 => h9) rfl (tyX3_ok 2 (by decide)) rfl rfl (Nat.le_of_ble_eq_true rfl) dX3_append_37 (fun H locs hP hD hS => ?_)
  have hP : va_P D vwCl [(a0, .inr (3, [v0_0, v0_1, .int 2, .ref a1, v0_4, v0_5, v0_6, v0_7, v0_8, v0_9, v0_10, v0_11, v0_12])), (a1, .inl (cy 1, 1600, .inl g2))] H := hP
  have hD : va_D A [(a0, .inr (3, [v0_0, v0_1, .int 2, .ref a1, v0_4, v0_5, v0_6, v0_7, v0_8, v0_9, v0_10, v0_11, v0_12])), (a1, .inl (cy 1, 1600, .inl g2))] := hD
  refine lv_iinc (v := 8) (lv' := [(2, .int 8), (0, .ref a0), (1, .int p1)]) hx hb dX3_append_40 hl (k := 0) rfl (by decide) (by decide) rfl (fun ls hl => ?_)
  refine lv_goto (tgt := 3) hx hb dX3_append_43 (by decide) ?_
  refine lv_iload_n hx hb dX3_append_3 rfl (lv_at hl 0 rfl) ?_
  refine lv_if_lt (tgt := 46) hx hb dX3_append_4 (by decide) (fun c => absurd c (by decide)) (fun _ => ?_)
  refine lv_aload_n hx hb dX3_append_7 rfl (lv_at hl 1 rfl) ?_
  refine va_get (D := D) (cl := vwCl) (ci := 3) (v := .int 2) (C := RX3) (T := TX3) (N := 13) hx hb hts in_X3_append_X3 hown hK hP 0 rfl rfl 2 (by decide) (hts (.fieldLink RX3 49 "EightReasons$Reader" "bytes" "I") (List.mem_of_getElem? (i := 1) (by decide +kernel))) (fun _ h9 => h9) rfl dX3_append_8 ?_
  refine lv_sipush (v := 1600) hx hb dX3_append_11 (by decide) ?_
  refine lv_icmp_ge (tgt := 46) hx hb dX3_append_14 (by decide) (fun c => absurd c (by decide)) (fun _ => ?_)
  refine lv_aload_n hx hb dX3_append_17 rfl (lv_at hl 1 rfl) ?_
  refine va_get (D := D) (cl := vwCl) (ci := 3) (v := .ref a1) (C := RX3) (T := TX3) (N := 13) hx hb hts in_X3_append_X3 hown hK hP 0 rfl rfl 3 (by decide) (hts (.fieldLink RX3 15 "EightReasons$Reader" "tape" "[B") (List.mem_of_getElem? (i := 2) (by decide +kernel))) (fun _ h9 => h9) rfl dX3_append_18 ?_
  refine lv_aload_n hx hb dX3_append_21 rfl (lv_at hl 1 rfl) ?_
  refine va_get (D := D) (cl := vwCl) (ci := 3) (v := .int 2) (C := RX3) (T := TX3) (N := 13) hx hb hts in_X3_append_X3 hown hK hP 0 rfl rfl 2 (by decide) (hts (.fieldLink RX3 49 "EightReasons$Reader" "bytes" "I") (List.mem_of_getElem? (i := 1) (by decide +kernel))) (fun _ h9 => h9) rfl dX3_append_22 ?_
  refine lv_iload_n hx hb dX3_append_25 rfl (lv_at hl 2 rfl) ?_
  refine lv_iload_n hx hb dX3_append_26 rfl (lv_at hl 0 rfl) ?_
  refine lv_ishr hx hb dX3_append_27 ?_
  refine lv_i2b hx hb dX3_append_28 rfl ?_
  refine va_bast hx hb hK hP hD hS 1 1 rfl rfl (vin (by decide)) dX3_append_29 (fun H locs hP hD hS => ?_)
  generalize hhg3 : upd g2 (Int32.toNatClampNeg 2) (vp_nar .byte (p1 >>> (8 &&& 31)).toInt8.toInt32) = g3 at hP hD
  have hP : va_P D vwCl [(a0, .inr (3, [v0_0, v0_1, .int 2, .ref a1, v0_4, v0_5, v0_6, v0_7, v0_8, v0_9, v0_10, v0_11, v0_12])), (a1, .inl (cy 1, 1600, .inl g3))] H := hP
  have hD : va_D A [(a0, .inr (3, [v0_0, v0_1, .int 2, .ref a1, v0_4, v0_5, v0_6, v0_7, v0_8, v0_9, v0_10, v0_11, v0_12])), (a1, .inl (cy 1, 1600, .inl g3))] := hD
  refine lv_aload_n hx hb dX3_append_30 rfl (lv_at hl 1 rfl) ?_
  refine lv_dup hx hb dX3_append_31 rfl ?_
  refine va_get (D := D) (cl := vwCl) (ci := 3) (v := .int 2) (C := RX3) (T := TX3) (N := 13) hx hb hts in_X3_append_X3 hown hK hP 0 rfl rfl 2 (by decide) (hts (.fieldLink RX3 49 "EightReasons$Reader" "bytes" "I") (List.mem_of_getElem? (i := 1) (by decide +kernel))) (fun _ h9 => h9) rfl dX3_append_32 ?_
  refine lv_iconst (v := 1) hx hb dX3_append_35 (by decide) ?_
  refine lv_iadd hx hb dX3_append_36 (tpi (v := 3) (by decide) ?_)
  refine va_put (D := D) (cl := vwCl) (ci := 3) (v := .int 3) (ty := tyX3 2) (C := RX3) (T := TX3) (N := 13) hx hb hts in_X3_append_X3 tyX3 tyX3_ok nmX3 hown hK hP hD hS 0 rfl rfl 2 (by decide) (hts (.fieldLink RX3 49 "EightReasons$Reader" "bytes" "I") (List.mem_of_getElem? (i := 1) (by decide +kernel))) (fun _ h9 => h9) rfl (tyX3_ok 2 (by decide)) rfl rfl (Nat.le_of_ble_eq_true rfl) dX3_append_37 (fun H locs hP hD hS => ?_)
  have hP : va_P D vwCl [(a0, .inr (3, [v0_0, v0_1, .int 3, .ref a1, v0_4, v0_5, v0_6, v0_7, v0_8, v0_9, v0_10, v0_11, v0_12])), (a1, .inl (cy 1, 1600, .inl g3))] H := hP
  have hD : va_D A [(a0, .inr (3, [v0_0, v0_1, .int 3, .ref a1, v0_4, v0_5, v0_6, v0_7, v0_8, v0_9, v0_10, v0_11, v0_12])), (a1, .inl (cy 1, 1600, .inl g3))] := hD
  refine lv_iinc (v := 0) (lv' := [(2, .int 0), (0, .ref a0), (1, .int p1)]) hx hb dX3_append_40 hl (k := 0) rfl (by decide) (by decide) rfl (fun ls hl => ?_)
  refine lv_goto (tgt := 3) hx hb dX3_append_43 (by decide) ?_
  refine lv_iload_n hx hb dX3_append_3 rfl (lv_at hl 0 rfl) ?_
  refine lv_if_lt (tgt := 46) hx hb dX3_append_4 (by decide) (fun c => absurd c (by decide)) (fun _ => ?_)
  refine lv_aload_n hx hb dX3_append_7 rfl (lv_at hl 1 rfl) ?_
  refine va_get (D := D) (cl := vwCl) (ci := 3) (v := .int 3) (C := RX3) (T := TX3) (N := 13) hx hb hts in_X3_append_X3 hown hK hP 0 rfl rfl 2 (by decide) (hts (.fieldLink RX3 49 "EightReasons$Reader" "bytes" "I") (List.mem_of_getElem? (i := 1) (by decide +kernel))) (fun _ h9 => h9) rfl dX3_append_8 ?_
  refine lv_sipush (v := 1600) hx hb dX3_append_11 (by decide) ?_
  refine lv_icmp_ge (tgt := 46) hx hb dX3_append_14 (by decide) (fun c => absurd c (by decide)) (fun _ => ?_)
  refine lv_aload_n hx hb dX3_append_17 rfl (lv_at hl 1 rfl) ?_
  refine va_get (D := D) (cl := vwCl) (ci := 3) (v := .ref a1) (C := RX3) (T := TX3) (N := 13) hx hb hts in_X3_append_X3 hown hK hP 0 rfl rfl 3 (by decide) (hts (.fieldLink RX3 15 "EightReasons$Reader" "tape" "[B") (List.mem_of_getElem? (i := 2) (by decide +kernel))) (fun _ h9 => h9) rfl dX3_append_18 ?_
  refine lv_aload_n hx hb dX3_append_21 rfl (lv_at hl 1 rfl) ?_
  refine va_get (D := D) (cl := vwCl) (ci := 3) (v := .int 3) (C := RX3) (T := TX3) (N := 13) hx hb hts in_X3_append_X3 hown hK hP 0 rfl rfl 2 (by decide) (hts (.fieldLink RX3 49 "EightReasons$Reader" "bytes" "I") (List.mem_of_getElem? (i := 1) (by decide +kernel))) (fun _ h9 => h9) rfl dX3_append_22 ?_
  refine lv_iload_n hx hb dX3_append_25 rfl (lv_at hl 2 rfl) ?_
  refine lv_iload_n hx hb dX3_append_26 rfl (lv_at hl 0 rfl) ?_
  refine lv_ishr hx hb dX3_append_27 ?_
  refine lv_i2b hx hb dX3_append_28 rfl ?_
  refine va_bast hx hb hK hP hD hS 1 1 rfl rfl (vin (by decide)) dX3_append_29 (fun H locs hP hD hS => ?_)
  generalize hhg4 : upd g3 (Int32.toNatClampNeg 3) (vp_nar .byte (p1 >>> (0 &&& 31)).toInt8.toInt32) = g4 at hP hD
  have hP : va_P D vwCl [(a0, .inr (3, [v0_0, v0_1, .int 3, .ref a1, v0_4, v0_5, v0_6, v0_7, v0_8, v0_9, v0_10, v0_11, v0_12])), (a1, .inl (cy 1, 1600, .inl g4))] H := hP
  have hD : va_D A [(a0, .inr (3, [v0_0, v0_1, .int 3, .ref a1, v0_4, v0_5, v0_6, v0_7, v0_8, v0_9, v0_10, v0_11, v0_12])), (a1, .inl (cy 1, 1600, .inl g4))] := hD
  refine lv_aload_n hx hb dX3_append_30 rfl (lv_at hl 1 rfl) ?_
  refine lv_dup hx hb dX3_append_31 rfl ?_
  refine va_get (D := D) (cl := vwCl) (ci := 3) (v := .int 3) (C := RX3) (T := TX3) (N := 13) hx hb hts in_X3_append_X3 hown hK hP 0 rfl rfl 2 (by decide) (hts (.fieldLink RX3 49 "EightReasons$Reader" "bytes" "I") (List.mem_of_getElem? (i := 1) (by decide +kernel))) (fun _ h9 => h9) rfl dX3_append_32 ?_
  refine lv_iconst (v := 1) hx hb dX3_append_35 (by decide) ?_
  refine lv_iadd hx hb dX3_append_36 (tpi (v := 4) (by decide) ?_)
  refine va_put (D := D) (cl := vwCl) (ci := 3) (v := .int 4) (ty := tyX3 2) (C := RX3) (T := TX3) (N := 13) hx hb hts in_X3_append_X3 tyX3 tyX3_ok nmX3 hown hK hP hD hS 0 rfl rfl 2 (by decide) (hts (.fieldLink RX3 49 "EightReasons$Reader" "bytes" "I") (List.mem_of_getElem? (i := 1) (by decide +kernel))) (fun _ h9 => h9) rfl (tyX3_ok 2 (by decide)) rfl rfl (Nat.le_of_ble_eq_true rfl) dX3_append_37 (fun H locs hP hD hS => ?_)
  have hP : va_P D vwCl [(a0, .inr (3, [v0_0, v0_1, .int 4, .ref a1, v0_4, v0_5, v0_6, v0_7, v0_8, v0_9, v0_10, v0_11, v0_12])), (a1, .inl (cy 1, 1600, .inl g4))] H := hP
  have hD : va_D A [(a0, .inr (3, [v0_0, v0_1, .int 4, .ref a1, v0_4, v0_5, v0_6, v0_7, v0_8, v0_9, v0_10, v0_11, v0_12])), (a1, .inl (cy 1, 1600, .inl g4))] := hD
  refine lv_iinc (v := (-8)) (lv' := [(2, .int (-8)), (0, .ref a0), (1, .int p1)]) hx hb dX3_append_40 hl (k := 0) rfl (by decide) (by decide) rfl (fun ls hl => ?_)
  refine lv_goto (tgt := 3) hx hb dX3_append_43 (by decide) ?_
  refine lv_iload_n hx hb dX3_append_3 rfl (lv_at hl 0 rfl) ?_
  refine lv_if_lt (tgt := 46) hx hb dX3_append_4 (by decide) (fun _ => ?_) (fun c => absurd (by decide) c)
  exact rtV hx hb hr hlk hP hD hS (fun j => [g4].getD j zI) [0, 1] rfl rfl trivial dX3_append_46
set_option maxHeartbeats 4000000 in
set_option maxRecDepth 100000 in
theorem k_X3_append_1 (l : Launch) (D : va_G) (cy : Nat → ClassId) (a0 a1 : Nat) (v0_0 : Value) (v0_1 : Value) (v0_4 : Value) (v0_5 : Value) (v0_6 : Value) (v0_7 : Value) (v0_8 : Value) (v0_9 : Value) (v0_10 : Value) (v0_11 : Value) (v0_12 : Value) (g1_ : Nat → Int32) (p1 : Int32) (sz : Nat) : CtV l yX3_append wsX3_append 0 0 [.ref a0, .int p1] D cy [(a0, .inr (3, [v0_0, v0_1, .int 4, .ref a1, v0_4, v0_5, v0_6, v0_7, v0_8, v0_9, v0_10, v0_11, v0_12])), (a1, .inl (cy 1, 1600, .inl g1_))] sz 0 0 (fun (_ : Nat → Nat → Int32) => True) (fun u => [(a0, .inr (3, [v0_0, v0_1, .int 8, .ref a1, v0_4, v0_5, v0_6, v0_7, v0_8, v0_9, v0_10, v0_11, v0_12])), (a1, .inl (cy 1, 1600, .inl (u 0)))]) := by
  refine CtV.of (cc := cX3_append) (maxL := 3) (own := RX3) (by decide) rfl (Nat.le_of_ble_eq_true rfl) rfl ?_
  intro p e s m below meth c A ls hx hb hr hml hts hown hlk hK hP hD hS hA hl
  have hl : lv_has ls 3 [(0, .ref a0), (1, .int p1)] := hl
  refine st0 (fun H locs hP hS => ?_) hP hS
  have hP : va_P D vwCl [(a0, .inr (3, [v0_0, v0_1, .int 4, .ref a1, v0_4, v0_5, v0_6, v0_7, v0_8, v0_9, v0_10, v0_11, v0_12])), (a1, .inl (cy 1, 1600, .inl g1_))] H := hP
  have hD : va_D A [(a0, .inr (3, [v0_0, v0_1, .int 4, .ref a1, v0_4, v0_5, v0_6, v0_7, v0_8, v0_9, v0_10, v0_11, v0_12])), (a1, .inl (cy 1, 1600, .inl g1_))] := hD
  refine lv_bipush (v := 24) hx hb dX3_append_0 (by decide) ?_
  refine lv_istore_n (lv' := [(2, .int 24), (0, .ref a0), (1, .int p1)]) hx hb dX3_append_2 rfl hl (by decide) rfl (fun ls hl => ?_)
  refine lv_iload_n hx hb dX3_append_3 rfl (lv_at hl 0 rfl) ?_
  refine lv_if_lt (tgt := 46) hx hb dX3_append_4 (by decide) (fun c => absurd c (by decide)) (fun _ => ?_)
  refine lv_aload_n hx hb dX3_append_7 rfl (lv_at hl 1 rfl) ?_
  refine va_get (D := D) (cl := vwCl) (ci := 3) (v := .int 4) (C := RX3) (T := TX3) (N := 13) hx hb hts in_X3_append_X3 hown hK hP 0 rfl rfl 2 (by decide) (hts (.fieldLink RX3 49 "EightReasons$Reader" "bytes" "I") (List.mem_of_getElem? (i := 1) (by decide +kernel))) (fun _ h9 => h9) rfl dX3_append_8 ?_
  refine lv_sipush (v := 1600) hx hb dX3_append_11 (by decide) ?_
  refine lv_icmp_ge (tgt := 46) hx hb dX3_append_14 (by decide) (fun c => absurd c (by decide)) (fun _ => ?_)
  refine lv_aload_n hx hb dX3_append_17 rfl (lv_at hl 1 rfl) ?_
  refine va_get (D := D) (cl := vwCl) (ci := 3) (v := .ref a1) (C := RX3) (T := TX3) (N := 13) hx hb hts in_X3_append_X3 hown hK hP 0 rfl rfl 3 (by decide) (hts (.fieldLink RX3 15 "EightReasons$Reader" "tape" "[B") (List.mem_of_getElem? (i := 2) (by decide +kernel))) (fun _ h9 => h9) rfl dX3_append_18 ?_
  refine lv_aload_n hx hb dX3_append_21 rfl (lv_at hl 1 rfl) ?_
  refine va_get (D := D) (cl := vwCl) (ci := 3) (v := .int 4) (C := RX3) (T := TX3) (N := 13) hx hb hts in_X3_append_X3 hown hK hP 0 rfl rfl 2 (by decide) (hts (.fieldLink RX3 49 "EightReasons$Reader" "bytes" "I") (List.mem_of_getElem? (i := 1) (by decide +kernel))) (fun _ h9 => h9) rfl dX3_append_22 ?_
  refine lv_iload_n hx hb dX3_append_25 rfl (lv_at hl 2 rfl) ?_
  refine lv_iload_n hx hb dX3_append_26 rfl (lv_at hl 0 rfl) ?_
  refine lv_ishr hx hb dX3_append_27 ?_
  refine lv_i2b hx hb dX3_append_28 rfl ?_
  refine va_bast hx hb hK hP hD hS 1 1 rfl rfl (vin (by decide)) dX3_append_29 (fun H locs hP hD hS => ?_)
  generalize hhg1 : upd g1_ (Int32.toNatClampNeg 4) (vp_nar .byte (p1 >>> (24 &&& 31)).toInt8.toInt32) = g1 at hP hD
  have hP : va_P D vwCl [(a0, .inr (3, [v0_0, v0_1, .int 4, .ref a1, v0_4, v0_5, v0_6, v0_7, v0_8, v0_9, v0_10, v0_11, v0_12])), (a1, .inl (cy 1, 1600, .inl g1))] H := hP
  have hD : va_D A [(a0, .inr (3, [v0_0, v0_1, .int 4, .ref a1, v0_4, v0_5, v0_6, v0_7, v0_8, v0_9, v0_10, v0_11, v0_12])), (a1, .inl (cy 1, 1600, .inl g1))] := hD
  refine lv_aload_n hx hb dX3_append_30 rfl (lv_at hl 1 rfl) ?_
  refine lv_dup hx hb dX3_append_31 rfl ?_
  refine va_get (D := D) (cl := vwCl) (ci := 3) (v := .int 4) (C := RX3) (T := TX3) (N := 13) hx hb hts in_X3_append_X3 hown hK hP 0 rfl rfl 2 (by decide) (hts (.fieldLink RX3 49 "EightReasons$Reader" "bytes" "I") (List.mem_of_getElem? (i := 1) (by decide +kernel))) (fun _ h9 => h9) rfl dX3_append_32 ?_
  refine lv_iconst (v := 1) hx hb dX3_append_35 (by decide) ?_
  refine lv_iadd hx hb dX3_append_36 (tpi (v := 5) (by decide) ?_)
  refine va_put (D := D) (cl := vwCl) (ci := 3) (v := .int 5) (ty := tyX3 2) (C := RX3) (T := TX3) (N := 13) hx hb hts in_X3_append_X3 tyX3 tyX3_ok nmX3 hown hK hP hD hS 0 rfl rfl 2 (by decide) (hts (.fieldLink RX3 49 "EightReasons$Reader" "bytes" "I") (List.mem_of_getElem? (i := 1) (by decide +kernel))) (fun _ h9 => h9) rfl (tyX3_ok 2 (by decide)) rfl rfl (Nat.le_of_ble_eq_true rfl) dX3_append_37 (fun H locs hP hD hS => ?_)
  have hP : va_P D vwCl [(a0, .inr (3, [v0_0, v0_1, .int 5, .ref a1, v0_4, v0_5, v0_6, v0_7, v0_8, v0_9, v0_10, v0_11, v0_12])), (a1, .inl (cy 1, 1600, .inl g1))] H := hP
  have hD : va_D A [(a0, .inr (3, [v0_0, v0_1, .int 5, .ref a1, v0_4, v0_5, v0_6, v0_7, v0_8, v0_9, v0_10, v0_11, v0_12])), (a1, .inl (cy 1, 1600, .inl g1))] := hD
  refine lv_iinc (v := 16) (lv' := [(2, .int 16), (0, .ref a0), (1, .int p1)]) hx hb dX3_append_40 hl (k := 0) rfl (by decide) (by decide) rfl (fun ls hl => ?_)
  refine lv_goto (tgt := 3) hx hb dX3_append_43 (by decide) ?_
  refine lv_iload_n hx hb dX3_append_3 rfl (lv_at hl 0 rfl) ?_
  refine lv_if_lt (tgt := 46) hx hb dX3_append_4 (by decide) (fun c => absurd c (by decide)) (fun _ => ?_)
  refine lv_aload_n hx hb dX3_append_7 rfl (lv_at hl 1 rfl) ?_
  refine va_get (D := D) (cl := vwCl) (ci := 3) (v := .int 5) (C := RX3) (T := TX3) (N := 13) hx hb hts in_X3_append_X3 hown hK hP 0 rfl rfl 2 (by decide) (hts (.fieldLink RX3 49 "EightReasons$Reader" "bytes" "I") (List.mem_of_getElem? (i := 1) (by decide +kernel))) (fun _ h9 => h9) rfl dX3_append_8 ?_
  refine lv_sipush (v := 1600) hx hb dX3_append_11 (by decide) ?_
  refine lv_icmp_ge (tgt := 46) hx hb dX3_append_14 (by decide) (fun c => absurd c (by decide)) (fun _ => ?_)
  refine lv_aload_n hx hb dX3_append_17 rfl (lv_at hl 1 rfl) ?_
  refine va_get (D := D) (cl := vwCl) (ci := 3) (v := .ref a1) (C := RX3) (T := TX3) (N := 13) hx hb hts in_X3_append_X3 hown hK hP 0 rfl rfl 3 (by decide) (hts (.fieldLink RX3 15 "EightReasons$Reader" "tape" "[B") (List.mem_of_getElem? (i := 2) (by decide +kernel))) (fun _ h9 => h9) rfl dX3_append_18 ?_
  refine lv_aload_n hx hb dX3_append_21 rfl (lv_at hl 1 rfl) ?_
  refine va_get (D := D) (cl := vwCl) (ci := 3) (v := .int 5) (C := RX3) (T := TX3) (N := 13) hx hb hts in_X3_append_X3 hown hK hP 0 rfl rfl 2 (by decide) (hts (.fieldLink RX3 49 "EightReasons$Reader" "bytes" "I") (List.mem_of_getElem? (i := 1) (by decide +kernel))) (fun _ h9 => h9) rfl dX3_append_22 ?_
  refine lv_iload_n hx hb dX3_append_25 rfl (lv_at hl 2 rfl) ?_
  refine lv_iload_n hx hb dX3_append_26 rfl (lv_at hl 0 rfl) ?_
  refine lv_ishr hx hb dX3_append_27 ?_
  refine lv_i2b hx hb dX3_append_28 rfl ?_
  refine va_bast hx hb hK hP hD hS 1 1 rfl rfl (vin (by decide)) dX3_append_29 (fun H locs hP hD hS => ?_)
  generalize hhg2 : upd g1 (Int32.toNatClampNeg 5) (vp_nar .byte (p1 >>> (16 &&& 31)).toInt8.toInt32) = g2 at hP hD
  have hP : va_P D vwCl [(a0, .inr (3, [v0_0, v0_1, .int 5, .ref a1, v0_4, v0_5, v0_6, v0_7, v0_8, v0_9, v0_10, v0_11, v0_12])), (a1, .inl (cy 1, 1600, .inl g2))] H := hP
  have hD : va_D A [(a0, .inr (3, [v0_0, v0_1, .int 5, .ref a1, v0_4, v0_5, v0_6, v0_7, v0_8, v0_9, v0_10, v0_11, v0_12])), (a1, .inl (cy 1, 1600, .inl g2))] := hD
  refine lv_aload_n hx hb dX3_append_30 rfl (lv_at hl 1 rfl) ?_
  refine lv_dup hx hb dX3_append_31 rfl ?_
  refine va_get (D := D) (cl := vwCl) (ci := 3) (v := .int 5) (C := RX3) (T := TX3) (N := 13) hx hb hts in_X3_append_X3 hown hK hP 0 rfl rfl 2 (by decide) (hts (.fieldLink RX3 49 "EightReasons$Reader" "bytes" "I") (List.mem_of_getElem? (i := 1) (by decide +kernel))) (fun _ h9 => h9) rfl dX3_append_32 ?_
  refine lv_iconst (v := 1) hx hb dX3_append_35 (by decide) ?_
  refine lv_iadd hx hb dX3_append_36 (tpi (v := 6) (by decide) ?_)
  refine va_put (D := D) (cl := vwCl) (ci := 3) (v := .int 6) (ty := tyX3 2) (C := RX3) (T := TX3) (N := 13) hx hb hts in_X3_append_X3 tyX3 tyX3_ok nmX3 hown hK hP hD hS 0 rfl rfl 2 (by decide) (hts (.fieldLink RX3 49 "EightReasons$Reader" "bytes" "I") (List.mem_of_getElem? (i := 1) (by decide +kernel))) (fun _ h9 => h9) rfl (tyX3_ok 2 (by decide)) rfl rfl (Nat.le_of_ble_eq_true rfl) dX3_append_37 (fun H locs hP hD hS => ?_)
  have hP : va_P D vwCl [(a0, .inr (3, [v0_0, v0_1, .int 6, .ref a1, v0_4, v0_5, v0_6, v0_7, v0_8, v0_9, v0_10, v0_11, v0_12])), (a1, .inl (cy 1, 1600, .inl g2))] H := hP
  have hD : va_D A [(a0, .inr (3, [v0_0, v0_1, .int 6, .ref a1, v0_4, v0_5, v0_6, v0_7, v0_8, v0_9, v0_10, v0_11, v0_12])), (a1, .inl (cy 1, 1600, .inl g2))] := hD
  refine lv_iinc (v := 8) (lv' := [(2, .int 8), (0, .ref a0), (1, .int p1)]) hx hb dX3_append_40 hl (k := 0) rfl (by decide) (by decide) rfl (fun ls hl => ?_)
  refine lv_goto (tgt := 3) hx hb dX3_append_43 (by decide) ?_
  refine lv_iload_n hx hb dX3_append_3 rfl (lv_at hl 0 rfl) ?_
  refine lv_if_lt (tgt := 46) hx hb dX3_append_4 (by decide) (fun c => absurd c (by decide)) (fun _ => ?_)
  refine lv_aload_n hx hb dX3_append_7 rfl (lv_at hl 1 rfl) ?_
  refine va_get (D := D) (cl := vwCl) (ci := 3) (v := .int 6) (C := RX3) (T := TX3) (N := 13) hx hb hts in_X3_append_X3 hown hK hP 0 rfl rfl 2 (by decide) (hts (.fieldLink RX3 49 "EightReasons$Reader" "bytes" "I") (List.mem_of_getElem? (i := 1) (by decide +kernel))) (fun _ h9 => h9) rfl dX3_append_8 ?_
  refine lv_sipush (v := 1600) hx hb dX3_append_11 (by decide) ?_
  refine lv_icmp_ge (tgt := 46) hx hb dX3_append_14 (by decide) (fun c => absurd c (by decide)) (fun _ => ?_)
  refine lv_aload_n hx hb dX3_append_17 rfl (lv_at hl 1 rfl) ?_
  refine va_get (D := D) (cl := vwCl) (ci := 3) (v := .ref a1) (C := RX3) (T := TX3) (N := 13) hx hb hts in_X3_append_X3 hown hK hP 0 rfl rfl 3 (by decide) (hts (.fieldLink RX3 15 "EightReasons$Reader" "tape" "[B") (List.mem_of_getElem? (i := 2) (by decide +kernel))) (fun _ h9 => h9) rfl dX3_append_18 ?_
  refine lv_aload_n hx hb dX3_append_21 rfl (lv_at hl 1 rfl) ?_
  refine va_get (D := D) (cl := vwCl) (ci := 3) (v := .int 6) (C := RX3) (T := TX3) (N := 13) hx hb hts in_X3_append_X3 hown hK hP 0 rfl rfl 2 (by decide) (hts (.fieldLink RX3 49 "EightReasons$Reader" "bytes" "I") (List.mem_of_getElem? (i := 1) (by decide +kernel))) (fun _ h9 => h9) rfl dX3_append_22 ?_
  refine lv_iload_n hx hb dX3_append_25 rfl (lv_at hl 2 rfl) ?_
  refine lv_iload_n hx hb dX3_append_26 rfl (lv_at hl 0 rfl) ?_
  refine lv_ishr hx hb dX3_append_27 ?_
  refine lv_i2b hx hb dX3_append_28 rfl ?_
  refine va_bast hx hb hK hP hD hS 1 1 rfl rfl (vin (by decide)) dX3_append_29 (fun H locs hP hD hS => ?_)
  generalize hhg3 : upd g2 (Int32.toNatClampNeg 6) (vp_nar .byte (p1 >>> (8 &&& 31)).toInt8.toInt32) = g3 at hP hD
  have hP : va_P D vwCl [(a0, .inr (3, [v0_0, v0_1, .int 6, .ref a1, v0_4, v0_5, v0_6, v0_7, v0_8, v0_9, v0_10, v0_11, v0_12])), (a1, .inl (cy 1, 1600, .inl g3))] H := hP
  have hD : va_D A [(a0, .inr (3, [v0_0, v0_1, .int 6, .ref a1, v0_4, v0_5, v0_6, v0_7, v0_8, v0_9, v0_10, v0_11, v0_12])), (a1, .inl (cy 1, 1600, .inl g3))] := hD
  refine lv_aload_n hx hb dX3_append_30 rfl (lv_at hl 1 rfl) ?_
  refine lv_dup hx hb dX3_append_31 rfl ?_
  refine va_get (D := D) (cl := vwCl) (ci := 3) (v := .int 6) (C := RX3) (T := TX3) (N := 13) hx hb hts in_X3_append_X3 hown hK hP 0 rfl rfl 2 (by decide) (hts (.fieldLink RX3 49 "EightReasons$Reader" "bytes" "I") (List.mem_of_getElem? (i := 1) (by decide +kernel))) (fun _ h9 => h9) rfl dX3_append_32 ?_
  refine lv_iconst (v := 1) hx hb dX3_append_35 (by decide) ?_
  refine lv_iadd hx hb dX3_append_36 (tpi (v := 7) (by decide) ?_)
  refine va_put (D := D) (cl := vwCl) (ci := 3) (v := .int 7) (ty := tyX3 2) (C := RX3) (T := TX3) (N := 13) hx hb hts in_X3_append_X3 tyX3 tyX3_ok nmX3 hown hK hP hD hS 0 rfl rfl 2 (by decide) (hts (.fieldLink RX3 49 "EightReasons$Reader" "bytes" "I") (List.mem_of_getElem? (i := 1) (by decide +kernel))) (fun _ h9 => h9) rfl (tyX3_ok 2 (by decide)) rfl rfl (Nat.le_of_ble_eq_true rfl) dX3_append_37 (fun H locs hP hD hS => ?_)
  have hP : va_P D vwCl [(a0, .inr (3, [v0_0, v0_1, .int 7, .ref a1, v0_4, v0_5, v0_6, v0_7, v0_8, v0_9, v0_10, v0_11, v0_12])), (a1, .inl (cy 1, 1600, .inl g3))] H := hP
  have hD : va_D A [(a0, .inr (3, [v0_0, v0_1, .int 7, .ref a1, v0_4, v0_5, v0_6, v0_7, v0_8, v0_9, v0_10, v0_11, v0_12])), (a1, .inl (cy 1, 1600, .inl g3))] := hD
  refine lv_iinc (v := 0) (lv' := [(2, .int 0), (0, .ref a0), (1, .int p1)]) hx hb dX3_append_40 hl (k := 0) rfl (by decide) (by decide) rfl (fun ls hl => ?_)
  refine lv_goto (tgt := 3) hx hb dX3_append_43 (by decide) ?_
  refine lv_iload_n hx hb dX3_append_3 rfl (lv_at hl 0 rfl) ?_
  refine lv_if_lt (tgt := 46) hx hb dX3_append_4 (by decide) (fun c => absurd c (by decide)) (fun _ => ?_)
  refine lv_aload_n hx hb dX3_append_7 rfl (lv_at hl 1 rfl) ?_
  refine va_get (D := D) (cl := vwCl) (ci := 3) (v := .int 7) (C := RX3) (T := TX3) (N := 13) hx hb hts in_X3_append_X3 hown hK hP 0 rfl rfl 2 (by decide) (hts (.fieldLink RX3 49 "EightReasons$Reader" "bytes" "I") (List.mem_of_getElem? (i := 1) (by decide +kernel))) (fun _ h9 => h9) rfl dX3_append_8 ?_
  refine lv_sipush (v := 1600) hx hb dX3_append_11 (by decide) ?_
  refine lv_icmp_ge (tgt := 46) hx hb dX3_append_14 (by decide) (fun c => absurd c (by decide)) (fun _ => ?_)
  refine lv_aload_n hx hb dX3_append_17 rfl (lv_at hl 1 rfl) ?_
  refine va_get (D := D) (cl := vwCl) (ci := 3) (v := .ref a1) (C := RX3) (T := TX3) (N := 13) hx hb hts in_X3_append_X3 hown hK hP 0 rfl rfl 3 (by decide) (hts (.fieldLink RX3 15 "EightReasons$Reader" "tape" "[B") (List.mem_of_getElem? (i := 2) (by decide +kernel))) (fun _ h9 => h9) rfl dX3_append_18 ?_
  refine lv_aload_n hx hb dX3_append_21 rfl (lv_at hl 1 rfl) ?_
  refine va_get (D := D) (cl := vwCl) (ci := 3) (v := .int 7) (C := RX3) (T := TX3) (N := 13) hx hb hts in_X3_append_X3 hown hK hP 0 rfl rfl 2 (by decide) (hts (.fieldLink RX3 49 "EightReasons$Reader" "bytes" "I") (List.mem_of_getElem? (i := 1) (by decide +kernel))) (fun _ h9 => h9) rfl dX3_append_22 ?_
  refine lv_iload_n hx hb dX3_append_25 rfl (lv_at hl 2 rfl) ?_
  refine lv_iload_n hx hb dX3_append_26 rfl (lv_at hl 0 rfl) ?_
  refine lv_ishr hx hb dX3_append_27 ?_
  refine lv_i2b hx hb dX3_append_28 rfl ?_
  refine va_bast hx hb hK hP hD hS 1 1 rfl rfl (vin (by decide)) dX3_append_29 (fun H locs hP hD hS => ?_)
  generalize hhg4 : upd g3 (Int32.toNatClampNeg 7) (vp_nar .byte (p1 >>> (0 &&& 31)).toInt8.toInt32) = g4 at hP hD
  have hP : va_P D vwCl [(a0, .inr (3, [v0_0, v0_1, .int 7, .ref a1, v0_4, v0_5, v0_6, v0_7, v0_8, v0_9, v0_10, v0_11, v0_12])), (a1, .inl (cy 1, 1600, .inl g4))] H := hP
  have hD : va_D A [(a0, .inr (3, [v0_0, v0_1, .int 7, .ref a1, v0_4, v0_5, v0_6, v0_7, v0_8, v0_9, v0_10, v0_11, v0_12])), (a1, .inl (cy 1, 1600, .inl g4))] := hD
  refine lv_aload_n hx hb dX3_append_30 rfl (lv_at hl 1 rfl) ?_
  refine lv_dup hx hb dX3_append_31 rfl ?_
  refine va_get (D := D) (cl := vwCl) (ci := 3) (v := .int 7) (C := RX3) (T := TX3) (N := 13) hx hb hts in_X3_append_X3 hown hK hP 0 rfl rfl 2 (by decide) (hts (.fieldLink RX3 49 "EightReasons$Reader" "bytes" "I") (List.mem_of_getElem? (i := 1) (by decide +kernel))) (fun _ h9 => h9) rfl dX3_append_32 ?_
  refine lv_iconst (v := 1) hx hb dX3_append_35 (by decide) ?_
  refine lv_iadd hx hb dX3_append_36 (tpi (v := 8) (by decide) ?_)
  refine va_put (D := D) (cl := vwCl) (ci := 3) (v := .int 8) (ty := tyX3 2) (C := RX3) (T := TX3) (N := 13) hx hb hts in_X3_append_X3 tyX3 tyX3_ok nmX3 hown hK hP hD hS 0 rfl rfl 2 (by decide) (hts (.fieldLink RX3 49 "EightReasons$Reader" "bytes" "I") (List.mem_of_getElem? (i := 1) (by decide +kernel))) (fun _ h9 => h9) rfl (tyX3_ok 2 (by decide)) rfl rfl (Nat.le_of_ble_eq_true rfl) dX3_append_37 (fun H locs hP hD hS => ?_)
  have hP : va_P D vwCl [(a0, .inr (3, [v0_0, v0_1, .int 8, .ref a1, v0_4, v0_5, v0_6, v0_7, v0_8, v0_9, v0_10, v0_11, v0_12])), (a1, .inl (cy 1, 1600, .inl g4))] H := hP
  have hD : va_D A [(a0, .inr (3, [v0_0, v0_1, .int 8, .ref a1, v0_4, v0_5, v0_6, v0_7, v0_8, v0_9, v0_10, v0_11, v0_12])), (a1, .inl (cy 1, 1600, .inl g4))] := hD
  refine lv_iinc (v := (-8)) (lv' := [(2, .int (-8)), (0, .ref a0), (1, .int p1)]) hx hb dX3_append_40 hl (k := 0) rfl (by decide) (by decide) rfl (fun ls hl => ?_)
  refine lv_goto (tgt := 3) hx hb dX3_append_43 (by decide) ?_
  refine lv_iload_n hx hb dX3_append_3 rfl (lv_at hl 0 rfl) ?_
  refine lv_if_lt (tgt := 46) hx hb dX3_append_4 (by decide) (fun _ => ?_) (fun c => absurd (by decide) c)
  exact rtV hx hb hr hlk hP hD hS (fun j => [g4].getD j zI) [0, 1] rfl rfl trivial dX3_append_46
set_option maxHeartbeats 4000000 in
set_option maxRecDepth 100000 in
theorem k_X3_append_2 (l : Launch) (D : va_G) (cy : Nat → ClassId) (a0 a1 : Nat) (v0_0 : Value) (v0_1 : Value) (v0_4 : Value) (v0_5 : Value) (v0_6 : Value) (v0_7 : Value) (v0_8 : Value) (v0_9 : Value) (v0_10 : Value) (v0_11 : Value) (v0_12 : Value) (g1_ : Nat → Int32) (p1 : Int32) (sz : Nat) : CtV l yX3_append wsX3_append 0 0 [.ref a0, .int p1] D cy [(a0, .inr (3, [v0_0, v0_1, .int 8, .ref a1, v0_4, v0_5, v0_6, v0_7, v0_8, v0_9, v0_10, v0_11, v0_12])), (a1, .inl (cy 1, 1600, .inl g1_))] sz 0 0 (fun (_ : Nat → Nat → Int32) => True) (fun u => [(a0, .inr (3, [v0_0, v0_1, .int 12, .ref a1, v0_4, v0_5, v0_6, v0_7, v0_8, v0_9, v0_10, v0_11, v0_12])), (a1, .inl (cy 1, 1600, .inl (u 0)))]) := by
  refine CtV.of (cc := cX3_append) (maxL := 3) (own := RX3) (by decide) rfl (Nat.le_of_ble_eq_true rfl) rfl ?_
  intro p e s m below meth c A ls hx hb hr hml hts hown hlk hK hP hD hS hA hl
  have hl : lv_has ls 3 [(0, .ref a0), (1, .int p1)] := hl
  refine st0 (fun H locs hP hS => ?_) hP hS
  have hP : va_P D vwCl [(a0, .inr (3, [v0_0, v0_1, .int 8, .ref a1, v0_4, v0_5, v0_6, v0_7, v0_8, v0_9, v0_10, v0_11, v0_12])), (a1, .inl (cy 1, 1600, .inl g1_))] H := hP
  have hD : va_D A [(a0, .inr (3, [v0_0, v0_1, .int 8, .ref a1, v0_4, v0_5, v0_6, v0_7, v0_8, v0_9, v0_10, v0_11, v0_12])), (a1, .inl (cy 1, 1600, .inl g1_))] := hD
  refine lv_bipush (v := 24) hx hb dX3_append_0 (by decide) ?_
  refine lv_istore_n (lv' := [(2, .int 24), (0, .ref a0), (1, .int p1)]) hx hb dX3_append_2 rfl hl (by decide) rfl (fun ls hl => ?_)
  refine lv_iload_n hx hb dX3_append_3 rfl (lv_at hl 0 rfl) ?_
  refine lv_if_lt (tgt := 46) hx hb dX3_append_4 (by decide) (fun c => absurd c (by decide)) (fun _ => ?_)
  refine lv_aload_n hx hb dX3_append_7 rfl (lv_at hl 1 rfl) ?_
  refine va_get (D := D) (cl := vwCl) (ci := 3) (v := .int 8) (C := RX3) (T := TX3) (N := 13) hx hb hts in_X3_append_X3 hown hK hP 0 rfl rfl 2 (by decide) (hts (.fieldLink RX3 49 "EightReasons$Reader" "bytes" "I") (List.mem_of_getElem? (i := 1) (by decide +kernel))) (fun _ h9 => h9) rfl dX3_append_8 ?_
  refine lv_sipush (v := 1600) hx hb dX3_append_11 (by decide) ?_
  refine lv_icmp_ge (tgt := 46) hx hb dX3_append_14 (by decide) (fun c => absurd c (by decide)) (fun _ => ?_)
  refine lv_aload_n hx hb dX3_append_17 rfl (lv_at hl 1 rfl) ?_
  refine va_get (D := D) (cl := vwCl) (ci := 3) (v := .ref a1) (C := RX3) (T := TX3) (N := 13) hx hb hts in_X3_append_X3 hown hK hP 0 rfl rfl 3 (by decide) (hts (.fieldLink RX3 15 "EightReasons$Reader" "tape" "[B") (List.mem_of_getElem? (i := 2) (by decide +kernel))) (fun _ h9 => h9) rfl dX3_append_18 ?_
  refine lv_aload_n hx hb dX3_append_21 rfl (lv_at hl 1 rfl) ?_
  refine va_get (D := D) (cl := vwCl) (ci := 3) (v := .int 8) (C := RX3) (T := TX3) (N := 13) hx hb hts in_X3_append_X3 hown hK hP 0 rfl rfl 2 (by decide) (hts (.fieldLink RX3 49 "EightReasons$Reader" "bytes" "I") (List.mem_of_getElem? (i := 1) (by decide +kernel))) (fun _ h9 => h9) rfl dX3_append_22 ?_
  refine lv_iload_n hx hb dX3_append_25 rfl (lv_at hl 2 rfl) ?_
  refine lv_iload_n hx hb dX3_append_26 rfl (lv_at hl 0 rfl) ?_
  refine lv_ishr hx hb dX3_append_27 ?_
  refine lv_i2b hx hb dX3_append_28 rfl ?_
  refine va_bast hx hb hK hP hD hS 1 1 rfl rfl (vin (by decide)) dX3_append_29 (fun H locs hP hD hS => ?_)
  generalize hhg1 : upd g1_ (Int32.toNatClampNeg 8) (vp_nar .byte (p1 >>> (24 &&& 31)).toInt8.toInt32) = g1 at hP hD
  have hP : va_P D vwCl [(a0, .inr (3, [v0_0, v0_1, .int 8, .ref a1, v0_4, v0_5, v0_6, v0_7, v0_8, v0_9, v0_10, v0_11, v0_12])), (a1, .inl (cy 1, 1600, .inl g1))] H := hP
  have hD : va_D A [(a0, .inr (3, [v0_0, v0_1, .int 8, .ref a1, v0_4, v0_5, v0_6, v0_7, v0_8, v0_9, v0_10, v0_11, v0_12])), (a1, .inl (cy 1, 1600, .inl g1))] := hD
  refine lv_aload_n hx hb dX3_append_30 rfl (lv_at hl 1 rfl) ?_
  refine lv_dup hx hb dX3_append_31 rfl ?_
  refine va_get (D := D) (cl := vwCl) (ci := 3) (v := .int 8) (C := RX3) (T := TX3) (N := 13) hx hb hts in_X3_append_X3 hown hK hP 0 rfl rfl 2 (by decide) (hts (.fieldLink RX3 49 "EightReasons$Reader" "bytes" "I") (List.mem_of_getElem? (i := 1) (by decide +kernel))) (fun _ h9 => h9) rfl dX3_append_32 ?_
  refine lv_iconst (v := 1) hx hb dX3_append_35 (by decide) ?_
  refine lv_iadd hx hb dX3_append_36 (tpi (v := 9) (by decide) ?_)
  refine va_put (D := D) (cl := vwCl) (ci := 3) (v := .int 9) (ty := tyX3 2) (C := RX3) (T := TX3) (N := 13) hx hb hts in_X3_append_X3 tyX3 tyX3_ok nmX3 hown hK hP hD hS 0 rfl rfl 2 (by decide) (hts (.fieldLink RX3 49 "EightReasons$Reader" "bytes" "I") (List.mem_of_getElem? (i := 1) (by decide +kernel))) (fun _ h9 => h9) rfl (tyX3_ok 2 (by decide)) rfl rfl (Nat.le_of_ble_eq_true rfl) dX3_append_37 (fun H locs hP hD hS => ?_)
  have hP : va_P D vwCl [(a0, .inr (3, [v0_0, v0_1, .int 9, .ref a1, v0_4, v0_5, v0_6, v0_7, v0_8, v0_9, v0_10, v0_11, v0_12])), (a1, .inl (cy 1, 1600, .inl g1))] H := hP
  have hD : va_D A [(a0, .inr (3, [v0_0, v0_1, .int 9, .ref a1, v0_4, v0_5, v0_6, v0_7, v0_8, v0_9, v0_10, v0_11, v0_12])), (a1, .inl (cy 1, 1600, .inl g1))] := hD
  refine lv_iinc (v := 16) (lv' := [(2, .int 16), (0, .ref a0), (1, .int p1)]) hx hb dX3_append_40 hl (k := 0) rfl (by decide) (by decide) rfl (fun ls hl => ?_)
  refine lv_goto (tgt := 3) hx hb dX3_append_43 (by decide) ?_
  refine lv_iload_n hx hb dX3_append_3 rfl (lv_at hl 0 rfl) ?_
  refine lv_if_lt (tgt := 46) hx hb dX3_append_4 (by decide) (fun c => absurd c (by decide)) (fun _ => ?_)
  refine lv_aload_n hx hb dX3_append_7 rfl (lv_at hl 1 rfl) ?_
  refine va_get (D := D) (cl := vwCl) (ci := 3) (v := .int 9) (C := RX3) (T := TX3) (N := 13) hx hb hts in_X3_append_X3 hown hK hP 0 rfl rfl 2 (by decide) (hts (.fieldLink RX3 49 "EightReasons$Reader" "bytes" "I") (List.mem_of_getElem? (i := 1) (by decide +kernel))) (fun _ h9 => h9) rfl dX3_append_8 ?_
  refine lv_sipush (v := 1600) hx hb dX3_append_11 (by decide) ?_
  refine lv_icmp_ge (tgt := 46) hx hb dX3_append_14 (by decide) (fun c => absurd c (by decide)) (fun _ => ?_)
  refine lv_aload_n hx hb dX3_append_17 rfl (lv_at hl 1 rfl) ?_
  refine va_get (D := D) (cl := vwCl) (ci := 3) (v := .ref a1) (C := RX3) (T := TX3) (N := 13) hx hb hts in_X3_append_X3 hown hK hP 0 rfl rfl 3 (by decide) (hts (.fieldLink RX3 15 "EightReasons$Reader" "tape" "[B") (List.mem_of_getElem? (i := 2) (by decide +kernel))) (fun _ h9 => h9) rfl dX3_append_18 ?_
  refine lv_aload_n hx hb dX3_append_21 rfl (lv_at hl 1 rfl) ?_
  refine va_get (D := D) (cl := vwCl) (ci := 3) (v := .int 9) (C := RX3) (T := TX3) (N := 13) hx hb hts in_X3_append_X3 hown hK hP 0 rfl rfl 2 (by decide) (hts (.fieldLink RX3 49 "EightReasons$Reader" "bytes" "I") (List.mem_of_getElem? (i := 1) (by decide +kernel))) (fun _ h9 => h9) rfl dX3_append_22 ?_
  refine lv_iload_n hx hb dX3_append_25 rfl (lv_at hl 2 rfl) ?_
  refine lv_iload_n hx hb dX3_append_26 rfl (lv_at hl 0 rfl) ?_
  refine lv_ishr hx hb dX3_append_27 ?_
  refine lv_i2b hx hb dX3_append_28 rfl ?_
  refine va_bast hx hb hK hP hD hS 1 1 rfl rfl (vin (by decide)) dX3_append_29 (fun H locs hP hD hS => ?_)
  generalize hhg2 : upd g1 (Int32.toNatClampNeg 9) (vp_nar .byte (p1 >>> (16 &&& 31)).toInt8.toInt32) = g2 at hP hD
  have hP : va_P D vwCl [(a0, .inr (3, [v0_0, v0_1, .int 9, .ref a1, v0_4, v0_5, v0_6, v0_7, v0_8, v0_9, v0_10, v0_11, v0_12])), (a1, .inl (cy 1, 1600, .inl g2))] H := hP
  have hD : va_D A [(a0, .inr (3, [v0_0, v0_1, .int 9, .ref a1, v0_4, v0_5, v0_6, v0_7, v0_8, v0_9, v0_10, v0_11, v0_12])), (a1, .inl (cy 1, 1600, .inl g2))] := hD
  refine lv_aload_n hx hb dX3_append_30 rfl (lv_at hl 1 rfl) ?_
  refine lv_dup hx hb dX3_append_31 rfl ?_
  refine va_get (D := D) (cl := vwCl) (ci := 3) (v := .int 9) (C := RX3) (T := TX3) (N := 13) hx hb hts in_X3_append_X3 hown hK hP 0 rfl rfl 2 (by decide) (hts (.fieldLink RX3 49 "EightReasons$Reader" "bytes" "I") (List.mem_of_getElem? (i := 1) (by decide +kernel))) (fun _ h9 => h9) rfl dX3_append_32 ?_
  refine lv_iconst (v := 1) hx hb dX3_append_35 (by decide) ?_
  refine lv_iadd hx hb dX3_append_36 (tpi (v := 10) (by decide) ?_)
  refine va_put (D := D) (cl := vwCl) (ci := 3) (v := .int 10) (ty := tyX3 2) (C := RX3) (T := TX3) (N := 13) hx hb hts in_X3_append_X3 tyX3 tyX3_ok nmX3 hown hK hP hD hS 0 rfl rfl 2 (by decide) (hts (.fieldLink RX3 49 "EightReasons$Reader" "bytes" "I") (List.mem_of_getElem? (i := 1) (by decide +kernel))) (fun _ h9 => h9) rfl (tyX3_ok 2 (by decide)) rfl rfl (Nat.le_of_ble_eq_true rfl) dX3_append_37 (fun H locs hP hD hS => ?_)
  have hP : va_P D vwCl [(a0, .inr (3, [v0_0, v0_1, .int 10, .ref a1, v0_4, v0_5, v0_6, v0_7, v0_8, v0_9, v0_10, v0_11, v0_12])), (a1, .inl (cy 1, 1600, .inl g2))] H := hP
  have hD : va_D A [(a0, .inr (3, [v0_0, v0_1, .int 10, .ref a1, v0_4, v0_5, v0_6, v0_7, v0_8, v0_9, v0_10, v0_11, v0_12])), (a1, .inl (cy 1, 1600, .inl g2))] := hD
  refine lv_iinc (v := 8) (lv' := [(2, .int 8), (0, .ref a0), (1, .int p1)]) hx hb dX3_append_40 hl (k := 0) rfl (by decide) (by decide) rfl (fun ls hl => ?_)
  refine lv_goto (tgt := 3) hx hb dX3_append_43 (by decide) ?_
  refine lv_iload_n hx hb dX3_append_3 rfl (lv_at hl 0 rfl) ?_
  refine lv_if_lt (tgt := 46) hx hb dX3_append_4 (by decide) (fun c => absurd c (by decide)) (fun _ => ?_)
  refine lv_aload_n hx hb dX3_append_7 rfl (lv_at hl 1 rfl) ?_
  refine va_get (D := D) (cl := vwCl) (ci := 3) (v := .int 10) (C := RX3) (T := TX3) (N := 13) hx hb hts in_X3_append_X3 hown hK hP 0 rfl rfl 2 (by decide) (hts (.fieldLink RX3 49 "EightReasons$Reader" "bytes" "I") (List.mem_of_getElem? (i := 1) (by decide +kernel))) (fun _ h9 => h9) rfl dX3_append_8 ?_
  refine lv_sipush (v := 1600) hx hb dX3_append_11 (by decide) ?_
  refine lv_icmp_ge (tgt := 46) hx hb dX3_append_14 (by decide) (fun c => absurd c (by decide)) (fun _ => ?_)
  refine lv_aload_n hx hb dX3_append_17 rfl (lv_at hl 1 rfl) ?_
  refine va_get (D := D) (cl := vwCl) (ci := 3) (v := .ref a1) (C := RX3) (T := TX3) (N := 13) hx hb hts in_X3_append_X3 hown hK hP 0 rfl rfl 3 (by decide) (hts (.fieldLink RX3 15 "EightReasons$Reader" "tape" "[B") (List.mem_of_getElem? (i := 2) (by decide +kernel))) (fun _ h9 => h9) rfl dX3_append_18 ?_
  refine lv_aload_n hx hb dX3_append_21 rfl (lv_at hl 1 rfl) ?_
  refine va_get (D := D) (cl := vwCl) (ci := 3) (v := .int 10) (C := RX3) (T := TX3) (N := 13) hx hb hts in_X3_append_X3 hown hK hP 0 rfl rfl 2 (by decide) (hts (.fieldLink RX3 49 "EightReasons$Reader" "bytes" "I") (List.mem_of_getElem? (i := 1) (by decide +kernel))) (fun _ h9 => h9) rfl dX3_append_22 ?_
  refine lv_iload_n hx hb dX3_append_25 rfl (lv_at hl 2 rfl) ?_
  refine lv_iload_n hx hb dX3_append_26 rfl (lv_at hl 0 rfl) ?_
  refine lv_ishr hx hb dX3_append_27 ?_
  refine lv_i2b hx hb dX3_append_28 rfl ?_
  refine va_bast hx hb hK hP hD hS 1 1 rfl rfl (vin (by decide)) dX3_append_29 (fun H locs hP hD hS => ?_)
  generalize hhg3 : upd g2 (Int32.toNatClampNeg 10) (vp_nar .byte (p1 >>> (8 &&& 31)).toInt8.toInt32) = g3 at hP hD
  have hP : va_P D vwCl [(a0, .inr (3, [v0_0, v0_1, .int 10, .ref a1, v0_4, v0_5, v0_6, v0_7, v0_8, v0_9, v0_10, v0_11, v0_12])), (a1, .inl (cy 1, 1600, .inl g3))] H := hP
  have hD : va_D A [(a0, .inr (3, [v0_0, v0_1, .int 10, .ref a1, v0_4, v0_5, v0_6, v0_7, v0_8, v0_9, v0_10, v0_11, v0_12])), (a1, .inl (cy 1, 1600, .inl g3))] := hD
  refine lv_aload_n hx hb dX3_append_30 rfl (lv_at hl 1 rfl) ?_
  refine lv_dup hx hb dX3_append_31 rfl ?_
  refine va_get (D := D) (cl := vwCl) (ci := 3) (v := .int 10) (C := RX3) (T := TX3) (N := 13) hx hb hts in_X3_append_X3 hown hK hP 0 rfl rfl 2 (by decide) (hts (.fieldLink RX3 49 "EightReasons$Reader" "bytes" "I") (List.mem_of_getElem? (i := 1) (by decide +kernel))) (fun _ h9 => h9) rfl dX3_append_32 ?_
  refine lv_iconst (v := 1) hx hb dX3_append_35 (by decide) ?_
  refine lv_iadd hx hb dX3_append_36 (tpi (v := 11) (by decide) ?_)
  refine va_put (D := D) (cl := vwCl) (ci := 3) (v := .int 11) (ty := tyX3 2) (C := RX3) (T := TX3) (N := 13) hx hb hts in_X3_append_X3 tyX3 tyX3_ok nmX3 hown hK hP hD hS 0 rfl rfl 2 (by decide) (hts (.fieldLink RX3 49 "EightReasons$Reader" "bytes" "I") (List.mem_of_getElem? (i := 1) (by decide +kernel))) (fun _ h9 => h9) rfl (tyX3_ok 2 (by decide)) rfl rfl (Nat.le_of_ble_eq_true rfl) dX3_append_37 (fun H locs hP hD hS => ?_)
  have hP : va_P D vwCl [(a0, .inr (3, [v0_0, v0_1, .int 11, .ref a1, v0_4, v0_5, v0_6, v0_7, v0_8, v0_9, v0_10, v0_11, v0_12])), (a1, .inl (cy 1, 1600, .inl g3))] H := hP
  have hD : va_D A [(a0, .inr (3, [v0_0, v0_1, .int 11, .ref a1, v0_4, v0_5, v0_6, v0_7, v0_8, v0_9, v0_10, v0_11, v0_12])), (a1, .inl (cy 1, 1600, .inl g3))] := hD
  refine lv_iinc (v := 0) (lv' := [(2, .int 0), (0, .ref a0), (1, .int p1)]) hx hb dX3_append_40 hl (k := 0) rfl (by decide) (by decide) rfl (fun ls hl => ?_)
  refine lv_goto (tgt := 3) hx hb dX3_append_43 (by decide) ?_
  refine lv_iload_n hx hb dX3_append_3 rfl (lv_at hl 0 rfl) ?_
  refine lv_if_lt (tgt := 46) hx hb dX3_append_4 (by decide) (fun c => absurd c (by decide)) (fun _ => ?_)
  refine lv_aload_n hx hb dX3_append_7 rfl (lv_at hl 1 rfl) ?_
  refine va_get (D := D) (cl := vwCl) (ci := 3) (v := .int 11) (C := RX3) (T := TX3) (N := 13) hx hb hts in_X3_append_X3 hown hK hP 0 rfl rfl 2 (by decide) (hts (.fieldLink RX3 49 "EightReasons$Reader" "bytes" "I") (List.mem_of_getElem? (i := 1) (by decide +kernel))) (fun _ h9 => h9) rfl dX3_append_8 ?_
  refine lv_sipush (v := 1600) hx hb dX3_append_11 (by decide) ?_
  refine lv_icmp_ge (tgt := 46) hx hb dX3_append_14 (by decide) (fun c => absurd c (by decide)) (fun _ => ?_)
  refine lv_aload_n hx hb dX3_append_17 rfl (lv_at hl 1 rfl) ?_
  refine va_get (D := D) (cl := vwCl) (ci := 3) (v := .ref a1) (C := RX3) (T := TX3) (N := 13) hx hb hts in_X3_append_X3 hown hK hP 0 rfl rfl 3 (by decide) (hts (.fieldLink RX3 15 "EightReasons$Reader" "tape" "[B") (List.mem_of_getElem? (i := 2) (by decide +kernel))) (fun _ h9 => h9) rfl dX3_append_18 ?_
  refine lv_aload_n hx hb dX3_append_21 rfl (lv_at hl 1 rfl) ?_
  refine va_get (D := D) (cl := vwCl) (ci := 3) (v := .int 11) (C := RX3) (T := TX3) (N := 13) hx hb hts in_X3_append_X3 hown hK hP 0 rfl rfl 2 (by decide) (hts (.fieldLink RX3 49 "EightReasons$Reader" "bytes" "I") (List.mem_of_getElem? (i := 1) (by decide +kernel))) (fun _ h9 => h9) rfl dX3_append_22 ?_
  refine lv_iload_n hx hb dX3_append_25 rfl (lv_at hl 2 rfl) ?_
  refine lv_iload_n hx hb dX3_append_26 rfl (lv_at hl 0 rfl) ?_
  refine lv_ishr hx hb dX3_append_27 ?_
  refine lv_i2b hx hb dX3_append_28 rfl ?_
  refine va_bast hx hb hK hP hD hS 1 1 rfl rfl (vin (by decide)) dX3_append_29 (fun H locs hP hD hS => ?_)
  generalize hhg4 : upd g3 (Int32.toNatClampNeg 11) (vp_nar .byte (p1 >>> (0 &&& 31)).toInt8.toInt32) = g4 at hP hD
  have hP : va_P D vwCl [(a0, .inr (3, [v0_0, v0_1, .int 11, .ref a1, v0_4, v0_5, v0_6, v0_7, v0_8, v0_9, v0_10, v0_11, v0_12])), (a1, .inl (cy 1, 1600, .inl g4))] H := hP
  have hD : va_D A [(a0, .inr (3, [v0_0, v0_1, .int 11, .ref a1, v0_4, v0_5, v0_6, v0_7, v0_8, v0_9, v0_10, v0_11, v0_12])), (a1, .inl (cy 1, 1600, .inl g4))] := hD
  refine lv_aload_n hx hb dX3_append_30 rfl (lv_at hl 1 rfl) ?_
  refine lv_dup hx hb dX3_append_31 rfl ?_
  refine va_get (D := D) (cl := vwCl) (ci := 3) (v := .int 11) (C := RX3) (T := TX3) (N := 13) hx hb hts in_X3_append_X3 hown hK hP 0 rfl rfl 2 (by decide) (hts (.fieldLink RX3 49 "EightReasons$Reader" "bytes" "I") (List.mem_of_getElem? (i := 1) (by decide +kernel))) (fun _ h9 => h9) rfl dX3_append_32 ?_
  refine lv_iconst (v := 1) hx hb dX3_append_35 (by decide) ?_
  refine lv_iadd hx hb dX3_append_36 (tpi (v := 12) (by decide) ?_)
  refine va_put (D := D) (cl := vwCl) (ci := 3) (v := .int 12) (ty := tyX3 2) (C := RX3) (T := TX3) (N := 13) hx hb hts in_X3_append_X3 tyX3 tyX3_ok nmX3 hown hK hP hD hS 0 rfl rfl 2 (by decide) (hts (.fieldLink RX3 49 "EightReasons$Reader" "bytes" "I") (List.mem_of_getElem? (i := 1) (by decide +kernel))) (fun _ h9 => h9) rfl (tyX3_ok 2 (by decide)) rfl rfl (Nat.le_of_ble_eq_true rfl) dX3_append_37 (fun H locs hP hD hS => ?_)
  have hP : va_P D vwCl [(a0, .inr (3, [v0_0, v0_1, .int 12, .ref a1, v0_4, v0_5, v0_6, v0_7, v0_8, v0_9, v0_10, v0_11, v0_12])), (a1, .inl (cy 1, 1600, .inl g4))] H := hP
  have hD : va_D A [(a0, .inr (3, [v0_0, v0_1, .int 12, .ref a1, v0_4, v0_5, v0_6, v0_7, v0_8, v0_9, v0_10, v0_11, v0_12])), (a1, .inl (cy 1, 1600, .inl g4))] := hD
  refine lv_iinc (v := (-8)) (lv' := [(2, .int (-8)), (0, .ref a0), (1, .int p1)]) hx hb dX3_append_40 hl (k := 0) rfl (by decide) (by decide) rfl (fun ls hl => ?_)
  refine lv_goto (tgt := 3) hx hb dX3_append_43 (by decide) ?_
  refine lv_iload_n hx hb dX3_append_3 rfl (lv_at hl 0 rfl) ?_
  refine lv_if_lt (tgt := 46) hx hb dX3_append_4 (by decide) (fun _ => ?_) (fun c => absurd (by decide) c)
  exact rtV hx hb hr hlk hP hD hS (fun j => [g4].getD j zI) [0, 1] rfl rfl trivial dX3_append_46
set_option maxHeartbeats 4000000 in
set_option maxRecDepth 100000 in
theorem k_X3_append_3 (l : Launch) (D : va_G) (cy : Nat → ClassId) (a0 a1 : Nat) (v0_0 : Value) (v0_1 : Value) (v0_4 : Value) (v0_5 : Value) (v0_6 : Value) (v0_7 : Value) (v0_8 : Value) (v0_9 : Value) (v0_10 : Value) (v0_11 : Value) (v0_12 : Value) (g1_ : Nat → Int32) (p1 : Int32) (sz : Nat) : CtV l yX3_append wsX3_append 0 0 [.ref a0, .int p1] D cy [(a0, .inr (3, [v0_0, v0_1, .int 12, .ref a1, v0_4, v0_5, v0_6, v0_7, v0_8, v0_9, v0_10, v0_11, v0_12])), (a1, .inl (cy 1, 1600, .inl g1_))] sz 0 0 (fun (_ : Nat → Nat → Int32) => True) (fun u => [(a0, .inr (3, [v0_0, v0_1, .int 16, .ref a1, v0_4, v0_5, v0_6, v0_7, v0_8, v0_9, v0_10, v0_11, v0_12])), (a1, .inl (cy 1, 1600, .inl (u 0)))]) := by
  refine CtV.of (cc := cX3_append) (maxL := 3) (own := RX3) (by decide) rfl (Nat.le_of_ble_eq_true rfl) rfl ?_
  intro p e s m below meth c A ls hx hb hr hml hts hown hlk hK hP hD hS hA hl
  have hl : lv_has ls 3 [(0, .ref a0), (1, .int p1)] := hl
  refine st0 (fun H locs hP hS => ?_) hP hS
  have hP : va_P D vwCl [(a0, .inr (3, [v0_0, v0_1, .int 12, .ref a1, v0_4, v0_5, v0_6, v0_7, v0_8, v0_9, v0_10, v0_11, v0_12])), (a1, .inl (cy 1, 1600, .inl g1_))] H := hP
  have hD : va_D A [(a0, .inr (3, [v0_0, v0_1, .int 12, .ref a1, v0_4, v0_5, v0_6, v0_7, v0_8, v0_9, v0_10, v0_11, v0_12])), (a1, .inl (cy 1, 1600, .inl g1_))] := hD
  refine lv_bipush (v := 24) hx hb dX3_append_0 (by decide) ?_
  refine lv_istore_n (lv' := [(2, .int 24), (0, .ref a0), (1, .int p1)]) hx hb dX3_append_2 rfl hl (by decide) rfl (fun ls hl => ?_)
  refine lv_iload_n hx hb dX3_append_3 rfl (lv_at hl 0 rfl) ?_
  refine lv_if_lt (tgt := 46) hx hb dX3_append_4 (by decide) (fun c => absurd c (by decide)) (fun _ => ?_)
  refine lv_aload_n hx hb dX3_append_7 rfl (lv_at hl 1 rfl) ?_
  refine va_get (D := D) (cl := vwCl) (ci := 3) (v := .int 12) (C := RX3) (T := TX3) (N := 13) hx hb hts in_X3_append_X3 hown hK hP 0 rfl rfl 2 (by decide) (hts (.fieldLink RX3 49 "EightReasons$Reader" "bytes" "I") (List.mem_of_getElem? (i := 1) (by decide +kernel))) (fun _ h9 => h9) rfl dX3_append_8 ?_
  refine lv_sipush (v := 1600) hx hb dX3_append_11 (by decide) ?_
  refine lv_icmp_ge (tgt := 46) hx hb dX3_append_14 (by decide) (fun c => absurd c (by decide)) (fun _ => ?_)
  refine lv_aload_n hx hb dX3_append_17 rfl (lv_at hl 1 rfl) ?_
  refine va_get (D := D) (cl := vwCl) (ci := 3) (v := .ref a1) (C := RX3) (T := TX3) (N := 13) hx hb hts in_X3_append_X3 hown hK hP 0 rfl rfl 3 (by decide) (hts (.fieldLink RX3 15 "EightReasons$Reader" "tape" "[B") (List.mem_of_getElem? (i := 2) (by decide +kernel))) (fun _ h9 => h9) rfl dX3_append_18 ?_
  refine lv_aload_n hx hb dX3_append_21 rfl (lv_at hl 1 rfl) ?_
  refine va_get (D := D) (cl := vwCl) (ci := 3) (v := .int 12) (C := RX3) (T := TX3) (N := 13) hx hb hts in_X3_append_X3 hown hK hP 0 rfl rfl 2 (by decide) (hts (.fieldLink RX3 49 "EightReasons$Reader" "bytes" "I") (List.mem_of_getElem? (i := 1) (by decide +kernel))) (fun _ h9 => h9) rfl dX3_append_22 ?_
  refine lv_iload_n hx hb dX3_append_25 rfl (lv_at hl 2 rfl) ?_
  refine lv_iload_n hx hb dX3_append_26 rfl (lv_at hl 0 rfl) ?_
  refine lv_ishr hx hb dX3_append_27 ?_
  refine lv_i2b hx hb dX3_append_28 rfl ?_
  refine va_bast hx hb hK hP hD hS 1 1 rfl rfl (vin (by decide)) dX3_append_29 (fun H locs hP hD hS => ?_)
  generalize hhg1 : upd g1_ (Int32.toNatClampNeg 12) (vp_nar .byte (p1 >>> (24 &&& 31)).toInt8.toInt32) = g1 at hP hD
  have hP : va_P D vwCl [(a0, .inr (3, [v0_0, v0_1, .int 12, .ref a1, v0_4, v0_5, v0_6, v0_7, v0_8, v0_9, v0_10, v0_11, v0_12])), (a1, .inl (cy 1, 1600, .inl g1))] H := hP
  have hD : va_D A [(a0, .inr (3, [v0_0, v0_1, .int 12, .ref a1, v0_4, v0_5, v0_6, v0_7, v0_8, v0_9, v0_10, v0_11, v0_12])), (a1, .inl (cy 1, 1600, .inl g1))] := hD
  refine lv_aload_n hx hb dX3_append_30 rfl (lv_at hl 1 rfl) ?_
  refine lv_dup hx hb dX3_append_31 rfl ?_
  refine va_get (D := D) (cl := vwCl) (ci := 3) (v := .int 12) (C := RX3) (T := TX3) (N := 13) hx hb hts in_X3_append_X3 hown hK hP 0 rfl rfl 2 (by decide) (hts (.fieldLink RX3 49 "EightReasons$Reader" "bytes" "I") (List.mem_of_getElem? (i := 1) (by decide +kernel))) (fun _ h9 => h9) rfl dX3_append_32 ?_
  refine lv_iconst (v := 1) hx hb dX3_append_35 (by decide) ?_
  refine lv_iadd hx hb dX3_append_36 (tpi (v := 13) (by decide) ?_)
  refine va_put (D := D) (cl := vwCl) (ci := 3) (v := .int 13) (ty := tyX3 2) (C := RX3) (T := TX3) (N := 13) hx hb hts in_X3_append_X3 tyX3 tyX3_ok nmX3 hown hK hP hD hS 0 rfl rfl 2 (by decide) (hts (.fieldLink RX3 49 "EightReasons$Reader" "bytes" "I") (List.mem_of_getElem? (i := 1) (by decide +kernel))) (fun _ h9 => h9) rfl (tyX3_ok 2 (by decide)) rfl rfl (Nat.le_of_ble_eq_true rfl) dX3_append_37 (fun H locs hP hD hS => ?_)
  have hP : va_P D vwCl [(a0, .inr (3, [v0_0, v0_1, .int 13, .ref a1, v0_4, v0_5, v0_6, v0_7, v0_8, v0_9, v0_10, v0_11, v0_12])), (a1, .inl (cy 1, 1600, .inl g1))] H := hP
  have hD : va_D A [(a0, .inr (3, [v0_0, v0_1, .int 13, .ref a1, v0_4, v0_5, v0_6, v0_7, v0_8, v0_9, v0_10, v0_11, v0_12])), (a1, .inl (cy 1, 1600, .inl g1))] := hD
  refine lv_iinc (v := 16) (lv' := [(2, .int 16), (0, .ref a0), (1, .int p1)]) hx hb dX3_append_40 hl (k := 0) rfl (by decide) (by decide) rfl (fun ls hl => ?_)
  refine lv_goto (tgt := 3) hx hb dX3_append_43 (by decide) ?_
  refine lv_iload_n hx hb dX3_append_3 rfl (lv_at hl 0 rfl) ?_
  refine lv_if_lt (tgt := 46) hx hb dX3_append_4 (by decide) (fun c => absurd c (by decide)) (fun _ => ?_)
  refine lv_aload_n hx hb dX3_append_7 rfl (lv_at hl 1 rfl) ?_
  refine va_get (D := D) (cl := vwCl) (ci := 3) (v := .int 13) (C := RX3) (T := TX3) (N := 13) hx hb hts in_X3_append_X3 hown hK hP 0 rfl rfl 2 (by decide) (hts (.fieldLink RX3 49 "EightReasons$Reader" "bytes" "I") (List.mem_of_getElem? (i := 1) (by decide +kernel))) (fun _ h9 => h9) rfl dX3_append_8 ?_
  refine lv_sipush (v := 1600) hx hb dX3_append_11 (by decide) ?_
  refine lv_icmp_ge (tgt := 46) hx hb dX3_append_14 (by decide) (fun c => absurd c (by decide)) (fun _ => ?_)
  refine lv_aload_n hx hb dX3_append_17 rfl (lv_at hl 1 rfl) ?_
  refine va_get (D := D) (cl := vwCl) (ci := 3) (v := .ref a1) (C := RX3) (T := TX3) (N := 13) hx hb hts in_X3_append_X3 hown hK hP 0 rfl rfl 3 (by decide) (hts (.fieldLink RX3 15 "EightReasons$Reader" "tape" "[B") (List.mem_of_getElem? (i := 2) (by decide +kernel))) (fun _ h9 => h9) rfl dX3_append_18 ?_
  refine lv_aload_n hx hb dX3_append_21 rfl (lv_at hl 1 rfl) ?_
  refine va_get (D := D) (cl := vwCl) (ci := 3) (v := .int 13) (C := RX3) (T := TX3) (N := 13) hx hb hts in_X3_append_X3 hown hK hP 0 rfl rfl 2 (by decide) (hts (.fieldLink RX3 49 "EightReasons$Reader" "bytes" "I") (List.mem_of_getElem? (i := 1) (by decide +kernel))) (fun _ h9 => h9) rfl dX3_append_22 ?_
  refine lv_iload_n hx hb dX3_append_25 rfl (lv_at hl 2 rfl) ?_
  refine lv_iload_n hx hb dX3_append_26 rfl (lv_at hl 0 rfl) ?_
  refine lv_ishr hx hb dX3_append_27 ?_
  refine lv_i2b hx hb dX3_append_28 rfl ?_
  refine va_bast hx hb hK hP hD hS 1 1 rfl rfl (vin (by decide)) dX3_append_29 (fun H locs hP hD hS => ?_)
  generalize hhg2 : upd g1 (Int32.toNatClampNeg 13) (vp_nar .byte (p1 >>> (16 &&& 31)).toInt8.toInt32) = g2 at hP hD
  have hP : va_P D vwCl [(a0, .inr (3, [v0_0, v0_1, .int 13, .ref a1, v0_4, v0_5, v0_6, v0_7, v0_8, v0_9, v0_10, v0_11, v0_12])), (a1, .inl (cy 1, 1600, .inl g2))] H := hP
  have hD : va_D A [(a0, .inr (3, [v0_0, v0_1, .int 13, .ref a1, v0_4, v0_5, v0_6, v0_7, v0_8, v0_9, v0_10, v0_11, v0_12])), (a1, .inl (cy 1, 1600, .inl g2))] := hD
  refine lv_aload_n hx hb dX3_append_30 rfl (lv_at hl 1 rfl) ?_
  refine lv_dup hx hb dX3_append_31 rfl ?_
  refine va_get (D := D) (cl := vwCl) (ci := 3) (v := .int 13) (C := RX3) (T := TX3) (N := 13) hx hb hts in_X3_append_X3 hown hK hP 0 rfl rfl 2 (by decide) (hts (.fieldLink RX3 49 "EightReasons$Reader" "bytes" "I") (List.mem_of_getElem? (i := 1) (by decide +kernel))) (fun _ h9 => h9) rfl dX3_append_32 ?_
  refine lv_iconst (v := 1) hx hb dX3_append_35 (by decide) ?_
  refine lv_iadd hx hb dX3_append_36 (tpi (v := 14) (by decide) ?_)
  refine va_put (D := D) (cl := vwCl) (ci := 3) (v := .int 14) (ty := tyX3 2) (C := RX3) (T := TX3) (N := 13) hx hb hts in_X3_append_X3 tyX3 tyX3_ok nmX3 hown hK hP hD hS 0 rfl rfl 2 (by decide) (hts (.fieldLink RX3 49 "EightReasons$Reader" "bytes" "I") (List.mem_of_getElem? (i := 1) (by decide +kernel))) (fun _ h9 => h9) rfl (tyX3_ok 2 (by decide)) rfl rfl (Nat.le_of_ble_eq_true rfl) dX3_append_37 (fun H locs hP hD hS => ?_)
  have hP : va_P D vwCl [(a0, .inr (3, [v0_0, v0_1, .int 14, .ref a1, v0_4, v0_5, v0_6, v0_7, v0_8, v0_9, v0_10, v0_11, v0_12])), (a1, .inl (cy 1, 1600, .inl g2))] H := hP
  have hD : va_D A [(a0, .inr (3, [v0_0, v0_1, .int 14, .ref a1, v0_4, v0_5, v0_6, v0_7, v0_8, v0_9, v0_10, v0_11, v0_12])), (a1, .inl (cy 1, 1600, .inl g2))] := hD
  refine lv_iinc (v := 8) (lv' := [(2, .int 8), (0, .ref a0), (1, .int p1)]) hx hb dX3_append_40 hl (k := 0) rfl (by decide) (by decide) rfl (fun ls hl => ?_)
  refine lv_goto (tgt := 3) hx hb dX3_append_43 (by decide) ?_
  refine lv_iload_n hx hb dX3_append_3 rfl (lv_at hl 0 rfl) ?_
  refine lv_if_lt (tgt := 46) hx hb dX3_append_4 (by decide) (fun c => absurd c (by decide)) (fun _ => ?_)
  refine lv_aload_n hx hb dX3_append_7 rfl (lv_at hl 1 rfl) ?_
  refine va_get (D := D) (cl := vwCl) (ci := 3) (v := .int 14) (C := RX3) (T := TX3) (N := 13) hx hb hts in_X3_append_X3 hown hK hP 0 rfl rfl 2 (by decide) (hts (.fieldLink RX3 49 "EightReasons$Reader" "bytes" "I") (List.mem_of_getElem? (i := 1) (by decide +kernel))) (fun _ h9 => h9) rfl dX3_append_8 ?_
  refine lv_sipush (v := 1600) hx hb dX3_append_11 (by decide) ?_
  refine lv_icmp_ge (tgt := 46) hx hb dX3_append_14 (by decide) (fun c => absurd c (by decide)) (fun _ => ?_)
  refine lv_aload_n hx hb dX3_append_17 rfl (lv_at hl 1 rfl) ?_
  refine va_get (D := D) (cl := vwCl) (ci := 3) (v := .ref a1) (C := RX3) (T := TX3) (N := 13) hx hb hts in_X3_append_X3 hown hK hP 0 rfl rfl 3 (by decide) (hts (.fieldLink RX3 15 "EightReasons$Reader" "tape" "[B") (List.mem_of_getElem? (i := 2) (by decide +kernel))) (fun _ h9 => h9) rfl dX3_append_18 ?_
  refine lv_aload_n hx hb dX3_append_21 rfl (lv_at hl 1 rfl) ?_
  refine va_get (D := D) (cl := vwCl) (ci := 3) (v := .int 14) (C := RX3) (T := TX3) (N := 13) hx hb hts in_X3_append_X3 hown hK hP 0 rfl rfl 2 (by decide) (hts (.fieldLink RX3 49 "EightReasons$Reader" "bytes" "I") (List.mem_of_getElem? (i := 1) (by decide +kernel))) (fun _ h9 => h9) rfl dX3_append_22 ?_
  refine lv_iload_n hx hb dX3_append_25 rfl (lv_at hl 2 rfl) ?_
  refine lv_iload_n hx hb dX3_append_26 rfl (lv_at hl 0 rfl) ?_
  refine lv_ishr hx hb dX3_append_27 ?_
  refine lv_i2b hx hb dX3_append_28 rfl ?_
  refine va_bast hx hb hK hP hD hS 1 1 rfl rfl (vin (by decide)) dX3_append_29 (fun H locs hP hD hS => ?_)
  generalize hhg3 : upd g2 (Int32.toNatClampNeg 14) (vp_nar .byte (p1 >>> (8 &&& 31)).toInt8.toInt32) = g3 at hP hD
  have hP : va_P D vwCl [(a0, .inr (3, [v0_0, v0_1, .int 14, .ref a1, v0_4, v0_5, v0_6, v0_7, v0_8, v0_9, v0_10, v0_11, v0_12])), (a1, .inl (cy 1, 1600, .inl g3))] H := hP
  have hD : va_D A [(a0, .inr (3, [v0_0, v0_1, .int 14, .ref a1, v0_4, v0_5, v0_6, v0_7, v0_8, v0_9, v0_10, v0_11, v0_12])), (a1, .inl (cy 1, 1600, .inl g3))] := hD
  refine lv_aload_n hx hb dX3_append_30 rfl (lv_at hl 1 rfl) ?_
  refine lv_dup hx hb dX3_append_31 rfl ?_
  refine va_get (D := D) (cl := vwCl) (ci := 3) (v := .int 14) (C := RX3) (T := TX3) (N := 13) hx hb hts in_X3_append_X3 hown hK hP 0 rfl rfl 2 (by decide) (hts (.fieldLink RX3 49 "EightReasons$Reader" "bytes" "I") (List.mem_of_getElem? (i := 1) (by decide +kernel))) (fun _ h9 => h9) rfl dX3_append_32 ?_
  refine lv_iconst (v := 1) hx hb dX3_append_35 (by decide) ?_
  refine lv_iadd hx hb dX3_append_36 (tpi (v := 15) (by decide) ?_)
  refine va_put (D := D) (cl := vwCl) (ci := 3) (v := .int 15) (ty := tyX3 2) (C := RX3) (T := TX3) (N := 13) hx hb hts in_X3_append_X3 tyX3 tyX3_ok nmX3 hown hK hP hD hS 0 rfl rfl 2 (by decide) (hts (.fieldLink RX3 49 "EightReasons$Reader" "bytes" "I") (List.mem_of_getElem? (i := 1) (by decide +kernel))) (fun _ h9 => h9) rfl (tyX3_ok 2 (by decide)) rfl rfl (Nat.le_of_ble_eq_true rfl) dX3_append_37 (fun H locs hP hD hS => ?_)
  have hP : va_P D vwCl [(a0, .inr (3, [v0_0, v0_1, .int 15, .ref a1, v0_4, v0_5, v0_6, v0_7, v0_8, v0_9, v0_10, v0_11, v0_12])), (a1, .inl (cy 1, 1600, .inl g3))] H := hP
  have hD : va_D A [(a0, .inr (3, [v0_0, v0_1, .int 15, .ref a1, v0_4, v0_5, v0_6, v0_7, v0_8, v0_9, v0_10, v0_11, v0_12])), (a1, .inl (cy 1, 1600, .inl g3))] := hD
  refine lv_iinc (v := 0) (lv' := [(2, .int 0), (0, .ref a0), (1, .int p1)]) hx hb dX3_append_40 hl (k := 0) rfl (by decide) (by decide) rfl (fun ls hl => ?_)
  refine lv_goto (tgt := 3) hx hb dX3_append_43 (by decide) ?_
  refine lv_iload_n hx hb dX3_append_3 rfl (lv_at hl 0 rfl) ?_
  refine lv_if_lt (tgt := 46) hx hb dX3_append_4 (by decide) (fun c => absurd c (by decide)) (fun _ => ?_)
  refine lv_aload_n hx hb dX3_append_7 rfl (lv_at hl 1 rfl) ?_
  refine va_get (D := D) (cl := vwCl) (ci := 3) (v := .int 15) (C := RX3) (T := TX3) (N := 13) hx hb hts in_X3_append_X3 hown hK hP 0 rfl rfl 2 (by decide) (hts (.fieldLink RX3 49 "EightReasons$Reader" "bytes" "I") (List.mem_of_getElem? (i := 1) (by decide +kernel))) (fun _ h9 => h9) rfl dX3_append_8 ?_
  refine lv_sipush (v := 1600) hx hb dX3_append_11 (by decide) ?_
  refine lv_icmp_ge (tgt := 46) hx hb dX3_append_14 (by decide) (fun c => absurd c (by decide)) (fun _ => ?_)
  refine lv_aload_n hx hb dX3_append_17 rfl (lv_at hl 1 rfl) ?_
  refine va_get (D := D) (cl := vwCl) (ci := 3) (v := .ref a1) (C := RX3) (T := TX3) (N := 13) hx hb hts in_X3_append_X3 hown hK hP 0 rfl rfl 3 (by decide) (hts (.fieldLink RX3 15 "EightReasons$Reader" "tape" "[B") (List.mem_of_getElem? (i := 2) (by decide +kernel))) (fun _ h9 => h9) rfl dX3_append_18 ?_
  refine lv_aload_n hx hb dX3_append_21 rfl (lv_at hl 1 rfl) ?_
  refine va_get (D := D) (cl := vwCl) (ci := 3) (v := .int 15) (C := RX3) (T := TX3) (N := 13) hx hb hts in_X3_append_X3 hown hK hP 0 rfl rfl 2 (by decide) (hts (.fieldLink RX3 49 "EightReasons$Reader" "bytes" "I") (List.mem_of_getElem? (i := 1) (by decide +kernel))) (fun _ h9 => h9) rfl dX3_append_22 ?_
  refine lv_iload_n hx hb dX3_append_25 rfl (lv_at hl 2 rfl) ?_
  refine lv_iload_n hx hb dX3_append_26 rfl (lv_at hl 0 rfl) ?_
  refine lv_ishr hx hb dX3_append_27 ?_
  refine lv_i2b hx hb dX3_append_28 rfl ?_
  refine va_bast hx hb hK hP hD hS 1 1 rfl rfl (vin (by decide)) dX3_append_29 (fun H locs hP hD hS => ?_)
  generalize hhg4 : upd g3 (Int32.toNatClampNeg 15) (vp_nar .byte (p1 >>> (0 &&& 31)).toInt8.toInt32) = g4 at hP hD
  have hP : va_P D vwCl [(a0, .inr (3, [v0_0, v0_1, .int 15, .ref a1, v0_4, v0_5, v0_6, v0_7, v0_8, v0_9, v0_10, v0_11, v0_12])), (a1, .inl (cy 1, 1600, .inl g4))] H := hP
  have hD : va_D A [(a0, .inr (3, [v0_0, v0_1, .int 15, .ref a1, v0_4, v0_5, v0_6, v0_7, v0_8, v0_9, v0_10, v0_11, v0_12])), (a1, .inl (cy 1, 1600, .inl g4))] := hD
  refine lv_aload_n hx hb dX3_append_30 rfl (lv_at hl 1 rfl) ?_
  refine lv_dup hx hb dX3_append_31 rfl ?_
  refine va_get (D := D) (cl := vwCl) (ci := 3) (v := .int 15) (C := RX3) (T := TX3) (N := 13) hx hb hts in_X3_append_X3 hown hK hP 0 rfl rfl 2 (by decide) (hts (.fieldLink RX3 49 "EightReasons$Reader" "bytes" "I") (List.mem_of_getElem? (i := 1) (by decide +kernel))) (fun _ h9 => h9) rfl dX3_append_32 ?_
  refine lv_iconst (v := 1) hx hb dX3_append_35 (by decide) ?_
  refine lv_iadd hx hb dX3_append_36 (tpi (v := 16) (by decide) ?_)
  refine va_put (D := D) (cl := vwCl) (ci := 3) (v := .int 16) (ty := tyX3 2) (C := RX3) (T := TX3) (N := 13) hx hb hts in_X3_append_X3 tyX3 tyX3_ok nmX3 hown hK hP hD hS 0 rfl rfl 2 (by decide) (hts (.fieldLink RX3 49 "EightReasons$Reader" "bytes" "I") (List.mem_of_getElem? (i := 1) (by decide +kernel))) (fun _ h9 => h9) rfl (tyX3_ok 2 (by decide)) rfl rfl (Nat.le_of_ble_eq_true rfl) dX3_append_37 (fun H locs hP hD hS => ?_)
  have hP : va_P D vwCl [(a0, .inr (3, [v0_0, v0_1, .int 16, .ref a1, v0_4, v0_5, v0_6, v0_7, v0_8, v0_9, v0_10, v0_11, v0_12])), (a1, .inl (cy 1, 1600, .inl g4))] H := hP
  have hD : va_D A [(a0, .inr (3, [v0_0, v0_1, .int 16, .ref a1, v0_4, v0_5, v0_6, v0_7, v0_8, v0_9, v0_10, v0_11, v0_12])), (a1, .inl (cy 1, 1600, .inl g4))] := hD
  refine lv_iinc (v := (-8)) (lv' := [(2, .int (-8)), (0, .ref a0), (1, .int p1)]) hx hb dX3_append_40 hl (k := 0) rfl (by decide) (by decide) rfl (fun ls hl => ?_)
  refine lv_goto (tgt := 3) hx hb dX3_append_43 (by decide) ?_
  refine lv_iload_n hx hb dX3_append_3 rfl (lv_at hl 0 rfl) ?_
  refine lv_if_lt (tgt := 46) hx hb dX3_append_4 (by decide) (fun _ => ?_) (fun c => absurd (by decide) c)
  exact rtV hx hb hr hlk hP hD hS (fun j => [g4].getD j zI) [0, 1] rfl rfl trivial dX3_append_46
set_option maxHeartbeats 4000000 in
set_option maxRecDepth 100000 in
theorem k_X3_append_4 (l : Launch) (D : va_G) (cy : Nat → ClassId) (a0 a1 : Nat) (v0_0 : Value) (v0_1 : Value) (v0_4 : Value) (v0_5 : Value) (v0_6 : Value) (v0_7 : Value) (v0_8 : Value) (v0_9 : Value) (v0_10 : Value) (v0_11 : Value) (v0_12 : Value) (g1_ : Nat → Int32) (p1 : Int32) (sz : Nat) : CtV l yX3_append wsX3_append 0 0 [.ref a0, .int p1] D cy [(a0, .inr (3, [v0_0, v0_1, .int 16, .ref a1, v0_4, v0_5, v0_6, v0_7, v0_8, v0_9, v0_10, v0_11, v0_12])), (a1, .inl (cy 1, 1600, .inl g1_))] sz 0 0 (fun (_ : Nat → Nat → Int32) => True) (fun u => [(a0, .inr (3, [v0_0, v0_1, .int 20, .ref a1, v0_4, v0_5, v0_6, v0_7, v0_8, v0_9, v0_10, v0_11, v0_12])), (a1, .inl (cy 1, 1600, .inl (u 0)))]) := by
  refine CtV.of (cc := cX3_append) (maxL := 3) (own := RX3) (by decide) rfl (Nat.le_of_ble_eq_true rfl) rfl ?_
  intro p e s m below meth c A ls hx hb hr hml hts hown hlk hK hP hD hS hA hl
  have hl : lv_has ls 3 [(0, .ref a0), (1, .int p1)] := hl
  refine st0 (fun H locs hP hS => ?_) hP hS
  have hP : va_P D vwCl [(a0, .inr (3, [v0_0, v0_1, .int 16, .ref a1, v0_4, v0_5, v0_6, v0_7, v0_8, v0_9, v0_10, v0_11, v0_12])), (a1, .inl (cy 1, 1600, .inl g1_))] H := hP
  have hD : va_D A [(a0, .inr (3, [v0_0, v0_1, .int 16, .ref a1, v0_4, v0_5, v0_6, v0_7, v0_8, v0_9, v0_10, v0_11, v0_12])), (a1, .inl (cy 1, 1600, .inl g1_))] := hD
  refine lv_bipush (v := 24) hx hb dX3_append_0 (by decide) ?_
  refine lv_istore_n (lv' := [(2, .int 24), (0, .ref a0), (1, .int p1)]) hx hb dX3_append_2 rfl hl (by decide) rfl (fun ls hl => ?_)
  refine lv_iload_n hx hb dX3_append_3 rfl (lv_at hl 0 rfl) ?_
  refine lv_if_lt (tgt := 46) hx hb dX3_append_4 (by decide) (fun c => absurd c (by decide)) (fun _ => ?_)
  refine lv_aload_n hx hb dX3_append_7 rfl (lv_at hl 1 rfl) ?_
  refine va_get (D := D) (cl := vwCl) (ci := 3) (v := .int 16) (C := RX3) (T := TX3) (N := 13) hx hb hts in_X3_append_X3 hown hK hP 0 rfl rfl 2 (by decide) (hts (.fieldLink RX3 49 "EightReasons$Reader" "bytes" "I") (List.mem_of_getElem? (i := 1) (by decide +kernel))) (fun _ h9 => h9) rfl dX3_append_8 ?_
  refine lv_sipush (v := 1600) hx hb dX3_append_11 (by decide) ?_
  refine lv_icmp_ge (tgt := 46) hx hb dX3_append_14 (by decide) (fun c => absurd c (by decide)) (fun _ => ?_)
  refine lv_aload_n hx hb dX3_append_17 rfl (lv_at hl 1 rfl) ?_
  refine va_get (D := D) (cl := vwCl) (ci := 3) (v := .ref a1) (C := RX3) (T := TX3) (N := 13) hx hb hts in_X3_append_X3 hown hK hP 0 rfl rfl 3 (by decide) (hts (.fieldLink RX3 15 "EightReasons$Reader" "tape" "[B") (List.mem_of_getElem? (i := 2) (by decide +kernel))) (fun _ h9 => h9) rfl dX3_append_18 ?_
  refine lv_aload_n hx hb dX3_append_21 rfl (lv_at hl 1 rfl) ?_
  refine va_get (D := D) (cl := vwCl) (ci := 3) (v := .int 16) (C := RX3) (T := TX3) (N := 13) hx hb hts in_X3_append_X3 hown hK hP 0 rfl rfl 2 (by decide) (hts (.fieldLink RX3 49 "EightReasons$Reader" "bytes" "I") (List.mem_of_getElem? (i := 1) (by decide +kernel))) (fun _ h9 => h9) rfl dX3_append_22 ?_
  refine lv_iload_n hx hb dX3_append_25 rfl (lv_at hl 2 rfl) ?_
  refine lv_iload_n hx hb dX3_append_26 rfl (lv_at hl 0 rfl) ?_
  refine lv_ishr hx hb dX3_append_27 ?_
  refine lv_i2b hx hb dX3_append_28 rfl ?_
  refine va_bast hx hb hK hP hD hS 1 1 rfl rfl (vin (by decide)) dX3_append_29 (fun H locs hP hD hS => ?_)
  generalize hhg1 : upd g1_ (Int32.toNatClampNeg 16) (vp_nar .byte (p1 >>> (24 &&& 31)).toInt8.toInt32) = g1 at hP hD
  have hP : va_P D vwCl [(a0, .inr (3, [v0_0, v0_1, .int 16, .ref a1, v0_4, v0_5, v0_6, v0_7, v0_8, v0_9, v0_10, v0_11, v0_12])), (a1, .inl (cy 1, 1600, .inl g1))] H := hP
  have hD : va_D A [(a0, .inr (3, [v0_0, v0_1, .int 16, .ref a1, v0_4, v0_5, v0_6, v0_7, v0_8, v0_9, v0_10, v0_11, v0_12])), (a1, .inl (cy 1, 1600, .inl g1))] := hD
  refine lv_aload_n hx hb dX3_append_30 rfl (lv_at hl 1 rfl) ?_
  refine lv_dup hx hb dX3_append_31 rfl ?_
  refine va_get (D := D) (cl := vwCl) (ci := 3) (v := .int 16) (C := RX3) (T := TX3) (N := 13) hx hb hts in_X3_append_X3 hown hK hP 0 rfl rfl 2 (by decide) (hts (.fieldLink RX3 49 "EightReasons$Reader" "bytes" "I") (List.mem_of_getElem? (i := 1) (by decide +kernel))) (fun _ h9 => h9) rfl dX3_append_32 ?_
  refine lv_iconst (v := 1) hx hb dX3_append_35 (by decide) ?_
  refine lv_iadd hx hb dX3_append_36 (tpi (v := 17) (by decide) ?_)
  refine va_put (D := D) (cl := vwCl) (ci := 3) (v := .int 17) (ty := tyX3 2) (C := RX3) (T := TX3) (N := 13) hx hb hts in_X3_append_X3 tyX3 tyX3_ok nmX3 hown hK hP hD hS 0 rfl rfl 2 (by decide) (hts (.fieldLink RX3 49 "EightReasons$Reader" "bytes" "I") (List.mem_of_getElem? (i := 1) (by decide +kernel))) (fun _ h9 => h9) rfl (tyX3_ok 2 (by decide)) rfl rfl (Nat.le_of_ble_eq_true rfl) dX3_append_37 (fun H locs hP hD hS => ?_)
  have hP : va_P D vwCl [(a0, .inr (3, [v0_0, v0_1, .int 17, .ref a1, v0_4, v0_5, v0_6, v0_7, v0_8, v0_9, v0_10, v0_11, v0_12])), (a1, .inl (cy 1, 1600, .inl g1))] H := hP
  have hD : va_D A [(a0, .inr (3, [v0_0, v0_1, .int 17, .ref a1, v0_4, v0_5, v0_6, v0_7, v0_8, v0_9, v0_10, v0_11, v0_12])), (a1, .inl (cy 1, 1600, .inl g1))] := hD
  refine lv_iinc (v := 16) (lv' := [(2, .int 16), (0, .ref a0), (1, .int p1)]) hx hb dX3_append_40 hl (k := 0) rfl (by decide) (by decide) rfl (fun ls hl => ?_)
  refine lv_goto (tgt := 3) hx hb dX3_append_43 (by decide) ?_
  refine lv_iload_n hx hb dX3_append_3 rfl (lv_at hl 0 rfl) ?_
  refine lv_if_lt (tgt := 46) hx hb dX3_append_4 (by decide) (fun c => absurd c (by decide)) (fun _ => ?_)
  refine lv_aload_n hx hb dX3_append_7 rfl (lv_at hl 1 rfl) ?_
  refine va_get (D := D) (cl := vwCl) (ci := 3) (v := .int 17) (C := RX3) (T := TX3) (N := 13) hx hb hts in_X3_append_X3 hown hK hP 0 rfl rfl 2 (by decide) (hts (.fieldLink RX3 49 "EightReasons$Reader" "bytes" "I") (List.mem_of_getElem? (i := 1) (by decide +kernel))) (fun _ h9 => h9) rfl dX3_append_8 ?_
  refine lv_sipush (v := 1600) hx hb dX3_append_11 (by decide) ?_
  refine lv_icmp_ge (tgt := 46) hx hb dX3_append_14 (by decide) (fun c => absurd c (by decide)) (fun _ => ?_)
  refine lv_aload_n hx hb dX3_append_17 rfl (lv_at hl 1 rfl) ?_
  refine va_get (D := D) (cl := vwCl) (ci := 3) (v := .ref a1) (C := RX3) (T := TX3) (N := 13) hx hb hts in_X3_append_X3 hown hK hP 0 rfl rfl 3 (by decide) (hts (.fieldLink RX3 15 "EightReasons$Reader" "tape" "[B") (List.mem_of_getElem? (i := 2) (by decide +kernel))) (fun _ h9 => h9) rfl dX3_append_18 ?_
  refine lv_aload_n hx hb dX3_append_21 rfl (lv_at hl 1 rfl) ?_
  refine va_get (D := D) (cl := vwCl) (ci := 3) (v := .int 17) (C := RX3) (T := TX3) (N := 13) hx hb hts in_X3_append_X3 hown hK hP 0 rfl rfl 2 (by decide) (hts (.fieldLink RX3 49 "EightReasons$Reader" "bytes" "I") (List.mem_of_getElem? (i := 1) (by decide +kernel))) (fun _ h9 => h9) rfl dX3_append_22 ?_
  refine lv_iload_n hx hb dX3_append_25 rfl (lv_at hl 2 rfl) ?_
  refine lv_iload_n hx hb dX3_append_26 rfl (lv_at hl 0 rfl) ?_
  refine lv_ishr hx hb dX3_append_27 ?_
  refine lv_i2b hx hb dX3_append_28 rfl ?_
  refine va_bast hx hb hK hP hD hS 1 1 rfl rfl (vin (by decide)) dX3_append_29 (fun H locs hP hD hS => ?_)
  generalize hhg2 : upd g1 (Int32.toNatClampNeg 17) (vp_nar .byte (p1 >>> (16 &&& 31)).toInt8.toInt32) = g2 at hP hD
  have hP : va_P D vwCl [(a0, .inr (3, [v0_0, v0_1, .int 17, .ref a1, v0_4, v0_5, v0_6, v0_7, v0_8, v0_9, v0_10, v0_11, v0_12])), (a1, .inl (cy 1, 1600, .inl g2))] H := hP
  have hD : va_D A [(a0, .inr (3, [v0_0, v0_1, .int 17, .ref a1, v0_4, v0_5, v0_6, v0_7, v0_8, v0_9, v0_10, v0_11, v0_12])), (a1, .inl (cy 1, 1600, .inl g2))] := hD
  refine lv_aload_n hx hb dX3_append_30 rfl (lv_at hl 1 rfl) ?_
  refine lv_dup hx hb dX3_append_31 rfl ?_
  refine va_get (D := D) (cl := vwCl) (ci := 3) (v := .int 17) (C := RX3) (T := TX3) (N := 13) hx hb hts in_X3_append_X3 hown hK hP 0 rfl rfl 2 (by decide) (hts (.fieldLink RX3 49 "EightReasons$Reader" "bytes" "I") (List.mem_of_getElem? (i := 1) (by decide +kernel))) (fun _ h9 => h9) rfl dX3_append_32 ?_
  refine lv_iconst (v := 1) hx hb dX3_append_35 (by decide) ?_
  refine lv_iadd hx hb dX3_append_36 (tpi (v := 18) (by decide) ?_)
  refine va_put (D := D) (cl := vwCl) (ci := 3) (v := .int 18) (ty := tyX3 2) (C := RX3) (T := TX3) (N := 13) hx hb hts in_X3_append_X3 tyX3 tyX3_ok nmX3 hown hK hP hD hS 0 rfl rfl 2 (by decide) (hts (.fieldLink RX3 49 "EightReasons$Reader" "bytes" "I") (List.mem_of_getElem? (i := 1) (by decide +kernel))) (fun _ h9 => h9) rfl (tyX3_ok 2 (by decide)) rfl rfl (Nat.le_of_ble_eq_true rfl) dX3_append_37 (fun H locs hP hD hS => ?_)
  have hP : va_P D vwCl [(a0, .inr (3, [v0_0, v0_1, .int 18, .ref a1, v0_4, v0_5, v0_6, v0_7, v0_8, v0_9, v0_10, v0_11, v0_12])), (a1, .inl (cy 1, 1600, .inl g2))] H := hP
  have hD : va_D A [(a0, .inr (3, [v0_0, v0_1, .int 18, .ref a1, v0_4, v0_5, v0_6, v0_7, v0_8, v0_9, v0_10, v0_11, v0_12])), (a1, .inl (cy 1, 1600, .inl g2))] := hD
  refine lv_iinc (v := 8) (lv' := [(2, .int 8), (0, .ref a0), (1, .int p1)]) hx hb dX3_append_40 hl (k := 0) rfl (by decide) (by decide) rfl (fun ls hl => ?_)
  refine lv_goto (tgt := 3) hx hb dX3_append_43 (by decide) ?_
  refine lv_iload_n hx hb dX3_append_3 rfl (lv_at hl 0 rfl) ?_
  refine lv_if_lt (tgt := 46) hx hb dX3_append_4 (by decide) (fun c => absurd c (by decide)) (fun _ => ?_)
  refine lv_aload_n hx hb dX3_append_7 rfl (lv_at hl 1 rfl) ?_
  refine va_get (D := D) (cl := vwCl) (ci := 3) (v := .int 18) (C := RX3) (T := TX3) (N := 13) hx hb hts in_X3_append_X3 hown hK hP 0 rfl rfl 2 (by decide) (hts (.fieldLink RX3 49 "EightReasons$Reader" "bytes" "I") (List.mem_of_getElem? (i := 1) (by decide +kernel))) (fun _ h9 => h9) rfl dX3_append_8 ?_
  refine lv_sipush (v := 1600) hx hb dX3_append_11 (by decide) ?_
  refine lv_icmp_ge (tgt := 46) hx hb dX3_append_14 (by decide) (fun c => absurd c (by decide)) (fun _ => ?_)
  refine lv_aload_n hx hb dX3_append_17 rfl (lv_at hl 1 rfl) ?_
  refine va_get (D := D) (cl := vwCl) (ci := 3) (v := .ref a1) (C := RX3) (T := TX3) (N := 13) hx hb hts in_X3_append_X3 hown hK hP 0 rfl rfl 3 (by decide) (hts (.fieldLink RX3 15 "EightReasons$Reader" "tape" "[B") (List.mem_of_getElem? (i := 2) (by decide +kernel))) (fun _ h9 => h9) rfl dX3_append_18 ?_
  refine lv_aload_n hx hb dX3_append_21 rfl (lv_at hl 1 rfl) ?_
  refine va_get (D := D) (cl := vwCl) (ci := 3) (v := .int 18) (C := RX3) (T := TX3) (N := 13) hx hb hts in_X3_append_X3 hown hK hP 0 rfl rfl 2 (by decide) (hts (.fieldLink RX3 49 "EightReasons$Reader" "bytes" "I") (List.mem_of_getElem? (i := 1) (by decide +kernel))) (fun _ h9 => h9) rfl dX3_append_22 ?_
  refine lv_iload_n hx hb dX3_append_25 rfl (lv_at hl 2 rfl) ?_
  refine lv_iload_n hx hb dX3_append_26 rfl (lv_at hl 0 rfl) ?_
  refine lv_ishr hx hb dX3_append_27 ?_
  refine lv_i2b hx hb dX3_append_28 rfl ?_
  refine va_bast hx hb hK hP hD hS 1 1 rfl rfl (vin (by decide)) dX3_append_29 (fun H locs hP hD hS => ?_)
  generalize hhg3 : upd g2 (Int32.toNatClampNeg 18) (vp_nar .byte (p1 >>> (8 &&& 31)).toInt8.toInt32) = g3 at hP hD
  have hP : va_P D vwCl [(a0, .inr (3, [v0_0, v0_1, .int 18, .ref a1, v0_4, v0_5, v0_6, v0_7, v0_8, v0_9, v0_10, v0_11, v0_12])), (a1, .inl (cy 1, 1600, .inl g3))] H := hP
  have hD : va_D A [(a0, .inr (3, [v0_0, v0_1, .int 18, .ref a1, v0_4, v0_5, v0_6, v0_7, v0_8, v0_9, v0_10, v0_11, v0_12])), (a1, .inl (cy 1, 1600, .inl g3))] := hD
  refine lv_aload_n hx hb dX3_append_30 rfl (lv_at hl 1 rfl) ?_
  refine lv_dup hx hb dX3_append_31 rfl ?_
  refine va_get (D := D) (cl := vwCl) (ci := 3) (v := .int 18) (C := RX3) (T := TX3) (N := 13) hx hb hts in_X3_append_X3 hown hK hP 0 rfl rfl 2 (by decide) (hts (.fieldLink RX3 49 "EightReasons$Reader" "bytes" "I") (List.mem_of_getElem? (i := 1) (by decide +kernel))) (fun _ h9 => h9) rfl dX3_append_32 ?_
  refine lv_iconst (v := 1) hx hb dX3_append_35 (by decide) ?_
  refine lv_iadd hx hb dX3_append_36 (tpi (v := 19) (by decide) ?_)
  refine va_put (D := D) (cl := vwCl) (ci := 3) (v := .int 19) (ty := tyX3 2) (C := RX3) (T := TX3) (N := 13) hx hb hts in_X3_append_X3 tyX3 tyX3_ok nmX3 hown hK hP hD hS 0 rfl rfl 2 (by decide) (hts (.fieldLink RX3 49 "EightReasons$Reader" "bytes" "I") (List.mem_of_getElem? (i := 1) (by decide +kernel))) (fun _ h9 => h9) rfl (tyX3_ok 2 (by decide)) rfl rfl (Nat.le_of_ble_eq_true rfl) dX3_append_37 (fun H locs hP hD hS => ?_)
  have hP : va_P D vwCl [(a0, .inr (3, [v0_0, v0_1, .int 19, .ref a1, v0_4, v0_5, v0_6, v0_7, v0_8, v0_9, v0_10, v0_11, v0_12])), (a1, .inl (cy 1, 1600, .inl g3))] H := hP
  have hD : va_D A [(a0, .inr (3, [v0_0, v0_1, .int 19, .ref a1, v0_4, v0_5, v0_6, v0_7, v0_8, v0_9, v0_10, v0_11, v0_12])), (a1, .inl (cy 1, 1600, .inl g3))] := hD
  refine lv_iinc (v := 0) (lv' := [(2, .int 0), (0, .ref a0), (1, .int p1)]) hx hb dX3_append_40 hl (k := 0) rfl (by decide) (by decide) rfl (fun ls hl => ?_)
  refine lv_goto (tgt := 3) hx hb dX3_append_43 (by decide) ?_
  refine lv_iload_n hx hb dX3_append_3 rfl (lv_at hl 0 rfl) ?_
  refine lv_if_lt (tgt := 46) hx hb dX3_append_4 (by decide) (fun c => absurd c (by decide)) (fun _ => ?_)
  refine lv_aload_n hx hb dX3_append_7 rfl (lv_at hl 1 rfl) ?_
  refine va_get (D := D) (cl := vwCl) (ci := 3) (v := .int 19) (C := RX3) (T := TX3) (N := 13) hx hb hts in_X3_append_X3 hown hK hP 0 rfl rfl 2 (by decide) (hts (.fieldLink RX3 49 "EightReasons$Reader" "bytes" "I") (List.mem_of_getElem? (i := 1) (by decide +kernel))) (fun _ h9 => h9) rfl dX3_append_8 ?_
  refine lv_sipush (v := 1600) hx hb dX3_append_11 (by decide) ?_
  refine lv_icmp_ge (tgt := 46) hx hb dX3_append_14 (by decide) (fun c => absurd c (by decide)) (fun _ => ?_)
  refine lv_aload_n hx hb dX3_append_17 rfl (lv_at hl 1 rfl) ?_
  refine va_get (D := D) (cl := vwCl) (ci := 3) (v := .ref a1) (C := RX3) (T := TX3) (N := 13) hx hb hts in_X3_append_X3 hown hK hP 0 rfl rfl 3 (by decide) (hts (.fieldLink RX3 15 "EightReasons$Reader" "tape" "[B") (List.mem_of_getElem? (i := 2) (by decide +kernel))) (fun _ h9 => h9) rfl dX3_append_18 ?_
  refine lv_aload_n hx hb dX3_append_21 rfl (lv_at hl 1 rfl) ?_
  refine va_get (D := D) (cl := vwCl) (ci := 3) (v := .int 19) (C := RX3) (T := TX3) (N := 13) hx hb hts in_X3_append_X3 hown hK hP 0 rfl rfl 2 (by decide) (hts (.fieldLink RX3 49 "EightReasons$Reader" "bytes" "I") (List.mem_of_getElem? (i := 1) (by decide +kernel))) (fun _ h9 => h9) rfl dX3_append_22 ?_
  refine lv_iload_n hx hb dX3_append_25 rfl (lv_at hl 2 rfl) ?_
  refine lv_iload_n hx hb dX3_append_26 rfl (lv_at hl 0 rfl) ?_
  refine lv_ishr hx hb dX3_append_27 ?_
  refine lv_i2b hx hb dX3_append_28 rfl ?_
  refine va_bast hx hb hK hP hD hS 1 1 rfl rfl (vin (by decide)) dX3_append_29 (fun H locs hP hD hS => ?_)
  generalize hhg4 : upd g3 (Int32.toNatClampNeg 19) (vp_nar .byte (p1 >>> (0 &&& 31)).toInt8.toInt32) = g4 at hP hD
  have hP : va_P D vwCl [(a0, .inr (3, [v0_0, v0_1, .int 19, .ref a1, v0_4, v0_5, v0_6, v0_7, v0_8, v0_9, v0_10, v0_11, v0_12])), (a1, .inl (cy 1, 1600, .inl g4))] H := hP
  have hD : va_D A [(a0, .inr (3, [v0_0, v0_1, .int 19, .ref a1, v0_4, v0_5, v0_6, v0_7, v0_8, v0_9, v0_10, v0_11, v0_12])), (a1, .inl (cy 1, 1600, .inl g4))] := hD
  refine lv_aload_n hx hb dX3_append_30 rfl (lv_at hl 1 rfl) ?_
  refine lv_dup hx hb dX3_append_31 rfl ?_
  refine va_get (D := D) (cl := vwCl) (ci := 3) (v := .int 19) (C := RX3) (T := TX3) (N := 13) hx hb hts in_X3_append_X3 hown hK hP 0 rfl rfl 2 (by decide) (hts (.fieldLink RX3 49 "EightReasons$Reader" "bytes" "I") (List.mem_of_getElem? (i := 1) (by decide +kernel))) (fun _ h9 => h9) rfl dX3_append_32 ?_
  refine lv_iconst (v := 1) hx hb dX3_append_35 (by decide) ?_
  refine lv_iadd hx hb dX3_append_36 (tpi (v := 20) (by decide) ?_)
  refine va_put (D := D) (cl := vwCl) (ci := 3) (v := .int 20) (ty := tyX3 2) (C := RX3) (T := TX3) (N := 13) hx hb hts in_X3_append_X3 tyX3 tyX3_ok nmX3 hown hK hP hD hS 0 rfl rfl 2 (by decide) (hts (.fieldLink RX3 49 "EightReasons$Reader" "bytes" "I") (List.mem_of_getElem? (i := 1) (by decide +kernel))) (fun _ h9 => h9) rfl (tyX3_ok 2 (by decide)) rfl rfl (Nat.le_of_ble_eq_true rfl) dX3_append_37 (fun H locs hP hD hS => ?_)
  have hP : va_P D vwCl [(a0, .inr (3, [v0_0, v0_1, .int 20, .ref a1, v0_4, v0_5, v0_6, v0_7, v0_8, v0_9, v0_10, v0_11, v0_12])), (a1, .inl (cy 1, 1600, .inl g4))] H := hP
  have hD : va_D A [(a0, .inr (3, [v0_0, v0_1, .int 20, .ref a1, v0_4, v0_5, v0_6, v0_7, v0_8, v0_9, v0_10, v0_11, v0_12])), (a1, .inl (cy 1, 1600, .inl g4))] := hD
  refine lv_iinc (v := (-8)) (lv' := [(2, .int (-8)), (0, .ref a0), (1, .int p1)]) hx hb dX3_append_40 hl (k := 0) rfl (by decide) (by decide) rfl (fun ls hl => ?_)
  refine lv_goto (tgt := 3) hx hb dX3_append_43 (by decide) ?_
  refine lv_iload_n hx hb dX3_append_3 rfl (lv_at hl 0 rfl) ?_
  refine lv_if_lt (tgt := 46) hx hb dX3_append_4 (by decide) (fun _ => ?_) (fun c => absurd (by decide) c)
  exact rtV hx hb hr hlk hP hD hS (fun j => [g4].getD j zI) [0, 1] rfl rfl trivial dX3_append_46
set_option maxHeartbeats 4000000 in
set_option maxRecDepth 100000 in
theorem k_X8_feed_0 (l : Launch) (D : va_G) (cy : Nat → ClassId) (a0 a1 a2 : Nat) (v0_1 : Value) (v0_2 : Value) (v0_3 : Value) (v0_4 : Value) (v0_5 : Value) (v0_6 : Value) (v0_7 : Value) (v0_8 : Value) (v0_9 : Value) (v0_10 : Value) (v0_11 : Value) (v0_12 : Value) (v1_0 : Value) (v1_1 : Value) (v1_4 : Value) (v1_5 : Value) (v1_6 : Value) (v1_7 : Value) (v1_8 : Value) (v1_9 : Value) (v1_10 : Value) (v1_11 : Value) (v1_12 : Value) (p1 : Int32) (p2 : Int32) (p3 : Int32) (p4 : Int32) (p5 : Int32) (sz : Nat) : CtI l yX8_feed wsX8_feed 1 22 [.ref a0, .int p1, .int p2, .int p3, .int p4, .int p5] D cy [(a0, .inr (8, [.ref a1, v0_1, v0_2, v0_3, v0_4, v0_5, v0_6, v0_7, v0_8, v0_9, v0_10, v0_11, v0_12])), (a1, .inr (3, [v1_0, v1_1, .int 0, .ref a2, v1_4, v1_5, v1_6, v1_7, v1_8, v1_9, v1_10, v1_11, v1_12])), (a2, .inl (cy 1, 1600, .inl zI))] sz 0 0 (fun (r : Int32) (_ : Unit) => r = 20) (fun _ => []) := by
  refine CtI.of (cc := cX8_feed) (maxL := 6) (ty := .int) (own := RX8) (by decide) rfl (Nat.le_of_ble_eq_true rfl) rfl ?_
  intro p e s m below meth c A ls hx hb hr hml hts hown hlk hK hP hD hS hA hl
  have hl : lv_has ls 6 [(0, .ref a0), (1, .int p1), (2, .int p2), (3, .int p3), (4, .int p4), (5, .int p5)] := hl
  refine st0 (fun H locs hP hS => ?_) hP hS
  have hP : va_P D vwCl [(a0, .inr (8, [.ref a1, v0_1, v0_2, v0_3, v0_4, v0_5, v0_6, v0_7, v0_8, v0_9, v0_10, v0_11, v0_12])), (a1, .inr (3, [v1_0, v1_1, .int 0, .ref a2, v1_4, v1_5, v1_6, v1_7, v1_8, v1_9, v1_10, v1_11, v1_12])), (a2, .inl (cy 1, 1600, .inl zI))] H := hP
  have hD : va_D A [(a0, .inr (8, [.ref a1, v0_1, v0_2, v0_3, v0_4, v0_5, v0_6, v0_7, v0_8, v0_9, v0_10, v0_11, v0_12])), (a1, .inr (3, [v1_0, v1_1, .int 0, .ref a2, v1_4, v1_5, v1_6, v1_7, v1_8, v1_9, v1_10, v1_11, v1_12])), (a2, .inl (cy 1, 1600, .inl zI))] := hD
  refine lv_aload_n hx hb dX8_feed_0 rfl (lv_at hl 0 rfl) ?_
  refine va_get (D := D) (cl := vwCl) (ci := 8) (v := .ref a1) (C := RX8) (T := TX8) (N := 13) hx hb hts in_X8_feed_X8 hown hK hP 0 rfl rfl 0 (by decide) (hts (.fieldLink RX8 10 "EightReasons" "reader" "LEightReasons$Reader;") (List.mem_of_getElem? (i := 1) (by decide +kernel))) (fun _ h9 => h9) rfl dX8_feed_1 ?_
  refine va_get (D := D) (cl := vwCl) (ci := 3) (v := .int 0) (C := RX3) (T := TX3) (N := 13) hx hb hts in_X8_feed_X3 hown hK hP 1 rfl rfl 2 (by decide) (hts (.fieldLink RX8 69 "EightReasons$Reader" "bytes" "I") (List.mem_of_getElem? (i := 2) (by decide +kernel))) (fun _ h9 => h9) rfl dX8_feed_4 ?_
  refine lv_bipush (v := 20) hx hb dX8_feed_7 (by decide) ?_
  refine lv_iadd hx hb dX8_feed_9 (tpi (v := 20) (by decide) ?_)
  refine lv_sipush (v := 1600) hx hb dX8_feed_10 (by decide) ?_
  refine lv_icmp_le (tgt := 18) hx hb dX8_feed_13 (by decide) (fun _ => ?_) (fun c => absurd (by decide) c)
  refine lv_aload_n hx hb dX8_feed_18 rfl (lv_at hl 0 rfl) ?_
  refine va_get (D := D) (cl := vwCl) (ci := 8) (v := .ref a1) (C := RX8) (T := TX8) (N := 13) hx hb hts in_X8_feed_X8 hown hK hP 0 rfl rfl 0 (by decide) (hts (.fieldLink RX8 10 "EightReasons" "reader" "LEightReasons$Reader;") (List.mem_of_getElem? (i := 1) (by decide +kernel))) (fun _ h9 => h9) rfl dX8_feed_19 ?_
  refine lv_iload_n hx hb dX8_feed_22 rfl (lv_at hl 1 rfl) ?_
  refine clVV (As := [.int p1]) (rest := []) (wr := [(a0, .inr (8, [.ref a1, v0_1, v0_2, v0_3, v0_4, v0_5, v0_6, v0_7, v0_8, v0_9, v0_10, v0_11, v0_12]))]) ⟨hx, hb, hml, hown, hts⟩ hK hP hD hS hA (k_X3_append_0 l D cy a1 a2 (v1_0) (v1_1) (v1_4) (v1_5) (v1_6) (v1_7) (v1_8) (v1_9) (v1_10) (v1_11) (v1_12) p1 _) (cwV 1 hts gX8_feed_X3_append rfl rfl rfl (by decide +kernel) ⟨Nat.le_of_ble_eq_true rfl, Nat.le_of_ble_eq_true rfl⟩) 1 3 rfl rfl [1, 2] [0] rfl rfl rfl rfl (by decide) rfl hl.1 rfl (Nat.le_of_ble_eq_true rfl) dX8_feed_23 ⟨Nat.le_of_ble_eq_true rfl, Nat.le_of_ble_eq_true rfl⟩ rfl rfl (fun u1 H locs _ hP hD hS => ?_)
  have hP : va_P D vwCl [(a0, .inr (8, [.ref a1, v0_1, v0_2, v0_3, v0_4, v0_5, v0_6, v0_7, v0_8, v0_9, v0_10, v0_11, v0_12])), (a1, .inr (3, [v1_0, v1_1, .int 4, .ref a2, v1_4, v1_5, v1_6, v1_7, v1_8, v1_9, v1_10, v1_11, v1_12])), (a2, .inl (cy 1, 1600, .inl (u1 0)))] H := hP
  have hD : va_D A [(a0, .inr (8, [.ref a1, v0_1, v0_2, v0_3, v0_4, v0_5, v0_6, v0_7, v0_8, v0_9, v0_10, v0_11, v0_12])), (a1, .inr (3, [v1_0, v1_1, .int 4, .ref a2, v1_4, v1_5, v1_6, v1_7, v1_8, v1_9, v1_10, v1_11, v1_12])), (a2, .inl (cy 1, 1600, .inl (u1 0)))] := hD
  refine lv_aload_n hx hb dX8_feed_26 rfl (lv_at hl 0 rfl) ?_
  refine va_get (D := D) (cl := vwCl) (ci := 8) (v := .ref a1) (C := RX8) (T := TX8) (N := 13) hx hb hts in_X8_feed_X8 hown hK hP 0 rfl rfl 0 (by decide) (hts (.fieldLink RX8 10 "EightReasons" "reader" "LEightReasons$Reader;") (List.mem_of_getElem? (i := 1) (by decide +kernel))) (fun _ h9 => h9) rfl dX8_feed_27 ?_
  refine lv_iload_n hx hb dX8_feed_30 rfl (lv_at hl 2 rfl) ?_
  refine clVV (As := [.int p2]) (rest := []) (wr := [(a0, .inr (8, [.ref a1, v0_1, v0_2, v0_3, v0_4, v0_5, v0_6, v0_7, v0_8, v0_9, v0_10, v0_11, v0_12]))]) ⟨hx, hb, hml, hown, hts⟩ hK hP hD hS hA (k_X3_append_1 l D cy a1 a2 (v1_0) (v1_1) (v1_4) (v1_5) (v1_6) (v1_7) (v1_8) (v1_9) (v1_10) (v1_11) (v1_12) (u1 0) p2 _) (cwV 1 hts gX8_feed_X3_append rfl rfl rfl (by decide +kernel) ⟨Nat.le_of_ble_eq_true rfl, Nat.le_of_ble_eq_true rfl⟩) 1 3 rfl rfl [1, 2] [0] rfl rfl rfl rfl (by decide) rfl hl.1 rfl (Nat.le_of_ble_eq_true rfl) dX8_feed_31 ⟨Nat.le_of_ble_eq_true rfl, Nat.le_of_ble_eq_true rfl⟩ rfl rfl (fun u2 H locs _ hP hD hS => ?_)
  have hP : va_P D vwCl [(a0, .inr (8, [.ref a1, v0_1, v0_2, v0_3, v0_4, v0_5, v0_6, v0_7, v0_8, v0_9, v0_10, v0_11, v0_12])), (a1, .inr (3, [v1_0, v1_1, .int 8, .ref a2, v1_4, v1_5, v1_6, v1_7, v1_8, v1_9, v1_10, v1_11, v1_12])), (a2, .inl (cy 1, 1600, .inl (u2 0)))] H := hP
  have hD : va_D A [(a0, .inr (8, [.ref a1, v0_1, v0_2, v0_3, v0_4, v0_5, v0_6, v0_7, v0_8, v0_9, v0_10, v0_11, v0_12])), (a1, .inr (3, [v1_0, v1_1, .int 8, .ref a2, v1_4, v1_5, v1_6, v1_7, v1_8, v1_9, v1_10, v1_11, v1_12])), (a2, .inl (cy 1, 1600, .inl (u2 0)))] := hD
  refine lv_aload_n hx hb dX8_feed_34 rfl (lv_at hl 0 rfl) ?_
  refine va_get (D := D) (cl := vwCl) (ci := 8) (v := .ref a1) (C := RX8) (T := TX8) (N := 13) hx hb hts in_X8_feed_X8 hown hK hP 0 rfl rfl 0 (by decide) (hts (.fieldLink RX8 10 "EightReasons" "reader" "LEightReasons$Reader;") (List.mem_of_getElem? (i := 1) (by decide +kernel))) (fun _ h9 => h9) rfl dX8_feed_35 ?_
  refine lv_iload_n hx hb dX8_feed_38 rfl (lv_at hl 3 rfl) ?_
  refine clVV (As := [.int p3]) (rest := []) (wr := [(a0, .inr (8, [.ref a1, v0_1, v0_2, v0_3, v0_4, v0_5, v0_6, v0_7, v0_8, v0_9, v0_10, v0_11, v0_12]))]) ⟨hx, hb, hml, hown, hts⟩ hK hP hD hS hA (k_X3_append_2 l D cy a1 a2 (v1_0) (v1_1) (v1_4) (v1_5) (v1_6) (v1_7) (v1_8) (v1_9) (v1_10) (v1_11) (v1_12) (u2 0) p3 _) (cwV 1 hts gX8_feed_X3_append rfl rfl rfl (by decide +kernel) ⟨Nat.le_of_ble_eq_true rfl, Nat.le_of_ble_eq_true rfl⟩) 1 3 rfl rfl [1, 2] [0] rfl rfl rfl rfl (by decide) rfl hl.1 rfl (Nat.le_of_ble_eq_true rfl) dX8_feed_39 ⟨Nat.le_of_ble_eq_true rfl, Nat.le_of_ble_eq_true rfl⟩ rfl rfl (fun u3 H locs _ hP hD hS => ?_)
  have hP : va_P D vwCl [(a0, .inr (8, [.ref a1, v0_1, v0_2, v0_3, v0_4, v0_5, v0_6, v0_7, v0_8, v0_9, v0_10, v0_11, v0_12])), (a1, .inr (3, [v1_0, v1_1, .int 12, .ref a2, v1_4, v1_5, v1_6, v1_7, v1_8, v1_9, v1_10, v1_11, v1_12])), (a2, .inl (cy 1, 1600, .inl (u3 0)))] H := hP
  have hD : va_D A [(a0, .inr (8, [.ref a1, v0_1, v0_2, v0_3, v0_4, v0_5, v0_6, v0_7, v0_8, v0_9, v0_10, v0_11, v0_12])), (a1, .inr (3, [v1_0, v1_1, .int 12, .ref a2, v1_4, v1_5, v1_6, v1_7, v1_8, v1_9, v1_10, v1_11, v1_12])), (a2, .inl (cy 1, 1600, .inl (u3 0)))] := hD
  refine lv_aload_n hx hb dX8_feed_42 rfl (lv_at hl 0 rfl) ?_
  refine va_get (D := D) (cl := vwCl) (ci := 8) (v := .ref a1) (C := RX8) (T := TX8) (N := 13) hx hb hts in_X8_feed_X8 hown hK hP 0 rfl rfl 0 (by decide) (hts (.fieldLink RX8 10 "EightReasons" "reader" "LEightReasons$Reader;") (List.mem_of_getElem? (i := 1) (by decide +kernel))) (fun _ h9 => h9) rfl dX8_feed_43 ?_
  refine lv_iload hx hb dX8_feed_46 (lv_at hl 4 rfl) ?_
  refine clVV (As := [.int p4]) (rest := []) (wr := [(a0, .inr (8, [.ref a1, v0_1, v0_2, v0_3, v0_4, v0_5, v0_6, v0_7, v0_8, v0_9, v0_10, v0_11, v0_12]))]) ⟨hx, hb, hml, hown, hts⟩ hK hP hD hS hA (k_X3_append_3 l D cy a1 a2 (v1_0) (v1_1) (v1_4) (v1_5) (v1_6) (v1_7) (v1_8) (v1_9) (v1_10) (v1_11) (v1_12) (u3 0) p4 _) (cwV 1 hts gX8_feed_X3_append rfl rfl rfl (by decide +kernel) ⟨Nat.le_of_ble_eq_true rfl, Nat.le_of_ble_eq_true rfl⟩) 1 3 rfl rfl [1, 2] [0] rfl rfl rfl rfl (by decide) rfl hl.1 rfl (Nat.le_of_ble_eq_true rfl) dX8_feed_48 ⟨Nat.le_of_ble_eq_true rfl, Nat.le_of_ble_eq_true rfl⟩ rfl rfl (fun u4 H locs _ hP hD hS => ?_)
  have hP : va_P D vwCl [(a0, .inr (8, [.ref a1, v0_1, v0_2, v0_3, v0_4, v0_5, v0_6, v0_7, v0_8, v0_9, v0_10, v0_11, v0_12])), (a1, .inr (3, [v1_0, v1_1, .int 16, .ref a2, v1_4, v1_5, v1_6, v1_7, v1_8, v1_9, v1_10, v1_11, v1_12])), (a2, .inl (cy 1, 1600, .inl (u4 0)))] H := hP
  have hD : va_D A [(a0, .inr (8, [.ref a1, v0_1, v0_2, v0_3, v0_4, v0_5, v0_6, v0_7, v0_8, v0_9, v0_10, v0_11, v0_12])), (a1, .inr (3, [v1_0, v1_1, .int 16, .ref a2, v1_4, v1_5, v1_6, v1_7, v1_8, v1_9, v1_10, v1_11, v1_12])), (a2, .inl (cy 1, 1600, .inl (u4 0)))] := hD
  refine lv_aload_n hx hb dX8_feed_51 rfl (lv_at hl 0 rfl) ?_
  refine va_get (D := D) (cl := vwCl) (ci := 8) (v := .ref a1) (C := RX8) (T := TX8) (N := 13) hx hb hts in_X8_feed_X8 hown hK hP 0 rfl rfl 0 (by decide) (hts (.fieldLink RX8 10 "EightReasons" "reader" "LEightReasons$Reader;") (List.mem_of_getElem? (i := 1) (by decide +kernel))) (fun _ h9 => h9) rfl dX8_feed_52 ?_
  refine lv_iload hx hb dX8_feed_55 (lv_at hl 5 rfl) ?_
  refine clVV (As := [.int p5]) (rest := []) (wr := [(a0, .inr (8, [.ref a1, v0_1, v0_2, v0_3, v0_4, v0_5, v0_6, v0_7, v0_8, v0_9, v0_10, v0_11, v0_12]))]) ⟨hx, hb, hml, hown, hts⟩ hK hP hD hS hA (k_X3_append_4 l D cy a1 a2 (v1_0) (v1_1) (v1_4) (v1_5) (v1_6) (v1_7) (v1_8) (v1_9) (v1_10) (v1_11) (v1_12) (u4 0) p5 _) (cwV 1 hts gX8_feed_X3_append rfl rfl rfl (by decide +kernel) ⟨Nat.le_of_ble_eq_true rfl, Nat.le_of_ble_eq_true rfl⟩) 1 3 rfl rfl [1, 2] [0] rfl rfl rfl rfl (by decide) rfl hl.1 rfl (Nat.le_of_ble_eq_true rfl) dX8_feed_57 ⟨Nat.le_of_ble_eq_true rfl, Nat.le_of_ble_eq_true rfl⟩ rfl rfl (fun u5 H locs _ hP hD hS => ?_)
  have hP : va_P D vwCl [(a0, .inr (8, [.ref a1, v0_1, v0_2, v0_3, v0_4, v0_5, v0_6, v0_7, v0_8, v0_9, v0_10, v0_11, v0_12])), (a1, .inr (3, [v1_0, v1_1, .int 20, .ref a2, v1_4, v1_5, v1_6, v1_7, v1_8, v1_9, v1_10, v1_11, v1_12])), (a2, .inl (cy 1, 1600, .inl (u5 0)))] H := hP
  have hD : va_D A [(a0, .inr (8, [.ref a1, v0_1, v0_2, v0_3, v0_4, v0_5, v0_6, v0_7, v0_8, v0_9, v0_10, v0_11, v0_12])), (a1, .inr (3, [v1_0, v1_1, .int 20, .ref a2, v1_4, v1_5, v1_6, v1_7, v1_8, v1_9, v1_10, v1_11, v1_12])), (a2, .inl (cy 1, 1600, .inl (u5 0)))] := hD
  refine lv_aload_n hx hb dX8_feed_60 rfl (lv_at hl 0 rfl) ?_
  refine va_get (D := D) (cl := vwCl) (ci := 8) (v := .ref a1) (C := RX8) (T := TX8) (N := 13) hx hb hts in_X8_feed_X8 hown hK hP 0 rfl rfl 0 (by decide) (hts (.fieldLink RX8 10 "EightReasons" "reader" "LEightReasons$Reader;") (List.mem_of_getElem? (i := 1) (by decide +kernel))) (fun _ h9 => h9) rfl dX8_feed_61 ?_
  refine va_get (D := D) (cl := vwCl) (ci := 3) (v := .int 20) (C := RX3) (T := TX3) (N := 13) hx hb hts in_X8_feed_X3 hown hK hP 1 rfl rfl 2 (by decide) (hts (.fieldLink RX8 69 "EightReasons$Reader" "bytes" "I") (List.mem_of_getElem? (i := 2) (by decide +kernel))) (fun _ h9 => h9) rfl dX8_feed_64 ?_
  exact rtI hx hb hr hlk rfl hP hD hS () [] rfl rfl rfl dX8_feed_67
set_option maxHeartbeats 4000000 in
set_option maxRecDepth 100000 in
theorem k_X9_feed_0 (l : Launch) (D : va_G) (cy : Nat → ClassId) (a0 a1 : Nat) (v0_1 : Value) (v0_3 : Value) (v0_4 : Value) (v0_5 : Value) (v0_6 : Value) (v0_7 : Value) (v0_8 : Value) (v0_9 : Value) (v0_10 : Value) (v0_11 : Value) (v0_12 : Value) (v0_13 : Value) (v0_14 : Value) (v0_15 : Value) (v0_16 : Value) (v0_17 : Value) (v0_18 : Value) (v0_19 : Value) (v0_20 : Value) (v0_21 : Value) (v0_22 : Value) (v0_23 : Value) (v0_24 : Value) (v0_25 : Value) (v0_26 : Value) (v0_27 : Value) (v0_28 : Value) (v0_29 : Value) (v0_30 : Value) (v0_31 : Value) (v0_32 : Value) (v0_33 : Value) (v0_34 : Value) (v0_35 : Value) (v0_36 : Value) (v0_37 : Value) (v0_38 : Value) (v0_39 : Value) (v0_40 : Value) (v0_41 : Value) (v0_42 : Value) (v0_43 : Value) (v0_44 : Value) (v0_45 : Value) (v0_46 : Value) (v0_47 : Value) (v0_48 : Value) (v0_49 : Value) (v0_50 : Value) (v0_51 : Value) (v0_52 : Value) (v0_53 : Value) (v0_54 : Value) (v0_55 : Value) (v0_56 : Value) (v0_57 : Value) (v0_58 : Value) (v0_59 : Value) (v0_60 : Value) (v0_61 : Value) (v0_62 : Value) (v0_63 : Value) (p1 : Int32) (p2 : Int32) (p3 : Int32) (p4 : Int32) (p5 : Int32) (sz : Nat) : CtI l yX9_feed wsX9_feed 0 0 [.ref a0, .int p1, .int p2, .int p3, .int p4, .int p5] D cy [(a0, .inr (9, [.ref a1, v0_1, .int 0, v0_3, v0_4, v0_5, v0_6, v0_7, v0_8, v0_9, v0_10, v0_11, v0_12, v0_13, v0_14, v0_15, v0_16, v0_17, v0_18, v0_19, v0_20, v0_21, v0_22, v0_23, v0_24, v0_25, v0_26, v0_27, v0_28, v0_29, v0_30, v0_31, v0_32, v0_33, v0_34, v0_35, v0_36, v0_37, v0_38, v0_39, v0_40, v0_41, v0_42, v0_43, v0_44, v0_45, v0_46, v0_47, v0_48, v0_49, v0_50, v0_51, v0_52, v0_53, v0_54, v0_55, v0_56, v0_57, v0_58, v0_59, v0_60, v0_61, v0_62, v0_63])), (a1, .inl (cy 1, 1620, .inl zI))] sz 0 0 (fun (r : Int32) (_ : Unit) => r = 20) (fun _ => []) := by
  refine CtI.of (cc := cX9_feed) (maxL := 8) (ty := .int) (own := RX9) (by decide) rfl (Nat.le_of_ble_eq_true rfl) rfl ?_
  intro p e s m below meth c A ls hx hb hr hml hts hown hlk hK hP hD hS hA hl
  have hl : lv_has ls 8 [(0, .ref a0), (1, .int p1), (2, .int p2), (3, .int p3), (4, .int p4), (5, .int p5)] := hl
  refine st0 (fun H locs hP hS => ?_) hP hS
  have hP : va_P D vwCl [(a0, .inr (9, [.ref a1, v0_1, .int 0, v0_3, v0_4, v0_5, v0_6, v0_7, v0_8, v0_9, v0_10, v0_11, v0_12, v0_13, v0_14, v0_15, v0_16, v0_17, v0_18, v0_19, v0_20, v0_21, v0_22, v0_23, v0_24, v0_25, v0_26, v0_27, v0_28, v0_29, v0_30, v0_31, v0_32, v0_33, v0_34, v0_35, v0_36, v0_37, v0_38, v0_39, v0_40, v0_41, v0_42, v0_43, v0_44, v0_45, v0_46, v0_47, v0_48, v0_49, v0_50, v0_51, v0_52, v0_53, v0_54, v0_55, v0_56, v0_57, v0_58, v0_59, v0_60, v0_61, v0_62, v0_63])), (a1, .inl (cy 1, 1620, .inl zI))] H := hP
  have hD : va_D A [(a0, .inr (9, [.ref a1, v0_1, .int 0, v0_3, v0_4, v0_5, v0_6, v0_7, v0_8, v0_9, v0_10, v0_11, v0_12, v0_13, v0_14, v0_15, v0_16, v0_17, v0_18, v0_19, v0_20, v0_21, v0_22, v0_23, v0_24, v0_25, v0_26, v0_27, v0_28, v0_29, v0_30, v0_31, v0_32, v0_33, v0_34, v0_35, v0_36, v0_37, v0_38, v0_39, v0_40, v0_41, v0_42, v0_43, v0_44, v0_45, v0_46, v0_47, v0_48, v0_49, v0_50, v0_51, v0_52, v0_53, v0_54, v0_55, v0_56, v0_57, v0_58, v0_59, v0_60, v0_61, v0_62, v0_63])), (a1, .inl (cy 1, 1620, .inl zI))] := hD
  refine lv_aload_n hx hb dX9_feed_0 rfl (lv_at hl 0 rfl) ?_
  refine va_get (D := D) (cl := vwCl) (ci := 9) (v := .int 0) (C := RX9) (T := TX9) (N := 64) hx hb hts in_X9_feed_X9 hown hK hP 0 rfl rfl 2 (by decide) (hts (.fieldLink RX9 236 "EightReasonsModel" "taped" "I") (List.mem_of_getElem? (i := 1) (by decide +kernel))) (fun _ h9 => h9) rfl dX9_feed_1 ?_
  refine lv_bipush (v := 20) hx hb dX9_feed_4 (by decide) ?_
  refine lv_iadd hx hb dX9_feed_6 (tpi (v := 20) (by decide) ?_)
  refine lv_sipush (v := 1600) hx hb dX9_feed_7 (by decide) ?_
  refine lv_icmp_le (tgt := 15) hx hb dX9_feed_10 (by decide) (fun _ => ?_) (fun c => absurd (by decide) c)
  refine lv_iconst (v := 0) hx hb dX9_feed_15 (by decide) ?_
  refine lv_istore (lv' := [(6, .int 0), (0, .ref a0), (1, .int p1), (2, .int p2), (3, .int p3), (4, .int p4), (5, .int p5)]) hx hb dX9_feed_16 hl (by decide) rfl (fun ls hl => ?_)
  refine lv_iload hx hb dX9_feed_18 (lv_at hl 0 rfl) ?_
  refine lv_bipush (v := 20) hx hb dX9_feed_20 (by decide) ?_
  refine lv_icmp_ge (tgt := 105) hx hb dX9_feed_22 (by decide) (fun c => absurd c (by decide)) (fun _ => ?_)
  refine lv_iload hx hb dX9_feed_25 (lv_at hl 0 rfl) ?_
  refine lv_iconst (v := 4) hx hb dX9_feed_27 (by decide) ?_
  refine lv_icmp_ge (tgt := 35) hx hb dX9_feed_28 (by decide) (fun c => absurd c (by decide)) (fun _ => ?_)
  refine lv_iload_n hx hb dX9_feed_31 rfl (lv_at hl 2 rfl) ?_
  refine lv_goto (tgt := 71) hx hb dX9_feed_32 (by decide) ?_
  refine lv_istore (lv' := [(7, .int p1), (6, .int 0), (0, .ref a0), (1, .int p1), (2, .int p2), (3, .int p3), (4, .int p4), (5, .int p5)]) hx hb dX9_feed_71 hl (by decide) rfl (fun ls hl => ?_)
  refine lv_aload_n hx hb dX9_feed_73 rfl (lv_at hl 2 rfl) ?_
  refine va_get (D := D) (cl := vwCl) (ci := 9) (v := .ref a1) (C := RX9) (T := TX9) (N := 64) hx hb hts in_X9_feed_X9 hown hK hP 0 rfl rfl 0 (by decide) (hts (.fieldLink RX9 7 "EightReasonsModel" "tape" "[B") (List.mem_of_getElem? (i := 2) (by decide +kernel))) (fun _ h9 => h9) rfl dX9_feed_74 ?_
  refine lv_aload_n hx hb dX9_feed_77 rfl (lv_at hl 2 rfl) ?_
  refine va_get (D := D) (cl := vwCl) (ci := 9) (v := .int 0) (C := RX9) (T := TX9) (N := 64) hx hb hts in_X9_feed_X9 hown hK hP 0 rfl rfl 2 (by decide) (hts (.fieldLink RX9 236 "EightReasonsModel" "taped" "I") (List.mem_of_getElem? (i := 1) (by decide +kernel))) (fun _ h9 => h9) rfl dX9_feed_78 ?_
  refine lv_iload hx hb dX9_feed_81 (lv_at hl 1 rfl) ?_
  refine lv_iadd hx hb dX9_feed_83 (tpi (v := 0) (by decide) ?_)
  refine lv_iload hx hb dX9_feed_84 (lv_at hl 0 rfl) ?_
  refine lv_bipush (v := 24) hx hb dX9_feed_86 (by decide) ?_
  refine lv_bipush (v := 8) hx hb dX9_feed_88 (by decide) ?_
  refine lv_iload hx hb dX9_feed_90 (lv_at hl 1 rfl) ?_
  refine lv_iconst (v := 3) hx hb dX9_feed_92 (by decide) ?_
  refine lv_iand hx hb dX9_feed_93 (tpi (v := 0) (by decide) ?_)
  refine lv_imul hx hb dX9_feed_94 (tpi (v := 0) (by decide) ?_)
  refine lv_isub hx hb dX9_feed_95 (tpi (v := 24) (by decide) ?_)
  refine lv_ishr hx hb dX9_feed_96 ?_
  refine lv_i2b hx hb dX9_feed_97 rfl ?_
  refine va_bast hx hb hK hP hD hS 1 1 rfl rfl (vin (by decide)) dX9_feed_98 (fun H locs hP hD hS => ?_)
  generalize hhg1 : upd zI (Int32.toNatClampNeg 0) (vp_nar .byte (p1 >>> (24 &&& 31)).toInt8.toInt32) = g1 at hP hD
  have hP : va_P D vwCl [(a0, .inr (9, [.ref a1, v0_1, .int 0, v0_3, v0_4, v0_5, v0_6, v0_7, v0_8, v0_9, v0_10, v0_11, v0_12, v0_13, v0_14, v0_15, v0_16, v0_17, v0_18, v0_19, v0_20, v0_21, v0_22, v0_23, v0_24, v0_25, v0_26, v0_27, v0_28, v0_29, v0_30, v0_31, v0_32, v0_33, v0_34, v0_35, v0_36, v0_37, v0_38, v0_39, v0_40, v0_41, v0_42, v0_43, v0_44, v0_45, v0_46, v0_47, v0_48, v0_49, v0_50, v0_51, v0_52, v0_53, v0_54, v0_55, v0_56, v0_57, v0_58, v0_59, v0_60, v0_61, v0_62, v0_63])), (a1, .inl (cy 1, 1620, .inl g1))] H := hP
  have hD : va_D A [(a0, .inr (9, [.ref a1, v0_1, .int 0, v0_3, v0_4, v0_5, v0_6, v0_7, v0_8, v0_9, v0_10, v0_11, v0_12, v0_13, v0_14, v0_15, v0_16, v0_17, v0_18, v0_19, v0_20, v0_21, v0_22, v0_23, v0_24, v0_25, v0_26, v0_27, v0_28, v0_29, v0_30, v0_31, v0_32, v0_33, v0_34, v0_35, v0_36, v0_37, v0_38, v0_39, v0_40, v0_41, v0_42, v0_43, v0_44, v0_45, v0_46, v0_47, v0_48, v0_49, v0_50, v0_51, v0_52, v0_53, v0_54, v0_55, v0_56, v0_57, v0_58, v0_59, v0_60, v0_61, v0_62, v0_63])), (a1, .inl (cy 1, 1620, .inl g1))] := hD
  refine lv_iinc (v := 1) (lv' := [(6, .int 1), (7, .int p1), (0, .ref a0), (1, .int p1), (2, .int p2), (3, .int p3), (4, .int p4), (5, .int p5)]) hx hb dX9_feed_99 hl (k := 1) rfl (by decide) (by decide) rfl (fun ls hl => ?_)
  refine lv_goto (tgt := 18) hx hb dX9_feed_102 (by decide) ?_
  refine lv_iload hx hb dX9_feed_18 (lv_at hl 0 rfl) ?_
  refine lv_bipush (v := 20) hx hb dX9_feed_20 (by decide) ?_
  refine lv_icmp_ge (tgt := 105) hx hb dX9_feed_22 (by decide) (fun c => absurd c (by decide)) (fun _ => ?_)
  refine lv_iload hx hb dX9_feed_25 (lv_at hl 0 rfl) ?_
  refine lv_iconst (v := 4) hx hb dX9_feed_27 (by decide) ?_
  refine lv_icmp_ge (tgt := 35) hx hb dX9_feed_28 (by decide) (fun c => absurd c (by decide)) (fun _ => ?_)
  refine lv_iload_n hx hb dX9_feed_31 rfl (lv_at hl 3 rfl) ?_
  refine lv_goto (tgt := 71) hx hb dX9_feed_32 (by decide) ?_
  refine lv_istore (lv' := [(7, .int p1), (6, .int 1), (0, .ref a0), (1, .int p1), (2, .int p2), (3, .int p3), (4, .int p4), (5, .int p5)]) hx hb dX9_feed_71 hl (by decide) rfl (fun ls hl => ?_)
  refine lv_aload_n hx hb dX9_feed_73 rfl (lv_at hl 2 rfl) ?_
  refine va_get (D := D) (cl := vwCl) (ci := 9) (v := .ref a1) (C := RX9) (T := TX9) (N := 64) hx hb hts in_X9_feed_X9 hown hK hP 0 rfl rfl 0 (by decide) (hts (.fieldLink RX9 7 "EightReasonsModel" "tape" "[B") (List.mem_of_getElem? (i := 2) (by decide +kernel))) (fun _ h9 => h9) rfl dX9_feed_74 ?_
  refine lv_aload_n hx hb dX9_feed_77 rfl (lv_at hl 2 rfl) ?_
  refine va_get (D := D) (cl := vwCl) (ci := 9) (v := .int 0) (C := RX9) (T := TX9) (N := 64) hx hb hts in_X9_feed_X9 hown hK hP 0 rfl rfl 2 (by decide) (hts (.fieldLink RX9 236 "EightReasonsModel" "taped" "I") (List.mem_of_getElem? (i := 1) (by decide +kernel))) (fun _ h9 => h9) rfl dX9_feed_78 ?_
  refine lv_iload hx hb dX9_feed_81 (lv_at hl 1 rfl) ?_
  refine lv_iadd hx hb dX9_feed_83 (tpi (v := 1) (by decide) ?_)
  refine lv_iload hx hb dX9_feed_84 (lv_at hl 0 rfl) ?_
  refine lv_bipush (v := 24) hx hb dX9_feed_86 (by decide) ?_
  refine lv_bipush (v := 8) hx hb dX9_feed_88 (by decide) ?_
  refine lv_iload hx hb dX9_feed_90 (lv_at hl 1 rfl) ?_
  refine lv_iconst (v := 3) hx hb dX9_feed_92 (by decide) ?_
  refine lv_iand hx hb dX9_feed_93 (tpi (v := 1) (by decide) ?_)
  refine lv_imul hx hb dX9_feed_94 (tpi (v := 8) (by decide) ?_)
  refine lv_isub hx hb dX9_feed_95 (tpi (v := 16) (by decide) ?_)
  refine lv_ishr hx hb dX9_feed_96 ?_
  refine lv_i2b hx hb dX9_feed_97 rfl ?_
  refine va_bast hx hb hK hP hD hS 1 1 rfl rfl (vin (by decide)) dX9_feed_98 (fun H locs hP hD hS => ?_)
  generalize hhg2 : upd g1 (Int32.toNatClampNeg 1) (vp_nar .byte (p1 >>> (16 &&& 31)).toInt8.toInt32) = g2 at hP hD
  have hP : va_P D vwCl [(a0, .inr (9, [.ref a1, v0_1, .int 0, v0_3, v0_4, v0_5, v0_6, v0_7, v0_8, v0_9, v0_10, v0_11, v0_12, v0_13, v0_14, v0_15, v0_16, v0_17, v0_18, v0_19, v0_20, v0_21, v0_22, v0_23, v0_24, v0_25, v0_26, v0_27, v0_28, v0_29, v0_30, v0_31, v0_32, v0_33, v0_34, v0_35, v0_36, v0_37, v0_38, v0_39, v0_40, v0_41, v0_42, v0_43, v0_44, v0_45, v0_46, v0_47, v0_48, v0_49, v0_50, v0_51, v0_52, v0_53, v0_54, v0_55, v0_56, v0_57, v0_58, v0_59, v0_60, v0_61, v0_62, v0_63])), (a1, .inl (cy 1, 1620, .inl g2))] H := hP
  have hD : va_D A [(a0, .inr (9, [.ref a1, v0_1, .int 0, v0_3, v0_4, v0_5, v0_6, v0_7, v0_8, v0_9, v0_10, v0_11, v0_12, v0_13, v0_14, v0_15, v0_16, v0_17, v0_18, v0_19, v0_20, v0_21, v0_22, v0_23, v0_24, v0_25, v0_26, v0_27, v0_28, v0_29, v0_30, v0_31, v0_32, v0_33, v0_34, v0_35, v0_36, v0_37, v0_38, v0_39, v0_40, v0_41, v0_42, v0_43, v0_44, v0_45, v0_46, v0_47, v0_48, v0_49, v0_50, v0_51, v0_52, v0_53, v0_54, v0_55, v0_56, v0_57, v0_58, v0_59, v0_60, v0_61, v0_62, v0_63])), (a1, .inl (cy 1, 1620, .inl g2))] := hD
  refine lv_iinc (v := 2) (lv' := [(6, .int 2), (7, .int p1), (0, .ref a0), (1, .int p1), (2, .int p2), (3, .int p3), (4, .int p4), (5, .int p5)]) hx hb dX9_feed_99 hl (k := 1) rfl (by decide) (by decide) rfl (fun ls hl => ?_)
  refine lv_goto (tgt := 18) hx hb dX9_feed_102 (by decide) ?_
  refine lv_iload hx hb dX9_feed_18 (lv_at hl 0 rfl) ?_
  refine lv_bipush (v := 20) hx hb dX9_feed_20 (by decide) ?_
  refine lv_icmp_ge (tgt := 105) hx hb dX9_feed_22 (by decide) (fun c => absurd c (by decide)) (fun _ => ?_)
  refine lv_iload hx hb dX9_feed_25 (lv_at hl 0 rfl) ?_
  refine lv_iconst (v := 4) hx hb dX9_feed_27 (by decide) ?_
  refine lv_icmp_ge (tgt := 35) hx hb dX9_feed_28 (by decide) (fun c => absurd c (by decide)) (fun _ => ?_)
  refine lv_iload_n hx hb dX9_feed_31 rfl (lv_at hl 3 rfl) ?_
  refine lv_goto (tgt := 71) hx hb dX9_feed_32 (by decide) ?_
  refine lv_istore (lv' := [(7, .int p1), (6, .int 2), (0, .ref a0), (1, .int p1), (2, .int p2), (3, .int p3), (4, .int p4), (5, .int p5)]) hx hb dX9_feed_71 hl (by decide) rfl (fun ls hl => ?_)
  refine lv_aload_n hx hb dX9_feed_73 rfl (lv_at hl 2 rfl) ?_
  refine va_get (D := D) (cl := vwCl) (ci := 9) (v := .ref a1) (C := RX9) (T := TX9) (N := 64) hx hb hts in_X9_feed_X9 hown hK hP 0 rfl rfl 0 (by decide) (hts (.fieldLink RX9 7 "EightReasonsModel" "tape" "[B") (List.mem_of_getElem? (i := 2) (by decide +kernel))) (fun _ h9 => h9) rfl dX9_feed_74 ?_
  refine lv_aload_n hx hb dX9_feed_77 rfl (lv_at hl 2 rfl) ?_
  refine va_get (D := D) (cl := vwCl) (ci := 9) (v := .int 0) (C := RX9) (T := TX9) (N := 64) hx hb hts in_X9_feed_X9 hown hK hP 0 rfl rfl 2 (by decide) (hts (.fieldLink RX9 236 "EightReasonsModel" "taped" "I") (List.mem_of_getElem? (i := 1) (by decide +kernel))) (fun _ h9 => h9) rfl dX9_feed_78 ?_
  refine lv_iload hx hb dX9_feed_81 (lv_at hl 1 rfl) ?_
  refine lv_iadd hx hb dX9_feed_83 (tpi (v := 2) (by decide) ?_)
  refine lv_iload hx hb dX9_feed_84 (lv_at hl 0 rfl) ?_
  refine lv_bipush (v := 24) hx hb dX9_feed_86 (by decide) ?_
  refine lv_bipush (v := 8) hx hb dX9_feed_88 (by decide) ?_
  refine lv_iload hx hb dX9_feed_90 (lv_at hl 1 rfl) ?_
  refine lv_iconst (v := 3) hx hb dX9_feed_92 (by decide) ?_
  refine lv_iand hx hb dX9_feed_93 (tpi (v := 2) (by decide) ?_)
  refine lv_imul hx hb dX9_feed_94 (tpi (v := 16) (by decide) ?_)
  refine lv_isub hx hb dX9_feed_95 (tpi (v := 8) (by decide) ?_)
  refine lv_ishr hx hb dX9_feed_96 ?_
  refine lv_i2b hx hb dX9_feed_97 rfl ?_
  refine va_bast hx hb hK hP hD hS 1 1 rfl rfl (vin (by decide)) dX9_feed_98 (fun H locs hP hD hS => ?_)
  generalize hhg3 : upd g2 (Int32.toNatClampNeg 2) (vp_nar .byte (p1 >>> (8 &&& 31)).toInt8.toInt32) = g3 at hP hD
  have hP : va_P D vwCl [(a0, .inr (9, [.ref a1, v0_1, .int 0, v0_3, v0_4, v0_5, v0_6, v0_7, v0_8, v0_9, v0_10, v0_11, v0_12, v0_13, v0_14, v0_15, v0_16, v0_17, v0_18, v0_19, v0_20, v0_21, v0_22, v0_23, v0_24, v0_25, v0_26, v0_27, v0_28, v0_29, v0_30, v0_31, v0_32, v0_33, v0_34, v0_35, v0_36, v0_37, v0_38, v0_39, v0_40, v0_41, v0_42, v0_43, v0_44, v0_45, v0_46, v0_47, v0_48, v0_49, v0_50, v0_51, v0_52, v0_53, v0_54, v0_55, v0_56, v0_57, v0_58, v0_59, v0_60, v0_61, v0_62, v0_63])), (a1, .inl (cy 1, 1620, .inl g3))] H := hP
  have hD : va_D A [(a0, .inr (9, [.ref a1, v0_1, .int 0, v0_3, v0_4, v0_5, v0_6, v0_7, v0_8, v0_9, v0_10, v0_11, v0_12, v0_13, v0_14, v0_15, v0_16, v0_17, v0_18, v0_19, v0_20, v0_21, v0_22, v0_23, v0_24, v0_25, v0_26, v0_27, v0_28, v0_29, v0_30, v0_31, v0_32, v0_33, v0_34, v0_35, v0_36, v0_37, v0_38, v0_39, v0_40, v0_41, v0_42, v0_43, v0_44, v0_45, v0_46, v0_47, v0_48, v0_49, v0_50, v0_51, v0_52, v0_53, v0_54, v0_55, v0_56, v0_57, v0_58, v0_59, v0_60, v0_61, v0_62, v0_63])), (a1, .inl (cy 1, 1620, .inl g3))] := hD
  refine lv_iinc (v := 3) (lv' := [(6, .int 3), (7, .int p1), (0, .ref a0), (1, .int p1), (2, .int p2), (3, .int p3), (4, .int p4), (5, .int p5)]) hx hb dX9_feed_99 hl (k := 1) rfl (by decide) (by decide) rfl (fun ls hl => ?_)
  refine lv_goto (tgt := 18) hx hb dX9_feed_102 (by decide) ?_
  refine lv_iload hx hb dX9_feed_18 (lv_at hl 0 rfl) ?_
  refine lv_bipush (v := 20) hx hb dX9_feed_20 (by decide) ?_
  refine lv_icmp_ge (tgt := 105) hx hb dX9_feed_22 (by decide) (fun c => absurd c (by decide)) (fun _ => ?_)
  refine lv_iload hx hb dX9_feed_25 (lv_at hl 0 rfl) ?_
  refine lv_iconst (v := 4) hx hb dX9_feed_27 (by decide) ?_
  refine lv_icmp_ge (tgt := 35) hx hb dX9_feed_28 (by decide) (fun c => absurd c (by decide)) (fun _ => ?_)
  refine lv_iload_n hx hb dX9_feed_31 rfl (lv_at hl 3 rfl) ?_
  refine lv_goto (tgt := 71) hx hb dX9_feed_32 (by decide) ?_
  refine lv_istore (lv' := [(7, .int p1), (6, .int 3), (0, .ref a0), (1, .int p1), (2, .int p2), (3, .int p3), (4, .int p4), (5, .int p5)]) hx hb dX9_feed_71 hl (by decide) rfl (fun ls hl => ?_)
  refine lv_aload_n hx hb dX9_feed_73 rfl (lv_at hl 2 rfl) ?_
  refine va_get (D := D) (cl := vwCl) (ci := 9) (v := .ref a1) (C := RX9) (T := TX9) (N := 64) hx hb hts in_X9_feed_X9 hown hK hP 0 rfl rfl 0 (by decide) (hts (.fieldLink RX9 7 "EightReasonsModel" "tape" "[B") (List.mem_of_getElem? (i := 2) (by decide +kernel))) (fun _ h9 => h9) rfl dX9_feed_74 ?_
  refine lv_aload_n hx hb dX9_feed_77 rfl (lv_at hl 2 rfl) ?_
  refine va_get (D := D) (cl := vwCl) (ci := 9) (v := .int 0) (C := RX9) (T := TX9) (N := 64) hx hb hts in_X9_feed_X9 hown hK hP 0 rfl rfl 2 (by decide) (hts (.fieldLink RX9 236 "EightReasonsModel" "taped" "I") (List.mem_of_getElem? (i := 1) (by decide +kernel))) (fun _ h9 => h9) rfl dX9_feed_78 ?_
  refine lv_iload hx hb dX9_feed_81 (lv_at hl 1 rfl) ?_
  refine lv_iadd hx hb dX9_feed_83 (tpi (v := 3) (by decide) ?_)
  refine lv_iload hx hb dX9_feed_84 (lv_at hl 0 rfl) ?_
  refine lv_bipush (v := 24) hx hb dX9_feed_86 (by decide) ?_
  refine lv_bipush (v := 8) hx hb dX9_feed_88 (by decide) ?_
  refine lv_iload hx hb dX9_feed_90 (lv_at hl 1 rfl) ?_
  refine lv_iconst (v := 3) hx hb dX9_feed_92 (by decide) ?_
  refine lv_iand hx hb dX9_feed_93 (tpi (v := 3) (by decide) ?_)
  refine lv_imul hx hb dX9_feed_94 (tpi (v := 24) (by decide) ?_)
  refine lv_isub hx hb dX9_feed_95 (tpi (v := 0) (by decide) ?_)
  refine lv_ishr hx hb dX9_feed_96 ?_
  refine lv_i2b hx hb dX9_feed_97 rfl ?_
  refine va_bast hx hb hK hP hD hS 1 1 rfl rfl (vin (by decide)) dX9_feed_98 (fun H locs hP hD hS => ?_)
  generalize hhg4 : upd g3 (Int32.toNatClampNeg 3) (vp_nar .byte (p1 >>> (0 &&& 31)).toInt8.toInt32) = g4 at hP hD
  have hP : va_P D vwCl [(a0, .inr (9, [.ref a1, v0_1, .int 0, v0_3, v0_4, v0_5, v0_6, v0_7, v0_8, v0_9, v0_10, v0_11, v0_12, v0_13, v0_14, v0_15, v0_16, v0_17, v0_18, v0_19, v0_20, v0_21, v0_22, v0_23, v0_24, v0_25, v0_26, v0_27, v0_28, v0_29, v0_30, v0_31, v0_32, v0_33, v0_34, v0_35, v0_36, v0_37, v0_38, v0_39, v0_40, v0_41, v0_42, v0_43, v0_44, v0_45, v0_46, v0_47, v0_48, v0_49, v0_50, v0_51, v0_52, v0_53, v0_54, v0_55, v0_56, v0_57, v0_58, v0_59, v0_60, v0_61, v0_62, v0_63])), (a1, .inl (cy 1, 1620, .inl g4))] H := hP
  have hD : va_D A [(a0, .inr (9, [.ref a1, v0_1, .int 0, v0_3, v0_4, v0_5, v0_6, v0_7, v0_8, v0_9, v0_10, v0_11, v0_12, v0_13, v0_14, v0_15, v0_16, v0_17, v0_18, v0_19, v0_20, v0_21, v0_22, v0_23, v0_24, v0_25, v0_26, v0_27, v0_28, v0_29, v0_30, v0_31, v0_32, v0_33, v0_34, v0_35, v0_36, v0_37, v0_38, v0_39, v0_40, v0_41, v0_42, v0_43, v0_44, v0_45, v0_46, v0_47, v0_48, v0_49, v0_50, v0_51, v0_52, v0_53, v0_54, v0_55, v0_56, v0_57, v0_58, v0_59, v0_60, v0_61, v0_62, v0_63])), (a1, .inl (cy 1, 1620, .inl g4))] := hD
  refine lv_iinc (v := 4) (lv' := [(6, .int 4), (7, .int p1), (0, .ref a0), (1, .int p1), (2, .int p2), (3, .int p3), (4, .int p4), (5, .int p5)]) hx hb dX9_feed_99 hl (k := 1) rfl (by decide) (by decide) rfl (fun ls hl => ?_)
  refine lv_goto (tgt := 18) hx hb dX9_feed_102 (by decide) ?_
  refine lv_iload hx hb dX9_feed_18 (lv_at hl 0 rfl) ?_
  refine lv_bipush (v := 20) hx hb dX9_feed_20 (by decide) ?_
  refine lv_icmp_ge (tgt := 105) hx hb dX9_feed_22 (by decide) (fun c => absurd c (by decide)) (fun _ => ?_)
  refine lv_iload hx hb dX9_feed_25 (lv_at hl 0 rfl) ?_
  refine lv_iconst (v := 4) hx hb dX9_feed_27 (by decide) ?_
  refine lv_icmp_ge (tgt := 35) hx hb dX9_feed_28 (by decide) (fun _ => ?_) (fun c => absurd (by decide) c)
  refine lv_iload hx hb dX9_feed_35 (lv_at hl 0 rfl) ?_
  refine lv_bipush (v := 8) hx hb dX9_feed_37 (by decide) ?_
  refine lv_icmp_ge (tgt := 46) hx hb dX9_feed_39 (by decide) (fun c => absurd c (by decide)) (fun _ => ?_)
  refine lv_iload_n hx hb dX9_feed_42 rfl (lv_at hl 4 rfl) ?_
  refine lv_goto (tgt := 71) hx hb dX9_feed_43 (by decide) ?_
  refine lv_istore (lv' := [(7, .int p2), (6, .int 4), (0, .ref a0), (1, .int p1), (2, .int p2), (3, .int p3), (4, .int p4), (5, .int p5)]) hx hb dX9_feed_71 hl (by decide) rfl (fun ls hl => ?_)
  refine lv_aload_n hx hb dX9_feed_73 rfl (lv_at hl 2 rfl) ?_
  refine va_get (D := D) (cl := vwCl) (ci := 9) (v := .ref a1) (C := RX9) (T := TX9) (N := 64) hx hb hts in_X9_feed_X9 hown hK hP 0 rfl rfl 0 (by decide) (hts (.fieldLink RX9 7 "EightReasonsModel" "tape" "[B") (List.mem_of_getElem? (i := 2) (by decide +kernel))) (fun _ h9 => h9) rfl dX9_feed_74 ?_
  refine lv_aload_n hx hb dX9_feed_77 rfl (lv_at hl 2 rfl) ?_
  refine va_get (D := D) (cl := vwCl) (ci := 9) (v := .int 0) (C := RX9) (T := TX9) (N := 64) hx hb hts in_X9_feed_X9 hown hK hP 0 rfl rfl 2 (by decide) (hts (.fieldLink RX9 236 "EightReasonsModel" "taped" "I") (List.mem_of_getElem? (i := 1) (by decide +kernel))) (fun _ h9 => h9) rfl dX9_feed_78 ?_
  refine lv_iload hx hb dX9_feed_81 (lv_at hl 1 rfl) ?_
  refine lv_iadd hx hb dX9_feed_83 (tpi (v := 4) (by decide) ?_)
  refine lv_iload hx hb dX9_feed_84 (lv_at hl 0 rfl) ?_
  refine lv_bipush (v := 24) hx hb dX9_feed_86 (by decide) ?_
  refine lv_bipush (v := 8) hx hb dX9_feed_88 (by decide) ?_
  refine lv_iload hx hb dX9_feed_90 (lv_at hl 1 rfl) ?_
  refine lv_iconst (v := 3) hx hb dX9_feed_92 (by decide) ?_
  refine lv_iand hx hb dX9_feed_93 (tpi (v := 0) (by decide) ?_)
  refine lv_imul hx hb dX9_feed_94 (tpi (v := 0) (by decide) ?_)
  refine lv_isub hx hb dX9_feed_95 (tpi (v := 24) (by decide) ?_)
  refine lv_ishr hx hb dX9_feed_96 ?_
  refine lv_i2b hx hb dX9_feed_97 rfl ?_
  refine va_bast hx hb hK hP hD hS 1 1 rfl rfl (vin (by decide)) dX9_feed_98 (fun H locs hP hD hS => ?_)
  generalize hhg5 : upd g4 (Int32.toNatClampNeg 4) (vp_nar .byte (p2 >>> (24 &&& 31)).toInt8.toInt32) = g5 at hP hD
  have hP : va_P D vwCl [(a0, .inr (9, [.ref a1, v0_1, .int 0, v0_3, v0_4, v0_5, v0_6, v0_7, v0_8, v0_9, v0_10, v0_11, v0_12, v0_13, v0_14, v0_15, v0_16, v0_17, v0_18, v0_19, v0_20, v0_21, v0_22, v0_23, v0_24, v0_25, v0_26, v0_27, v0_28, v0_29, v0_30, v0_31, v0_32, v0_33, v0_34, v0_35, v0_36, v0_37, v0_38, v0_39, v0_40, v0_41, v0_42, v0_43, v0_44, v0_45, v0_46, v0_47, v0_48, v0_49, v0_50, v0_51, v0_52, v0_53, v0_54, v0_55, v0_56, v0_57, v0_58, v0_59, v0_60, v0_61, v0_62, v0_63])), (a1, .inl (cy 1, 1620, .inl g5))] H := hP
  have hD : va_D A [(a0, .inr (9, [.ref a1, v0_1, .int 0, v0_3, v0_4, v0_5, v0_6, v0_7, v0_8, v0_9, v0_10, v0_11, v0_12, v0_13, v0_14, v0_15, v0_16, v0_17, v0_18, v0_19, v0_20, v0_21, v0_22, v0_23, v0_24, v0_25, v0_26, v0_27, v0_28, v0_29, v0_30, v0_31, v0_32, v0_33, v0_34, v0_35, v0_36, v0_37, v0_38, v0_39, v0_40, v0_41, v0_42, v0_43, v0_44, v0_45, v0_46, v0_47, v0_48, v0_49, v0_50, v0_51, v0_52, v0_53, v0_54, v0_55, v0_56, v0_57, v0_58, v0_59, v0_60, v0_61, v0_62, v0_63])), (a1, .inl (cy 1, 1620, .inl g5))] := hD
  refine lv_iinc (v := 5) (lv' := [(6, .int 5), (7, .int p2), (0, .ref a0), (1, .int p1), (2, .int p2), (3, .int p3), (4, .int p4), (5, .int p5)]) hx hb dX9_feed_99 hl (k := 1) rfl (by decide) (by decide) rfl (fun ls hl => ?_)
  refine lv_goto (tgt := 18) hx hb dX9_feed_102 (by decide) ?_
  refine lv_iload hx hb dX9_feed_18 (lv_at hl 0 rfl) ?_
  refine lv_bipush (v := 20) hx hb dX9_feed_20 (by decide) ?_
  refine lv_icmp_ge (tgt := 105) hx hb dX9_feed_22 (by decide) (fun c => absurd c (by decide)) (fun _ => ?_)
  refine lv_iload hx hb dX9_feed_25 (lv_at hl 0 rfl) ?_
  refine lv_iconst (v := 4) hx hb dX9_feed_27 (by decide) ?_
  refine lv_icmp_ge (tgt := 35) hx hb dX9_feed_28 (by decide) (fun _ => ?_) (fun c => absurd (by decide) c)
  refine lv_iload hx hb dX9_feed_35 (lv_at hl 0 rfl) ?_
  refine lv_bipush (v := 8) hx hb dX9_feed_37 (by decide) ?_
  refine lv_icmp_ge (tgt := 46) hx hb dX9_feed_39 (by decide) (fun c => absurd c (by decide)) (fun _ => ?_)
  refine lv_iload_n hx hb dX9_feed_42 rfl (lv_at hl 4 rfl) ?_
  refine lv_goto (tgt := 71) hx hb dX9_feed_43 (by decide) ?_
  refine lv_istore (lv' := [(7, .int p2), (6, .int 5), (0, .ref a0), (1, .int p1), (2, .int p2), (3, .int p3), (4, .int p4), (5, .int p5)]) hx hb dX9_feed_71 hl (by decide) rfl (fun ls hl => ?_)
  refine lv_aload_n hx hb dX9_feed_73 rfl (lv_at hl 2 rfl) ?_
  refine va_get (D := D) (cl := vwCl) (ci := 9) (v := .ref a1) (C := RX9) (T := TX9) (N := 64) hx hb hts in_X9_feed_X9 hown hK hP 0 rfl rfl 0 (by decide) (hts (.fieldLink RX9 7 "EightReasonsModel" "tape" "[B") (List.mem_of_getElem? (i := 2) (by decide +kernel))) (fun _ h9 => h9) rfl dX9_feed_74 ?_
  refine lv_aload_n hx hb dX9_feed_77 rfl (lv_at hl 2 rfl) ?_
  refine va_get (D := D) (cl := vwCl) (ci := 9) (v := .int 0) (C := RX9) (T := TX9) (N := 64) hx hb hts in_X9_feed_X9 hown hK hP 0 rfl rfl 2 (by decide) (hts (.fieldLink RX9 236 "EightReasonsModel" "taped" "I") (List.mem_of_getElem? (i := 1) (by decide +kernel))) (fun _ h9 => h9) rfl dX9_feed_78 ?_
  refine lv_iload hx hb dX9_feed_81 (lv_at hl 1 rfl) ?_
  refine lv_iadd hx hb dX9_feed_83 (tpi (v := 5) (by decide) ?_)
  refine lv_iload hx hb dX9_feed_84 (lv_at hl 0 rfl) ?_
  refine lv_bipush (v := 24) hx hb dX9_feed_86 (by decide) ?_
  refine lv_bipush (v := 8) hx hb dX9_feed_88 (by decide) ?_
  refine lv_iload hx hb dX9_feed_90 (lv_at hl 1 rfl) ?_
  refine lv_iconst (v := 3) hx hb dX9_feed_92 (by decide) ?_
  refine lv_iand hx hb dX9_feed_93 (tpi (v := 1) (by decide) ?_)
  refine lv_imul hx hb dX9_feed_94 (tpi (v := 8) (by decide) ?_)
  refine lv_isub hx hb dX9_feed_95 (tpi (v := 16) (by decide) ?_)
  refine lv_ishr hx hb dX9_feed_96 ?_
  refine lv_i2b hx hb dX9_feed_97 rfl ?_
  refine va_bast hx hb hK hP hD hS 1 1 rfl rfl (vin (by decide)) dX9_feed_98 (fun H locs hP hD hS => ?_)
  generalize hhg6 : upd g5 (Int32.toNatClampNeg 5) (vp_nar .byte (p2 >>> (16 &&& 31)).toInt8.toInt32) = g6 at hP hD
  have hP : va_P D vwCl [(a0, .inr (9, [.ref a1, v0_1, .int 0, v0_3, v0_4, v0_5, v0_6, v0_7, v0_8, v0_9, v0_10, v0_11, v0_12, v0_13, v0_14, v0_15, v0_16, v0_17, v0_18, v0_19, v0_20, v0_21, v0_22, v0_23, v0_24, v0_25, v0_26, v0_27, v0_28, v0_29, v0_30, v0_31, v0_32, v0_33, v0_34, v0_35, v0_36, v0_37, v0_38, v0_39, v0_40, v0_41, v0_42, v0_43, v0_44, v0_45, v0_46, v0_47, v0_48, v0_49, v0_50, v0_51, v0_52, v0_53, v0_54, v0_55, v0_56, v0_57, v0_58, v0_59, v0_60, v0_61, v0_62, v0_63])), (a1, .inl (cy 1, 1620, .inl g6))] H := hP
  have hD : va_D A [(a0, .inr (9, [.ref a1, v0_1, .int 0, v0_3, v0_4, v0_5, v0_6, v0_7, v0_8, v0_9, v0_10, v0_11, v0_12, v0_13, v0_14, v0_15, v0_16, v0_17, v0_18, v0_19, v0_20, v0_21, v0_22, v0_23, v0_24, v0_25, v0_26, v0_27, v0_28, v0_29, v0_30, v0_31, v0_32, v0_33, v0_34, v0_35, v0_36, v0_37, v0_38, v0_39, v0_40, v0_41, v0_42, v0_43, v0_44, v0_45, v0_46, v0_47, v0_48, v0_49, v0_50, v0_51, v0_52, v0_53, v0_54, v0_55, v0_56, v0_57, v0_58, v0_59, v0_60, v0_61, v0_62, v0_63])), (a1, .inl (cy 1, 1620, .inl g6))] := hD
  refine lv_iinc (v := 6) (lv' := [(6, .int 6), (7, .int p2), (0, .ref a0), (1, .int p1), (2, .int p2), (3, .int p3), (4, .int p4), (5, .int p5)]) hx hb dX9_feed_99 hl (k := 1) rfl (by decide) (by decide) rfl (fun ls hl => ?_)
  refine lv_goto (tgt := 18) hx hb dX9_feed_102 (by decide) ?_
  refine lv_iload hx hb dX9_feed_18 (lv_at hl 0 rfl) ?_
  refine lv_bipush (v := 20) hx hb dX9_feed_20 (by decide) ?_
  refine lv_icmp_ge (tgt := 105) hx hb dX9_feed_22 (by decide) (fun c => absurd c (by decide)) (fun _ => ?_)
  refine lv_iload hx hb dX9_feed_25 (lv_at hl 0 rfl) ?_
  refine lv_iconst (v := 4) hx hb dX9_feed_27 (by decide) ?_
  refine lv_icmp_ge (tgt := 35) hx hb dX9_feed_28 (by decide) (fun _ => ?_) (fun c => absurd (by decide) c)
  refine lv_iload hx hb dX9_feed_35 (lv_at hl 0 rfl) ?_
  refine lv_bipush (v := 8) hx hb dX9_feed_37 (by decide) ?_
  refine lv_icmp_ge (tgt := 46) hx hb dX9_feed_39 (by decide) (fun c => absurd c (by decide)) (fun _ => ?_)
  refine lv_iload_n hx hb dX9_feed_42 rfl (lv_at hl 4 rfl) ?_
  refine lv_goto (tgt := 71) hx hb dX9_feed_43 (by decide) ?_
  refine lv_istore (lv' := [(7, .int p2), (6, .int 6), (0, .ref a0), (1, .int p1), (2, .int p2), (3, .int p3), (4, .int p4), (5, .int p5)]) hx hb dX9_feed_71 hl (by decide) rfl (fun ls hl => ?_)
  refine lv_aload_n hx hb dX9_feed_73 rfl (lv_at hl 2 rfl) ?_
  refine va_get (D := D) (cl := vwCl) (ci := 9) (v := .ref a1) (C := RX9) (T := TX9) (N := 64) hx hb hts in_X9_feed_X9 hown hK hP 0 rfl rfl 0 (by decide) (hts (.fieldLink RX9 7 "EightReasonsModel" "tape" "[B") (List.mem_of_getElem? (i := 2) (by decide +kernel))) (fun _ h9 => h9) rfl dX9_feed_74 ?_
  refine lv_aload_n hx hb dX9_feed_77 rfl (lv_at hl 2 rfl) ?_
  refine va_get (D := D) (cl := vwCl) (ci := 9) (v := .int 0) (C := RX9) (T := TX9) (N := 64) hx hb hts in_X9_feed_X9 hown hK hP 0 rfl rfl 2 (by decide) (hts (.fieldLink RX9 236 "EightReasonsModel" "taped" "I") (List.mem_of_getElem? (i := 1) (by decide +kernel))) (fun _ h9 => h9) rfl dX9_feed_78 ?_
  refine lv_iload hx hb dX9_feed_81 (lv_at hl 1 rfl) ?_
  refine lv_iadd hx hb dX9_feed_83 (tpi (v := 6) (by decide) ?_)
  refine lv_iload hx hb dX9_feed_84 (lv_at hl 0 rfl) ?_
  refine lv_bipush (v := 24) hx hb dX9_feed_86 (by decide) ?_
  refine lv_bipush (v := 8) hx hb dX9_feed_88 (by decide) ?_
  refine lv_iload hx hb dX9_feed_90 (lv_at hl 1 rfl) ?_
  refine lv_iconst (v := 3) hx hb dX9_feed_92 (by decide) ?_
  refine lv_iand hx hb dX9_feed_93 (tpi (v := 2) (by decide) ?_)
  refine lv_imul hx hb dX9_feed_94 (tpi (v := 16) (by decide) ?_)
  refine lv_isub hx hb dX9_feed_95 (tpi (v := 8) (by decide) ?_)
  refine lv_ishr hx hb dX9_feed_96 ?_
  refine lv_i2b hx hb dX9_feed_97 rfl ?_
  refine va_bast hx hb hK hP hD hS 1 1 rfl rfl (vin (by decide)) dX9_feed_98 (fun H locs hP hD hS => ?_)
  generalize hhg7 : upd g6 (Int32.toNatClampNeg 6) (vp_nar .byte (p2 >>> (8 &&& 31)).toInt8.toInt32) = g7 at hP hD
  have hP : va_P D vwCl [(a0, .inr (9, [.ref a1, v0_1, .int 0, v0_3, v0_4, v0_5, v0_6, v0_7, v0_8, v0_9, v0_10, v0_11, v0_12, v0_13, v0_14, v0_15, v0_16, v0_17, v0_18, v0_19, v0_20, v0_21, v0_22, v0_23, v0_24, v0_25, v0_26, v0_27, v0_28, v0_29, v0_30, v0_31, v0_32, v0_33, v0_34, v0_35, v0_36, v0_37, v0_38, v0_39, v0_40, v0_41, v0_42, v0_43, v0_44, v0_45, v0_46, v0_47, v0_48, v0_49, v0_50, v0_51, v0_52, v0_53, v0_54, v0_55, v0_56, v0_57, v0_58, v0_59, v0_60, v0_61, v0_62, v0_63])), (a1, .inl (cy 1, 1620, .inl g7))] H := hP
  have hD : va_D A [(a0, .inr (9, [.ref a1, v0_1, .int 0, v0_3, v0_4, v0_5, v0_6, v0_7, v0_8, v0_9, v0_10, v0_11, v0_12, v0_13, v0_14, v0_15, v0_16, v0_17, v0_18, v0_19, v0_20, v0_21, v0_22, v0_23, v0_24, v0_25, v0_26, v0_27, v0_28, v0_29, v0_30, v0_31, v0_32, v0_33, v0_34, v0_35, v0_36, v0_37, v0_38, v0_39, v0_40, v0_41, v0_42, v0_43, v0_44, v0_45, v0_46, v0_47, v0_48, v0_49, v0_50, v0_51, v0_52, v0_53, v0_54, v0_55, v0_56, v0_57, v0_58, v0_59, v0_60, v0_61, v0_62, v0_63])), (a1, .inl (cy 1, 1620, .inl g7))] := hD
  refine lv_iinc (v := 7) (lv' := [(6, .int 7), (7, .int p2), (0, .ref a0), (1, .int p1), (2, .int p2), (3, .int p3), (4, .int p4), (5, .int p5)]) hx hb dX9_feed_99 hl (k := 1) rfl (by decide) (by decide) rfl (fun ls hl => ?_)
  refine lv_goto (tgt := 18) hx hb dX9_feed_102 (by decide) ?_
  refine lv_iload hx hb dX9_feed_18 (lv_at hl 0 rfl) ?_
  refine lv_bipush (v := 20) hx hb dX9_feed_20 (by decide) ?_
  refine lv_icmp_ge (tgt := 105) hx hb dX9_feed_22 (by decide) (fun c => absurd c (by decide)) (fun _ => ?_)
  refine lv_iload hx hb dX9_feed_25 (lv_at hl 0 rfl) ?_
  refine lv_iconst (v := 4) hx hb dX9_feed_27 (by decide) ?_
  refine lv_icmp_ge (tgt := 35) hx hb dX9_feed_28 (by decide) (fun _ => ?_) (fun c => absurd (by decide) c)
  refine lv_iload hx hb dX9_feed_35 (lv_at hl 0 rfl) ?_
  refine lv_bipush (v := 8) hx hb dX9_feed_37 (by decide) ?_
  refine lv_icmp_ge (tgt := 46) hx hb dX9_feed_39 (by decide) (fun c => absurd c (by decide)) (fun _ => ?_)
  refine lv_iload_n hx hb dX9_feed_42 rfl (lv_at hl 4 rfl) ?_
  refine lv_goto (tgt := 71) hx hb dX9_feed_43 (by decide) ?_
  refine lv_istore (lv' := [(7, .int p2), (6, .int 7), (0, .ref a0), (1, .int p1), (2, .int p2), (3, .int p3), (4, .int p4), (5, .int p5)]) hx hb dX9_feed_71 hl (by decide) rfl (fun ls hl => ?_)
  refine lv_aload_n hx hb dX9_feed_73 rfl (lv_at hl 2 rfl) ?_
  refine va_get (D := D) (cl := vwCl) (ci := 9) (v := .ref a1) (C := RX9) (T := TX9) (N := 64) hx hb hts in_X9_feed_X9 hown hK hP 0 rfl rfl 0 (by decide) (hts (.fieldLink RX9 7 "EightReasonsModel" "tape" "[B") (List.mem_of_getElem? (i := 2) (by decide +kernel))) (fun _ h9 => h9) rfl dX9_feed_74 ?_
  refine lv_aload_n hx hb dX9_feed_77 rfl (lv_at hl 2 rfl) ?_
  refine va_get (D := D) (cl := vwCl) (ci := 9) (v := .int 0) (C := RX9) (T := TX9) (N := 64) hx hb hts in_X9_feed_X9 hown hK hP 0 rfl rfl 2 (by decide) (hts (.fieldLink RX9 236 "EightReasonsModel" "taped" "I") (List.mem_of_getElem? (i := 1) (by decide +kernel))) (fun _ h9 => h9) rfl dX9_feed_78 ?_
  refine lv_iload hx hb dX9_feed_81 (lv_at hl 1 rfl) ?_
  refine lv_iadd hx hb dX9_feed_83 (tpi (v := 7) (by decide) ?_)
  refine lv_iload hx hb dX9_feed_84 (lv_at hl 0 rfl) ?_
  refine lv_bipush (v := 24) hx hb dX9_feed_86 (by decide) ?_
  refine lv_bipush (v := 8) hx hb dX9_feed_88 (by decide) ?_
  refine lv_iload hx hb dX9_feed_90 (lv_at hl 1 rfl) ?_
  refine lv_iconst (v := 3) hx hb dX9_feed_92 (by decide) ?_
  refine lv_iand hx hb dX9_feed_93 (tpi (v := 3) (by decide) ?_)
  refine lv_imul hx hb dX9_feed_94 (tpi (v := 24) (by decide) ?_)
  refine lv_isub hx hb dX9_feed_95 (tpi (v := 0) (by decide) ?_)
  refine lv_ishr hx hb dX9_feed_96 ?_
  refine lv_i2b hx hb dX9_feed_97 rfl ?_
  refine va_bast hx hb hK hP hD hS 1 1 rfl rfl (vin (by decide)) dX9_feed_98 (fun H locs hP hD hS => ?_)
  generalize hhg8 : upd g7 (Int32.toNatClampNeg 7) (vp_nar .byte (p2 >>> (0 &&& 31)).toInt8.toInt32) = g8 at hP hD
  have hP : va_P D vwCl [(a0, .inr (9, [.ref a1, v0_1, .int 0, v0_3, v0_4, v0_5, v0_6, v0_7, v0_8, v0_9, v0_10, v0_11, v0_12, v0_13, v0_14, v0_15, v0_16, v0_17, v0_18, v0_19, v0_20, v0_21, v0_22, v0_23, v0_24, v0_25, v0_26, v0_27, v0_28, v0_29, v0_30, v0_31, v0_32, v0_33, v0_34, v0_35, v0_36, v0_37, v0_38, v0_39, v0_40, v0_41, v0_42, v0_43, v0_44, v0_45, v0_46, v0_47, v0_48, v0_49, v0_50, v0_51, v0_52, v0_53, v0_54, v0_55, v0_56, v0_57, v0_58, v0_59, v0_60, v0_61, v0_62, v0_63])), (a1, .inl (cy 1, 1620, .inl g8))] H := hP
  have hD : va_D A [(a0, .inr (9, [.ref a1, v0_1, .int 0, v0_3, v0_4, v0_5, v0_6, v0_7, v0_8, v0_9, v0_10, v0_11, v0_12, v0_13, v0_14, v0_15, v0_16, v0_17, v0_18, v0_19, v0_20, v0_21, v0_22, v0_23, v0_24, v0_25, v0_26, v0_27, v0_28, v0_29, v0_30, v0_31, v0_32, v0_33, v0_34, v0_35, v0_36, v0_37, v0_38, v0_39, v0_40, v0_41, v0_42, v0_43, v0_44, v0_45, v0_46, v0_47, v0_48, v0_49, v0_50, v0_51, v0_52, v0_53, v0_54, v0_55, v0_56, v0_57, v0_58, v0_59, v0_60, v0_61, v0_62, v0_63])), (a1, .inl (cy 1, 1620, .inl g8))] := hD
  refine lv_iinc (v := 8) (lv' := [(6, .int 8), (7, .int p2), (0, .ref a0), (1, .int p1), (2, .int p2), (3, .int p3), (4, .int p4), (5, .int p5)]) hx hb dX9_feed_99 hl (k := 1) rfl (by decide) (by decide) rfl (fun ls hl => ?_)
  refine lv_goto (tgt := 18) hx hb dX9_feed_102 (by decide) ?_
  refine lv_iload hx hb dX9_feed_18 (lv_at hl 0 rfl) ?_
  refine lv_bipush (v := 20) hx hb dX9_feed_20 (by decide) ?_
  refine lv_icmp_ge (tgt := 105) hx hb dX9_feed_22 (by decide) (fun c => absurd c (by decide)) (fun _ => ?_)
  refine lv_iload hx hb dX9_feed_25 (lv_at hl 0 rfl) ?_
  refine lv_iconst (v := 4) hx hb dX9_feed_27 (by decide) ?_
  refine lv_icmp_ge (tgt := 35) hx hb dX9_feed_28 (by decide) (fun _ => ?_) (fun c => absurd (by decide) c)
  refine lv_iload hx hb dX9_feed_35 (lv_at hl 0 rfl) ?_
  refine lv_bipush (v := 8) hx hb dX9_feed_37 (by decide) ?_
  refine lv_icmp_ge (tgt := 46) hx hb dX9_feed_39 (by decide) (fun _ => ?_) (fun c => absurd (by decide) c)
  refine lv_iload hx hb dX9_feed_46 (lv_at hl 0 rfl) ?_
  refine lv_bipush (v := 12) hx hb dX9_feed_48 (by decide) ?_
  refine lv_icmp_ge (tgt := 57) hx hb dX9_feed_50 (by decide) (fun c => absurd c (by decide)) (fun _ => ?_)
  refine lv_iload_n hx hb dX9_feed_53 rfl (lv_at hl 5 rfl) ?_
  refine lv_goto (tgt := 71) hx hb dX9_feed_54 (by decide) ?_
  refine lv_istore (lv' := [(7, .int p3), (6, .int 8), (0, .ref a0), (1, .int p1), (2, .int p2), (3, .int p3), (4, .int p4), (5, .int p5)]) hx hb dX9_feed_71 hl (by decide) rfl (fun ls hl => ?_)
  refine lv_aload_n hx hb dX9_feed_73 rfl (lv_at hl 2 rfl) ?_
  refine va_get (D := D) (cl := vwCl) (ci := 9) (v := .ref a1) (C := RX9) (T := TX9) (N := 64) hx hb hts in_X9_feed_X9 hown hK hP 0 rfl rfl 0 (by decide) (hts (.fieldLink RX9 7 "EightReasonsModel" "tape" "[B") (List.mem_of_getElem? (i := 2) (by decide +kernel))) (fun _ h9 => h9) rfl dX9_feed_74 ?_
  refine lv_aload_n hx hb dX9_feed_77 rfl (lv_at hl 2 rfl) ?_
  refine va_get (D := D) (cl := vwCl) (ci := 9) (v := .int 0) (C := RX9) (T := TX9) (N := 64) hx hb hts in_X9_feed_X9 hown hK hP 0 rfl rfl 2 (by decide) (hts (.fieldLink RX9 236 "EightReasonsModel" "taped" "I") (List.mem_of_getElem? (i := 1) (by decide +kernel))) (fun _ h9 => h9) rfl dX9_feed_78 ?_
  refine lv_iload hx hb dX9_feed_81 (lv_at hl 1 rfl) ?_
  refine lv_iadd hx hb dX9_feed_83 (tpi (v := 8) (by decide) ?_)
  refine lv_iload hx hb dX9_feed_84 (lv_at hl 0 rfl) ?_
  refine lv_bipush (v := 24) hx hb dX9_feed_86 (by decide) ?_
  refine lv_bipush (v := 8) hx hb dX9_feed_88 (by decide) ?_
  refine lv_iload hx hb dX9_feed_90 (lv_at hl 1 rfl) ?_
  refine lv_iconst (v := 3) hx hb dX9_feed_92 (by decide) ?_
  refine lv_iand hx hb dX9_feed_93 (tpi (v := 0) (by decide) ?_)
  refine lv_imul hx hb dX9_feed_94 (tpi (v := 0) (by decide) ?_)
  refine lv_isub hx hb dX9_feed_95 (tpi (v := 24) (by decide) ?_)
  refine lv_ishr hx hb dX9_feed_96 ?_
  refine lv_i2b hx hb dX9_feed_97 rfl ?_
  refine va_bast hx hb hK hP hD hS 1 1 rfl rfl (vin (by decide)) dX9_feed_98 (fun H locs hP hD hS => ?_)
  generalize hhg9 : upd g8 (Int32.toNatClampNeg 8) (vp_nar .byte (p3 >>> (24 &&& 31)).toInt8.toInt32) = g9 at hP hD
  have hP : va_P D vwCl [(a0, .inr (9, [.ref a1, v0_1, .int 0, v0_3, v0_4, v0_5, v0_6, v0_7, v0_8, v0_9, v0_10, v0_11, v0_12, v0_13, v0_14, v0_15, v0_16, v0_17, v0_18, v0_19, v0_20, v0_21, v0_22, v0_23, v0_24, v0_25, v0_26, v0_27, v0_28, v0_29, v0_30, v0_31, v0_32, v0_33, v0_34, v0_35, v0_36, v0_37, v0_38, v0_39, v0_40, v0_41, v0_42, v0_43, v0_44, v0_45, v0_46, v0_47, v0_48, v0_49, v0_50, v0_51, v0_52, v0_53, v0_54, v0_55, v0_56, v0_57, v0_58, v0_59, v0_60, v0_61, v0_62, v0_63])), (a1, .inl (cy 1, 1620, .inl g9))] H := hP
  have hD : va_D A [(a0, .inr (9, [.ref a1, v0_1, .int 0, v0_3, v0_4, v0_5, v0_6, v0_7, v0_8, v0_9, v0_10, v0_11, v0_12, v0_13, v0_14, v0_15, v0_16, v0_17, v0_18, v0_19, v0_20, v0_21, v0_22, v0_23, v0_24, v0_25, v0_26, v0_27, v0_28, v0_29, v0_30, v0_31, v0_32, v0_33, v0_34, v0_35, v0_36, v0_37, v0_38, v0_39, v0_40, v0_41, v0_42, v0_43, v0_44, v0_45, v0_46, v0_47, v0_48, v0_49, v0_50, v0_51, v0_52, v0_53, v0_54, v0_55, v0_56, v0_57, v0_58, v0_59, v0_60, v0_61, v0_62, v0_63])), (a1, .inl (cy 1, 1620, .inl g9))] := hD
  refine lv_iinc (v := 9) (lv' := [(6, .int 9), (7, .int p3), (0, .ref a0), (1, .int p1), (2, .int p2), (3, .int p3), (4, .int p4), (5, .int p5)]) hx hb dX9_feed_99 hl (k := 1) rfl (by decide) (by decide) rfl (fun ls hl => ?_)
  refine lv_goto (tgt := 18) hx hb dX9_feed_102 (by decide) ?_
  refine lv_iload hx hb dX9_feed_18 (lv_at hl 0 rfl) ?_
  refine lv_bipush (v := 20) hx hb dX9_feed_20 (by decide) ?_
  refine lv_icmp_ge (tgt := 105) hx hb dX9_feed_22 (by decide) (fun c => absurd c (by decide)) (fun _ => ?_)
  refine lv_iload hx hb dX9_feed_25 (lv_at hl 0 rfl) ?_
  refine lv_iconst (v := 4) hx hb dX9_feed_27 (by decide) ?_
  refine lv_icmp_ge (tgt := 35) hx hb dX9_feed_28 (by decide) (fun _ => ?_) (fun c => absurd (by decide) c)
  refine lv_iload hx hb dX9_feed_35 (lv_at hl 0 rfl) ?_
  refine lv_bipush (v := 8) hx hb dX9_feed_37 (by decide) ?_
  refine lv_icmp_ge (tgt := 46) hx hb dX9_feed_39 (by decide) (fun _ => ?_) (fun c => absurd (by decide) c)
  refine lv_iload hx hb dX9_feed_46 (lv_at hl 0 rfl) ?_
  refine lv_bipush (v := 12) hx hb dX9_feed_48 (by decide) ?_
  refine lv_icmp_ge (tgt := 57) hx hb dX9_feed_50 (by decide) (fun c => absurd c (by decide)) (fun _ => ?_)
  refine lv_iload_n hx hb dX9_feed_53 rfl (lv_at hl 5 rfl) ?_
  refine lv_goto (tgt := 71) hx hb dX9_feed_54 (by decide) ?_
  refine lv_istore (lv' := [(7, .int p3), (6, .int 9), (0, .ref a0), (1, .int p1), (2, .int p2), (3, .int p3), (4, .int p4), (5, .int p5)]) hx hb dX9_feed_71 hl (by decide) rfl (fun ls hl => ?_)
  refine lv_aload_n hx hb dX9_feed_73 rfl (lv_at hl 2 rfl) ?_
  refine va_get (D := D) (cl := vwCl) (ci := 9) (v := .ref a1) (C := RX9) (T := TX9) (N := 64) hx hb hts in_X9_feed_X9 hown hK hP 0 rfl rfl 0 (by decide) (hts (.fieldLink RX9 7 "EightReasonsModel" "tape" "[B") (List.mem_of_getElem? (i := 2) (by decide +kernel))) (fun _ h9 => h9) rfl dX9_feed_74 ?_
  refine lv_aload_n hx hb dX9_feed_77 rfl (lv_at hl 2 rfl) ?_
  refine va_get (D := D) (cl := vwCl) (ci := 9) (v := .int 0) (C := RX9) (T := TX9) (N := 64) hx hb hts in_X9_feed_X9 hown hK hP 0 rfl rfl 2 (by decide) (hts (.fieldLink RX9 236 "EightReasonsModel" "taped" "I") (List.mem_of_getElem? (i := 1) (by decide +kernel))) (fun _ h9 => h9) rfl dX9_feed_78 ?_
  refine lv_iload hx hb dX9_feed_81 (lv_at hl 1 rfl) ?_
  refine lv_iadd hx hb dX9_feed_83 (tpi (v := 9) (by decide) ?_)
  refine lv_iload hx hb dX9_feed_84 (lv_at hl 0 rfl) ?_
  refine lv_bipush (v := 24) hx hb dX9_feed_86 (by decide) ?_
  refine lv_bipush (v := 8) hx hb dX9_feed_88 (by decide) ?_
  refine lv_iload hx hb dX9_feed_90 (lv_at hl 1 rfl) ?_
  refine lv_iconst (v := 3) hx hb dX9_feed_92 (by decide) ?_
  refine lv_iand hx hb dX9_feed_93 (tpi (v := 1) (by decide) ?_)
  refine lv_imul hx hb dX9_feed_94 (tpi (v := 8) (by decide) ?_)
  refine lv_isub hx hb dX9_feed_95 (tpi (v := 16) (by decide) ?_)
  refine lv_ishr hx hb dX9_feed_96 ?_
  refine lv_i2b hx hb dX9_feed_97 rfl ?_
  refine va_bast hx hb hK hP hD hS 1 1 rfl rfl (vin (by decide)) dX9_feed_98 (fun H locs hP hD hS => ?_)
  generalize hhg10 : upd g9 (Int32.toNatClampNeg 9) (vp_nar .byte (p3 >>> (16 &&& 31)).toInt8.toInt32) = g10 at hP hD
  have hP : va_P D vwCl [(a0, .inr (9, [.ref a1, v0_1, .int 0, v0_3, v0_4, v0_5, v0_6, v0_7, v0_8, v0_9, v0_10, v0_11, v0_12, v0_13, v0_14, v0_15, v0_16, v0_17, v0_18, v0_19, v0_20, v0_21, v0_22, v0_23, v0_24, v0_25, v0_26, v0_27, v0_28, v0_29, v0_30, v0_31, v0_32, v0_33, v0_34, v0_35, v0_36, v0_37, v0_38, v0_39, v0_40, v0_41, v0_42, v0_43, v0_44, v0_45, v0_46, v0_47, v0_48, v0_49, v0_50, v0_51, v0_52, v0_53, v0_54, v0_55, v0_56, v0_57, v0_58, v0_59, v0_60, v0_61, v0_62, v0_63])), (a1, .inl (cy 1, 1620, .inl g10))] H := hP
  have hD : va_D A [(a0, .inr (9, [.ref a1, v0_1, .int 0, v0_3, v0_4, v0_5, v0_6, v0_7, v0_8, v0_9, v0_10, v0_11, v0_12, v0_13, v0_14, v0_15, v0_16, v0_17, v0_18, v0_19, v0_20, v0_21, v0_22, v0_23, v0_24, v0_25, v0_26, v0_27, v0_28, v0_29, v0_30, v0_31, v0_32, v0_33, v0_34, v0_35, v0_36, v0_37, v0_38, v0_39, v0_40, v0_41, v0_42, v0_43, v0_44, v0_45, v0_46, v0_47, v0_48, v0_49, v0_50, v0_51, v0_52, v0_53, v0_54, v0_55, v0_56, v0_57, v0_58, v0_59, v0_60, v0_61, v0_62, v0_63])), (a1, .inl (cy 1, 1620, .inl g10))] := hD
  refine lv_iinc (v := 10) (lv' := [(6, .int 10), (7, .int p3), (0, .ref a0), (1, .int p1), (2, .int p2), (3, .int p3), (4, .int p4), (5, .int p5)]) hx hb dX9_feed_99 hl (k := 1) rfl (by decide) (by decide) rfl (fun ls hl => ?_)
  refine lv_goto (tgt := 18) hx hb dX9_feed_102 (by decide) ?_
  refine lv_iload hx hb dX9_feed_18 (lv_at hl 0 rfl) ?_
  refine lv_bipush (v := 20) hx hb dX9_feed_20 (by decide) ?_
  refine lv_icmp_ge (tgt := 105) hx hb dX9_feed_22 (by decide) (fun c => absurd c (by decide)) (fun _ => ?_)
  refine lv_iload hx hb dX9_feed_25 (lv_at hl 0 rfl) ?_
  refine lv_iconst (v := 4) hx hb dX9_feed_27 (by decide) ?_
  refine lv_icmp_ge (tgt := 35) hx hb dX9_feed_28 (by decide) (fun _ => ?_) (fun c => absurd (by decide) c)
  refine lv_iload hx hb dX9_feed_35 (lv_at hl 0 rfl) ?_
  refine lv_bipush (v := 8) hx hb dX9_feed_37 (by decide) ?_
  refine lv_icmp_ge (tgt := 46) hx hb dX9_feed_39 (by decide) (fun _ => ?_) (fun c => absurd (by decide) c)
  refine lv_iload hx hb dX9_feed_46 (lv_at hl 0 rfl) ?_
  refine lv_bipush (v := 12) hx hb dX9_feed_48 (by decide) ?_
  refine lv_icmp_ge (tgt := 57) hx hb dX9_feed_50 (by decide) (fun c => absurd c (by decide)) (fun _ => ?_)
  refine lv_iload_n hx hb dX9_feed_53 rfl (lv_at hl 5 rfl) ?_
  refine lv_goto (tgt := 71) hx hb dX9_feed_54 (by decide) ?_
  refine lv_istore (lv' := [(7, .int p3), (6, .int 10), (0, .ref a0), (1, .int p1), (2, .int p2), (3, .int p3), (4, .int p4), (5, .int p5)]) hx hb dX9_feed_71 hl (by decide) rfl (fun ls hl => ?_)
  refine lv_aload_n hx hb dX9_feed_73 rfl (lv_at hl 2 rfl) ?_
  refine va_get (D := D) (cl := vwCl) (ci := 9) (v := .ref a1) (C := RX9) (T := TX9) (N := 64) hx hb hts in_X9_feed_X9 hown hK hP 0 rfl rfl 0 (by decide) (hts (.fieldLink RX9 7 "EightReasonsModel" "tape" "[B") (List.mem_of_getElem? (i := 2) (by decide +kernel))) (fun _ h9 => h9) rfl dX9_feed_74 ?_
  refine lv_aload_n hx hb dX9_feed_77 rfl (lv_at hl 2 rfl) ?_
  refine va_get (D := D) (cl := vwCl) (ci := 9) (v := .int 0) (C := RX9) (T := TX9) (N := 64) hx hb hts in_X9_feed_X9 hown hK hP 0 rfl rfl 2 (by decide) (hts (.fieldLink RX9 236 "EightReasonsModel" "taped" "I") (List.mem_of_getElem? (i := 1) (by decide +kernel))) (fun _ h9 => h9) rfl dX9_feed_78 ?_
  refine lv_iload hx hb dX9_feed_81 (lv_at hl 1 rfl) ?_
  refine lv_iadd hx hb dX9_feed_83 (tpi (v := 10) (by decide) ?_)
  refine lv_iload hx hb dX9_feed_84 (lv_at hl 0 rfl) ?_
  refine lv_bipush (v := 24) hx hb dX9_feed_86 (by decide) ?_
  refine lv_bipush (v := 8) hx hb dX9_feed_88 (by decide) ?_
  refine lv_iload hx hb dX9_feed_90 (lv_at hl 1 rfl) ?_
  refine lv_iconst (v := 3) hx hb dX9_feed_92 (by decide) ?_
  refine lv_iand hx hb dX9_feed_93 (tpi (v := 2) (by decide) ?_)
  refine lv_imul hx hb dX9_feed_94 (tpi (v := 16) (by decide) ?_)
  refine lv_isub hx hb dX9_feed_95 (tpi (v := 8) (by decide) ?_)
  refine lv_ishr hx hb dX9_feed_96 ?_
  refine lv_i2b hx hb dX9_feed_97 rfl ?_
  refine va_bast hx hb hK hP hD hS 1 1 rfl rfl (vin (by decide)) dX9_feed_98 (fun H locs hP hD hS => ?_)
  generalize hhg11 : upd g10 (Int32.toNatClampNeg 10) (vp_nar .byte (p3 >>> (8 &&& 31)).toInt8.toInt32) = g11 at hP hD
  have hP : va_P D vwCl [(a0, .inr (9, [.ref a1, v0_1, .int 0, v0_3, v0_4, v0_5, v0_6, v0_7, v0_8, v0_9, v0_10, v0_11, v0_12, v0_13, v0_14, v0_15, v0_16, v0_17, v0_18, v0_19, v0_20, v0_21, v0_22, v0_23, v0_24, v0_25, v0_26, v0_27, v0_28, v0_29, v0_30, v0_31, v0_32, v0_33, v0_34, v0_35, v0_36, v0_37, v0_38, v0_39, v0_40, v0_41, v0_42, v0_43, v0_44, v0_45, v0_46, v0_47, v0_48, v0_49, v0_50, v0_51, v0_52, v0_53, v0_54, v0_55, v0_56, v0_57, v0_58, v0_59, v0_60, v0_61, v0_62, v0_63])), (a1, .inl (cy 1, 1620, .inl g11))] H := hP
  have hD : va_D A [(a0, .inr (9, [.ref a1, v0_1, .int 0, v0_3, v0_4, v0_5, v0_6, v0_7, v0_8, v0_9, v0_10, v0_11, v0_12, v0_13, v0_14, v0_15, v0_16, v0_17, v0_18, v0_19, v0_20, v0_21, v0_22, v0_23, v0_24, v0_25, v0_26, v0_27, v0_28, v0_29, v0_30, v0_31, v0_32, v0_33, v0_34, v0_35, v0_36, v0_37, v0_38, v0_39, v0_40, v0_41, v0_42, v0_43, v0_44, v0_45, v0_46, v0_47, v0_48, v0_49, v0_50, v0_51, v0_52, v0_53, v0_54, v0_55, v0_56, v0_57, v0_58, v0_59, v0_60, v0_61, v0_62, v0_63])), (a1, .inl (cy 1, 1620, .inl g11))] := hD
  refine lv_iinc (v := 11) (lv' := [(6, .int 11), (7, .int p3), (0, .ref a0), (1, .int p1), (2, .int p2), (3, .int p3), (4, .int p4), (5, .int p5)]) hx hb dX9_feed_99 hl (k := 1) rfl (by decide) (by decide) rfl (fun ls hl => ?_)
  refine lv_goto (tgt := 18) hx hb dX9_feed_102 (by decide) ?_
  refine lv_iload hx hb dX9_feed_18 (lv_at hl 0 rfl) ?_
  refine lv_bipush (v := 20) hx hb dX9_feed_20 (by decide) ?_
  refine lv_icmp_ge (tgt := 105) hx hb dX9_feed_22 (by decide) (fun c => absurd c (by decide)) (fun _ => ?_)
  refine lv_iload hx hb dX9_feed_25 (lv_at hl 0 rfl) ?_
  refine lv_iconst (v := 4) hx hb dX9_feed_27 (by decide) ?_
  refine lv_icmp_ge (tgt := 35) hx hb dX9_feed_28 (by decide) (fun _ => ?_) (fun c => absurd (by decide) c)
  refine lv_iload hx hb dX9_feed_35 (lv_at hl 0 rfl) ?_
  refine lv_bipush (v := 8) hx hb dX9_feed_37 (by decide) ?_
  refine lv_icmp_ge (tgt := 46) hx hb dX9_feed_39 (by decide) (fun _ => ?_) (fun c => absurd (by decide) c)
  refine lv_iload hx hb dX9_feed_46 (lv_at hl 0 rfl) ?_
  refine lv_bipush (v := 12) hx hb dX9_feed_48 (by decide) ?_
  refine lv_icmp_ge (tgt := 57) hx hb dX9_feed_50 (by decide) (fun c => absurd c (by decide)) (fun _ => ?_)
  refine lv_iload_n hx hb dX9_feed_53 rfl (lv_at hl 5 rfl) ?_
  refine lv_goto (tgt := 71) hx hb dX9_feed_54 (by decide) ?_
  refine lv_istore (lv' := [(7, .int p3), (6, .int 11), (0, .ref a0), (1, .int p1), (2, .int p2), (3, .int p3), (4, .int p4), (5, .int p5)]) hx hb dX9_feed_71 hl (by decide) rfl (fun ls hl => ?_)
  refine lv_aload_n hx hb dX9_feed_73 rfl (lv_at hl 2 rfl) ?_
  refine va_get (D := D) (cl := vwCl) (ci := 9) (v := .ref a1) (C := RX9) (T := TX9) (N := 64) hx hb hts in_X9_feed_X9 hown hK hP 0 rfl rfl 0 (by decide) (hts (.fieldLink RX9 7 "EightReasonsModel" "tape" "[B") (List.mem_of_getElem? (i := 2) (by decide +kernel))) (fun _ h9 => h9) rfl dX9_feed_74 ?_
  refine lv_aload_n hx hb dX9_feed_77 rfl (lv_at hl 2 rfl) ?_
  refine va_get (D := D) (cl := vwCl) (ci := 9) (v := .int 0) (C := RX9) (T := TX9) (N := 64) hx hb hts in_X9_feed_X9 hown hK hP 0 rfl rfl 2 (by decide) (hts (.fieldLink RX9 236 "EightReasonsModel" "taped" "I") (List.mem_of_getElem? (i := 1) (by decide +kernel))) (fun _ h9 => h9) rfl dX9_feed_78 ?_
  refine lv_iload hx hb dX9_feed_81 (lv_at hl 1 rfl) ?_
  refine lv_iadd hx hb dX9_feed_83 (tpi (v := 11) (by decide) ?_)
  refine lv_iload hx hb dX9_feed_84 (lv_at hl 0 rfl) ?_
  refine lv_bipush (v := 24) hx hb dX9_feed_86 (by decide) ?_
  refine lv_bipush (v := 8) hx hb dX9_feed_88 (by decide) ?_
  refine lv_iload hx hb dX9_feed_90 (lv_at hl 1 rfl) ?_
  refine lv_iconst (v := 3) hx hb dX9_feed_92 (by decide) ?_
  refine lv_iand hx hb dX9_feed_93 (tpi (v := 3) (by decide) ?_)
  refine lv_imul hx hb dX9_feed_94 (tpi (v := 24) (by decide) ?_)
  refine lv_isub hx hb dX9_feed_95 (tpi (v := 0) (by decide) ?_)
  refine lv_ishr hx hb dX9_feed_96 ?_
  refine lv_i2b hx hb dX9_feed_97 rfl ?_
  refine va_bast hx hb hK hP hD hS 1 1 rfl rfl (vin (by decide)) dX9_feed_98 (fun H locs hP hD hS => ?_)
  generalize hhg12 : upd g11 (Int32.toNatClampNeg 11) (vp_nar .byte (p3 >>> (0 &&& 31)).toInt8.toInt32) = g12 at hP hD
  have hP : va_P D vwCl [(a0, .inr (9, [.ref a1, v0_1, .int 0, v0_3, v0_4, v0_5, v0_6, v0_7, v0_8, v0_9, v0_10, v0_11, v0_12, v0_13, v0_14, v0_15, v0_16, v0_17, v0_18, v0_19, v0_20, v0_21, v0_22, v0_23, v0_24, v0_25, v0_26, v0_27, v0_28, v0_29, v0_30, v0_31, v0_32, v0_33, v0_34, v0_35, v0_36, v0_37, v0_38, v0_39, v0_40, v0_41, v0_42, v0_43, v0_44, v0_45, v0_46, v0_47, v0_48, v0_49, v0_50, v0_51, v0_52, v0_53, v0_54, v0_55, v0_56, v0_57, v0_58, v0_59, v0_60, v0_61, v0_62, v0_63])), (a1, .inl (cy 1, 1620, .inl g12))] H := hP
  have hD : va_D A [(a0, .inr (9, [.ref a1, v0_1, .int 0, v0_3, v0_4, v0_5, v0_6, v0_7, v0_8, v0_9, v0_10, v0_11, v0_12, v0_13, v0_14, v0_15, v0_16, v0_17, v0_18, v0_19, v0_20, v0_21, v0_22, v0_23, v0_24, v0_25, v0_26, v0_27, v0_28, v0_29, v0_30, v0_31, v0_32, v0_33, v0_34, v0_35, v0_36, v0_37, v0_38, v0_39, v0_40, v0_41, v0_42, v0_43, v0_44, v0_45, v0_46, v0_47, v0_48, v0_49, v0_50, v0_51, v0_52, v0_53, v0_54, v0_55, v0_56, v0_57, v0_58, v0_59, v0_60, v0_61, v0_62, v0_63])), (a1, .inl (cy 1, 1620, .inl g12))] := hD
  refine lv_iinc (v := 12) (lv' := [(6, .int 12), (7, .int p3), (0, .ref a0), (1, .int p1), (2, .int p2), (3, .int p3), (4, .int p4), (5, .int p5)]) hx hb dX9_feed_99 hl (k := 1) rfl (by decide) (by decide) rfl (fun ls hl => ?_)
  refine lv_goto (tgt := 18) hx hb dX9_feed_102 (by decide) ?_
  refine lv_iload hx hb dX9_feed_18 (lv_at hl 0 rfl) ?_
  refine lv_bipush (v := 20) hx hb dX9_feed_20 (by decide) ?_
  refine lv_icmp_ge (tgt := 105) hx hb dX9_feed_22 (by decide) (fun c => absurd c (by decide)) (fun _ => ?_)
  refine lv_iload hx hb dX9_feed_25 (lv_at hl 0 rfl) ?_
  refine lv_iconst (v := 4) hx hb dX9_feed_27 (by decide) ?_
  refine lv_icmp_ge (tgt := 35) hx hb dX9_feed_28 (by decide) (fun _ => ?_) (fun c => absurd (by decide) c)
  refine lv_iload hx hb dX9_feed_35 (lv_at hl 0 rfl) ?_
  refine lv_bipush (v := 8) hx hb dX9_feed_37 (by decide) ?_
  refine lv_icmp_ge (tgt := 46) hx hb dX9_feed_39 (by decide) (fun _ => ?_) (fun c => absurd (by decide) c)
  refine lv_iload hx hb dX9_feed_46 (lv_at hl 0 rfl) ?_
  refine lv_bipush (v := 12) hx hb dX9_feed_48 (by decide) ?_
  refine lv_icmp_ge (tgt := 57) hx hb dX9_feed_50 (by decide) (fun _ => ?_) (fun c => absurd (by decide) c)
  refine lv_iload hx hb dX9_feed_57 (lv_at hl 0 rfl) ?_
  refine lv_bipush (v := 16) hx hb dX9_feed_59 (by decide) ?_
  refine lv_icmp_ge (tgt := 69) hx hb dX9_feed_61 (by decide) (fun c => absurd c (by decide)) (fun _ => ?_)
  refine lv_iload hx hb dX9_feed_64 (lv_at hl 6 rfl) ?_
  refine lv_goto (tgt := 71) hx hb dX9_feed_66 (by decide) ?_
  refine lv_istore (lv' := [(7, .int p4), (6, .int 12), (0, .ref a0), (1, .int p1), (2, .int p2), (3, .int p3), (4, .int p4), (5, .int p5)]) hx hb dX9_feed_71 hl (by decide) rfl (fun ls hl => ?_)
  refine lv_aload_n hx hb dX9_feed_73 rfl (lv_at hl 2 rfl) ?_
  refine va_get (D := D) (cl := vwCl) (ci := 9) (v := .ref a1) (C := RX9) (T := TX9) (N := 64) hx hb hts in_X9_feed_X9 hown hK hP 0 rfl rfl 0 (by decide) (hts (.fieldLink RX9 7 "EightReasonsModel" "tape" "[B") (List.mem_of_getElem? (i := 2) (by decide +kernel))) (fun _ h9 => h9) rfl dX9_feed_74 ?_
  refine lv_aload_n hx hb dX9_feed_77 rfl (lv_at hl 2 rfl) ?_
  refine va_get (D := D) (cl := vwCl) (ci := 9) (v := .int 0) (C := RX9) (T := TX9) (N := 64) hx hb hts in_X9_feed_X9 hown hK hP 0 rfl rfl 2 (by decide) (hts (.fieldLink RX9 236 "EightReasonsModel" "taped" "I") (List.mem_of_getElem? (i := 1) (by decide +kernel))) (fun _ h9 => h9) rfl dX9_feed_78 ?_
  refine lv_iload hx hb dX9_feed_81 (lv_at hl 1 rfl) ?_
  refine lv_iadd hx hb dX9_feed_83 (tpi (v := 12) (by decide) ?_)
  refine lv_iload hx hb dX9_feed_84 (lv_at hl 0 rfl) ?_
  refine lv_bipush (v := 24) hx hb dX9_feed_86 (by decide) ?_
  refine lv_bipush (v := 8) hx hb dX9_feed_88 (by decide) ?_
  refine lv_iload hx hb dX9_feed_90 (lv_at hl 1 rfl) ?_
  refine lv_iconst (v := 3) hx hb dX9_feed_92 (by decide) ?_
  refine lv_iand hx hb dX9_feed_93 (tpi (v := 0) (by decide) ?_)
  refine lv_imul hx hb dX9_feed_94 (tpi (v := 0) (by decide) ?_)
  refine lv_isub hx hb dX9_feed_95 (tpi (v := 24) (by decide) ?_)
  refine lv_ishr hx hb dX9_feed_96 ?_
  refine lv_i2b hx hb dX9_feed_97 rfl ?_
  refine va_bast hx hb hK hP hD hS 1 1 rfl rfl (vin (by decide)) dX9_feed_98 (fun H locs hP hD hS => ?_)
  generalize hhg13 : upd g12 (Int32.toNatClampNeg 12) (vp_nar .byte (p4 >>> (24 &&& 31)).toInt8.toInt32) = g13 at hP hD
  have hP : va_P D vwCl [(a0, .inr (9, [.ref a1, v0_1, .int 0, v0_3, v0_4, v0_5, v0_6, v0_7, v0_8, v0_9, v0_10, v0_11, v0_12, v0_13, v0_14, v0_15, v0_16, v0_17, v0_18, v0_19, v0_20, v0_21, v0_22, v0_23, v0_24, v0_25, v0_26, v0_27, v0_28, v0_29, v0_30, v0_31, v0_32, v0_33, v0_34, v0_35, v0_36, v0_37, v0_38, v0_39, v0_40, v0_41, v0_42, v0_43, v0_44, v0_45, v0_46, v0_47, v0_48, v0_49, v0_50, v0_51, v0_52, v0_53, v0_54, v0_55, v0_56, v0_57, v0_58, v0_59, v0_60, v0_61, v0_62, v0_63])), (a1, .inl (cy 1, 1620, .inl g13))] H := hP
  have hD : va_D A [(a0, .inr (9, [.ref a1, v0_1, .int 0, v0_3, v0_4, v0_5, v0_6, v0_7, v0_8, v0_9, v0_10, v0_11, v0_12, v0_13, v0_14, v0_15, v0_16, v0_17, v0_18, v0_19, v0_20, v0_21, v0_22, v0_23, v0_24, v0_25, v0_26, v0_27, v0_28, v0_29, v0_30, v0_31, v0_32, v0_33, v0_34, v0_35, v0_36, v0_37, v0_38, v0_39, v0_40, v0_41, v0_42, v0_43, v0_44, v0_45, v0_46, v0_47, v0_48, v0_49, v0_50, v0_51, v0_52, v0_53, v0_54, v0_55, v0_56, v0_57, v0_58, v0_59, v0_60, v0_61, v0_62, v0_63])), (a1, .inl (cy 1, 1620, .inl g13))] := hD
  refine lv_iinc (v := 13) (lv' := [(6, .int 13), (7, .int p4), (0, .ref a0), (1, .int p1), (2, .int p2), (3, .int p3), (4, .int p4), (5, .int p5)]) hx hb dX9_feed_99 hl (k := 1) rfl (by decide) (by decide) rfl (fun ls hl => ?_)
  refine lv_goto (tgt := 18) hx hb dX9_feed_102 (by decide) ?_
  refine lv_iload hx hb dX9_feed_18 (lv_at hl 0 rfl) ?_
  refine lv_bipush (v := 20) hx hb dX9_feed_20 (by decide) ?_
  refine lv_icmp_ge (tgt := 105) hx hb dX9_feed_22 (by decide) (fun c => absurd c (by decide)) (fun _ => ?_)
  refine lv_iload hx hb dX9_feed_25 (lv_at hl 0 rfl) ?_
  refine lv_iconst (v := 4) hx hb dX9_feed_27 (by decide) ?_
  refine lv_icmp_ge (tgt := 35) hx hb dX9_feed_28 (by decide) (fun _ => ?_) (fun c => absurd (by decide) c)
  refine lv_iload hx hb dX9_feed_35 (lv_at hl 0 rfl) ?_
  refine lv_bipush (v := 8) hx hb dX9_feed_37 (by decide) ?_
  refine lv_icmp_ge (tgt := 46) hx hb dX9_feed_39 (by decide) (fun _ => ?_) (fun c => absurd (by decide) c)
  refine lv_iload hx hb dX9_feed_46 (lv_at hl 0 rfl) ?_
  refine lv_bipush (v := 12) hx hb dX9_feed_48 (by decide) ?_
  refine lv_icmp_ge (tgt := 57) hx hb dX9_feed_50 (by decide) (fun _ => ?_) (fun c => absurd (by decide) c)
  refine lv_iload hx hb dX9_feed_57 (lv_at hl 0 rfl) ?_
  refine lv_bipush (v := 16) hx hb dX9_feed_59 (by decide) ?_
  refine lv_icmp_ge (tgt := 69) hx hb dX9_feed_61 (by decide) (fun c => absurd c (by decide)) (fun _ => ?_)
  refine lv_iload hx hb dX9_feed_64 (lv_at hl 6 rfl) ?_
  refine lv_goto (tgt := 71) hx hb dX9_feed_66 (by decide) ?_
  refine lv_istore (lv' := [(7, .int p4), (6, .int 13), (0, .ref a0), (1, .int p1), (2, .int p2), (3, .int p3), (4, .int p4), (5, .int p5)]) hx hb dX9_feed_71 hl (by decide) rfl (fun ls hl => ?_)
  refine lv_aload_n hx hb dX9_feed_73 rfl (lv_at hl 2 rfl) ?_
  refine va_get (D := D) (cl := vwCl) (ci := 9) (v := .ref a1) (C := RX9) (T := TX9) (N := 64) hx hb hts in_X9_feed_X9 hown hK hP 0 rfl rfl 0 (by decide) (hts (.fieldLink RX9 7 "EightReasonsModel" "tape" "[B") (List.mem_of_getElem? (i := 2) (by decide +kernel))) (fun _ h9 => h9) rfl dX9_feed_74 ?_
  refine lv_aload_n hx hb dX9_feed_77 rfl (lv_at hl 2 rfl) ?_
  refine va_get (D := D) (cl := vwCl) (ci := 9) (v := .int 0) (C := RX9) (T := TX9) (N := 64) hx hb hts in_X9_feed_X9 hown hK hP 0 rfl rfl 2 (by decide) (hts (.fieldLink RX9 236 "EightReasonsModel" "taped" "I") (List.mem_of_getElem? (i := 1) (by decide +kernel))) (fun _ h9 => h9) rfl dX9_feed_78 ?_
  refine lv_iload hx hb dX9_feed_81 (lv_at hl 1 rfl) ?_
  refine lv_iadd hx hb dX9_feed_83 (tpi (v := 13) (by decide) ?_)
  refine lv_iload hx hb dX9_feed_84 (lv_at hl 0 rfl) ?_
  refine lv_bipush (v := 24) hx hb dX9_feed_86 (by decide) ?_
  refine lv_bipush (v := 8) hx hb dX9_feed_88 (by decide) ?_
  refine lv_iload hx hb dX9_feed_90 (lv_at hl 1 rfl) ?_
  refine lv_iconst (v := 3) hx hb dX9_feed_92 (by decide) ?_
  refine lv_iand hx hb dX9_feed_93 (tpi (v := 1) (by decide) ?_)
  refine lv_imul hx hb dX9_feed_94 (tpi (v := 8) (by decide) ?_)
  refine lv_isub hx hb dX9_feed_95 (tpi (v := 16) (by decide) ?_)
  refine lv_ishr hx hb dX9_feed_96 ?_
  refine lv_i2b hx hb dX9_feed_97 rfl ?_
  refine va_bast hx hb hK hP hD hS 1 1 rfl rfl (vin (by decide)) dX9_feed_98 (fun H locs hP hD hS => ?_)
  generalize hhg14 : upd g13 (Int32.toNatClampNeg 13) (vp_nar .byte (p4 >>> (16 &&& 31)).toInt8.toInt32) = g14 at hP hD
  have hP : va_P D vwCl [(a0, .inr (9, [.ref a1, v0_1, .int 0, v0_3, v0_4, v0_5, v0_6, v0_7, v0_8, v0_9, v0_10, v0_11, v0_12, v0_13, v0_14, v0_15, v0_16, v0_17, v0_18, v0_19, v0_20, v0_21, v0_22, v0_23, v0_24, v0_25, v0_26, v0_27, v0_28, v0_29, v0_30, v0_31, v0_32, v0_33, v0_34, v0_35, v0_36, v0_37, v0_38, v0_39, v0_40, v0_41, v0_42, v0_43, v0_44, v0_45, v0_46, v0_47, v0_48, v0_49, v0_50, v0_51, v0_52, v0_53, v0_54, v0_55, v0_56, v0_57, v0_58, v0_59, v0_60, v0_61, v0_62, v0_63])), (a1, .inl (cy 1, 1620, .inl g14))] H := hP
  have hD : va_D A [(a0, .inr (9, [.ref a1, v0_1, .int 0, v0_3, v0_4, v0_5, v0_6, v0_7, v0_8, v0_9, v0_10, v0_11, v0_12, v0_13, v0_14, v0_15, v0_16, v0_17, v0_18, v0_19, v0_20, v0_21, v0_22, v0_23, v0_24, v0_25, v0_26, v0_27, v0_28, v0_29, v0_30, v0_31, v0_32, v0_33, v0_34, v0_35, v0_36, v0_37, v0_38, v0_39, v0_40, v0_41, v0_42, v0_43, v0_44, v0_45, v0_46, v0_47, v0_48, v0_49, v0_50, v0_51, v0_52, v0_53, v0_54, v0_55, v0_56, v0_57, v0_58, v0_59, v0_60, v0_61, v0_62, v0_63])), (a1, .inl (cy 1, 1620, .inl g14))] := hD
  refine lv_iinc (v := 14) (lv' := [(6, .int 14), (7, .int p4), (0, .ref a0), (1, .int p1), (2, .int p2), (3, .int p3), (4, .int p4), (5, .int p5)]) hx hb dX9_feed_99 hl (k := 1) rfl (by decide) (by decide) rfl (fun ls hl => ?_)
  refine lv_goto (tgt := 18) hx hb dX9_feed_102 (by decide) ?_
  refine lv_iload hx hb dX9_feed_18 (lv_at hl 0 rfl) ?_
  refine lv_bipush (v := 20) hx hb dX9_feed_20 (by decide) ?_
  refine lv_icmp_ge (tgt := 105) hx hb dX9_feed_22 (by decide) (fun c => absurd c (by decide)) (fun _ => ?_)
  refine lv_iload hx hb dX9_feed_25 (lv_at hl 0 rfl) ?_
  refine lv_iconst (v := 4) hx hb dX9_feed_27 (by decide) ?_
  refine lv_icmp_ge (tgt := 35) hx hb dX9_feed_28 (by decide) (fun _ => ?_) (fun c => absurd (by decide) c)
  refine lv_iload hx hb dX9_feed_35 (lv_at hl 0 rfl) ?_
  refine lv_bipush (v := 8) hx hb dX9_feed_37 (by decide) ?_
  refine lv_icmp_ge (tgt := 46) hx hb dX9_feed_39 (by decide) (fun _ => ?_) (fun c => absurd (by decide) c)
  refine lv_iload hx hb dX9_feed_46 (lv_at hl 0 rfl) ?_
  refine lv_bipush (v := 12) hx hb dX9_feed_48 (by decide) ?_
  refine lv_icmp_ge (tgt := 57) hx hb dX9_feed_50 (by decide) (fun _ => ?_) (fun c => absurd (by decide) c)
  refine lv_iload hx hb dX9_feed_57 (lv_at hl 0 rfl) ?_
  refine lv_bipush (v := 16) hx hb dX9_feed_59 (by decide) ?_
  refine lv_icmp_ge (tgt := 69) hx hb dX9_feed_61 (by decide) (fun c => absurd c (by decide)) (fun _ => ?_)
  refine lv_iload hx hb dX9_feed_64 (lv_at hl 6 rfl) ?_
  refine lv_goto (tgt := 71) hx hb dX9_feed_66 (by decide) ?_
  refine lv_istore (lv' := [(7, .int p4), (6, .int 14), (0, .ref a0), (1, .int p1), (2, .int p2), (3, .int p3), (4, .int p4), (5, .int p5)]) hx hb dX9_feed_71 hl (by decide) rfl (fun ls hl => ?_)
  refine lv_aload_n hx hb dX9_feed_73 rfl (lv_at hl 2 rfl) ?_
  refine va_get (D := D) (cl := vwCl) (ci := 9) (v := .ref a1) (C := RX9) (T := TX9) (N := 64) hx hb hts in_X9_feed_X9 hown hK hP 0 rfl rfl 0 (by decide) (hts (.fieldLink RX9 7 "EightReasonsModel" "tape" "[B") (List.mem_of_getElem? (i := 2) (by decide +kernel))) (fun _ h9 => h9) rfl dX9_feed_74 ?_
  refine lv_aload_n hx hb dX9_feed_77 rfl (lv_at hl 2 rfl) ?_
  refine va_get (D := D) (cl := vwCl) (ci := 9) (v := .int 0) (C := RX9) (T := TX9) (N := 64) hx hb hts in_X9_feed_X9 hown hK hP 0 rfl rfl 2 (by decide) (hts (.fieldLink RX9 236 "EightReasonsModel" "taped" "I") (List.mem_of_getElem? (i := 1) (by decide +kernel))) (fun _ h9 => h9) rfl dX9_feed_78 ?_
  refine lv_iload hx hb dX9_feed_81 (lv_at hl 1 rfl) ?_
  refine lv_iadd hx hb dX9_feed_83 (tpi (v := 14) (by decide) ?_)
  refine lv_iload hx hb dX9_feed_84 (lv_at hl 0 rfl) ?_
  refine lv_bipush (v := 24) hx hb dX9_feed_86 (by decide) ?_
  refine lv_bipush (v := 8) hx hb dX9_feed_88 (by decide) ?_
  refine lv_iload hx hb dX9_feed_90 (lv_at hl 1 rfl) ?_
  refine lv_iconst (v := 3) hx hb dX9_feed_92 (by decide) ?_
  refine lv_iand hx hb dX9_feed_93 (tpi (v := 2) (by decide) ?_)
  refine lv_imul hx hb dX9_feed_94 (tpi (v := 16) (by decide) ?_)
  refine lv_isub hx hb dX9_feed_95 (tpi (v := 8) (by decide) ?_)
  refine lv_ishr hx hb dX9_feed_96 ?_
  refine lv_i2b hx hb dX9_feed_97 rfl ?_
  refine va_bast hx hb hK hP hD hS 1 1 rfl rfl (vin (by decide)) dX9_feed_98 (fun H locs hP hD hS => ?_)
  generalize hhg15 : upd g14 (Int32.toNatClampNeg 14) (vp_nar .byte (p4 >>> (8 &&& 31)).toInt8.toInt32) = g15 at hP hD
  have hP : va_P D vwCl [(a0, .inr (9, [.ref a1, v0_1, .int 0, v0_3, v0_4, v0_5, v0_6, v0_7, v0_8, v0_9, v0_10, v0_11, v0_12, v0_13, v0_14, v0_15, v0_16, v0_17, v0_18, v0_19, v0_20, v0_21, v0_22, v0_23, v0_24, v0_25, v0_26, v0_27, v0_28, v0_29, v0_30, v0_31, v0_32, v0_33, v0_34, v0_35, v0_36, v0_37, v0_38, v0_39, v0_40, v0_41, v0_42, v0_43, v0_44, v0_45, v0_46, v0_47, v0_48, v0_49, v0_50, v0_51, v0_52, v0_53, v0_54, v0_55, v0_56, v0_57, v0_58, v0_59, v0_60, v0_61, v0_62, v0_63])), (a1, .inl (cy 1, 1620, .inl g15))] H := hP
  have hD : va_D A [(a0, .inr (9, [.ref a1, v0_1, .int 0, v0_3, v0_4, v0_5, v0_6, v0_7, v0_8, v0_9, v0_10, v0_11, v0_12, v0_13, v0_14, v0_15, v0_16, v0_17, v0_18, v0_19, v0_20, v0_21, v0_22, v0_23, v0_24, v0_25, v0_26, v0_27, v0_28, v0_29, v0_30, v0_31, v0_32, v0_33, v0_34, v0_35, v0_36, v0_37, v0_38, v0_39, v0_40, v0_41, v0_42, v0_43, v0_44, v0_45, v0_46, v0_47, v0_48, v0_49, v0_50, v0_51, v0_52, v0_53, v0_54, v0_55, v0_56, v0_57, v0_58, v0_59, v0_60, v0_61, v0_62, v0_63])), (a1, .inl (cy 1, 1620, .inl g15))] := hD
  refine lv_iinc (v := 15) (lv' := [(6, .int 15), (7, .int p4), (0, .ref a0), (1, .int p1), (2, .int p2), (3, .int p3), (4, .int p4), (5, .int p5)]) hx hb dX9_feed_99 hl (k := 1) rfl (by decide) (by decide) rfl (fun ls hl => ?_)
  refine lv_goto (tgt := 18) hx hb dX9_feed_102 (by decide) ?_
  refine lv_iload hx hb dX9_feed_18 (lv_at hl 0 rfl) ?_
  refine lv_bipush (v := 20) hx hb dX9_feed_20 (by decide) ?_
  refine lv_icmp_ge (tgt := 105) hx hb dX9_feed_22 (by decide) (fun c => absurd c (by decide)) (fun _ => ?_)
  refine lv_iload hx hb dX9_feed_25 (lv_at hl 0 rfl) ?_
  refine lv_iconst (v := 4) hx hb dX9_feed_27 (by decide) ?_
  refine lv_icmp_ge (tgt := 35) hx hb dX9_feed_28 (by decide) (fun _ => ?_) (fun c => absurd (by decide) c)
  refine lv_iload hx hb dX9_feed_35 (lv_at hl 0 rfl) ?_
  refine lv_bipush (v := 8) hx hb dX9_feed_37 (by decide) ?_
  refine lv_icmp_ge (tgt := 46) hx hb dX9_feed_39 (by decide) (fun _ => ?_) (fun c => absurd (by decide) c)
  refine lv_iload hx hb dX9_feed_46 (lv_at hl 0 rfl) ?_
  refine lv_bipush (v := 12) hx hb dX9_feed_48 (by decide) ?_
  refine lv_icmp_ge (tgt := 57) hx hb dX9_feed_50 (by decide) (fun _ => ?_) (fun c => absurd (by decide) c)
  refine lv_iload hx hb dX9_feed_57 (lv_at hl 0 rfl) ?_
  refine lv_bipush (v := 16) hx hb dX9_feed_59 (by decide) ?_
  refine lv_icmp_ge (tgt := 69) hx hb dX9_feed_61 (by decide) (fun c => absurd c (by decide)) (fun _ => ?_)
  refine lv_iload hx hb dX9_feed_64 (lv_at hl 6 rfl) ?_
  refine lv_goto (tgt := 71) hx hb dX9_feed_66 (by decide) ?_
  refine lv_istore (lv' := [(7, .int p4), (6, .int 15), (0, .ref a0), (1, .int p1), (2, .int p2), (3, .int p3), (4, .int p4), (5, .int p5)]) hx hb dX9_feed_71 hl (by decide) rfl (fun ls hl => ?_)
  refine lv_aload_n hx hb dX9_feed_73 rfl (lv_at hl 2 rfl) ?_
  refine va_get (D := D) (cl := vwCl) (ci := 9) (v := .ref a1) (C := RX9) (T := TX9) (N := 64) hx hb hts in_X9_feed_X9 hown hK hP 0 rfl rfl 0 (by decide) (hts (.fieldLink RX9 7 "EightReasonsModel" "tape" "[B") (List.mem_of_getElem? (i := 2) (by decide +kernel))) (fun _ h9 => h9) rfl dX9_feed_74 ?_
  refine lv_aload_n hx hb dX9_feed_77 rfl (lv_at hl 2 rfl) ?_
  refine va_get (D := D) (cl := vwCl) (ci := 9) (v := .int 0) (C := RX9) (T := TX9) (N := 64) hx hb hts in_X9_feed_X9 hown hK hP 0 rfl rfl 2 (by decide) (hts (.fieldLink RX9 236 "EightReasonsModel" "taped" "I") (List.mem_of_getElem? (i := 1) (by decide +kernel))) (fun _ h9 => h9) rfl dX9_feed_78 ?_
  refine lv_iload hx hb dX9_feed_81 (lv_at hl 1 rfl) ?_
  refine lv_iadd hx hb dX9_feed_83 (tpi (v := 15) (by decide) ?_)
  refine lv_iload hx hb dX9_feed_84 (lv_at hl 0 rfl) ?_
  refine lv_bipush (v := 24) hx hb dX9_feed_86 (by decide) ?_
  refine lv_bipush (v := 8) hx hb dX9_feed_88 (by decide) ?_
  refine lv_iload hx hb dX9_feed_90 (lv_at hl 1 rfl) ?_
  refine lv_iconst (v := 3) hx hb dX9_feed_92 (by decide) ?_
  refine lv_iand hx hb dX9_feed_93 (tpi (v := 3) (by decide) ?_)
  refine lv_imul hx hb dX9_feed_94 (tpi (v := 24) (by decide) ?_)
  refine lv_isub hx hb dX9_feed_95 (tpi (v := 0) (by decide) ?_)
  refine lv_ishr hx hb dX9_feed_96 ?_
  refine lv_i2b hx hb dX9_feed_97 rfl ?_
  refine va_bast hx hb hK hP hD hS 1 1 rfl rfl (vin (by decide)) dX9_feed_98 (fun H locs hP hD hS => ?_)
  generalize hhg16 : upd g15 (Int32.toNatClampNeg 15) (vp_nar .byte (p4 >>> (0 &&& 31)).toInt8.toInt32) = g16 at hP hD
  have hP : va_P D vwCl [(a0, .inr (9, [.ref a1, v0_1, .int 0, v0_3, v0_4, v0_5, v0_6, v0_7, v0_8, v0_9, v0_10, v0_11, v0_12, v0_13, v0_14, v0_15, v0_16, v0_17, v0_18, v0_19, v0_20, v0_21, v0_22, v0_23, v0_24, v0_25, v0_26, v0_27, v0_28, v0_29, v0_30, v0_31, v0_32, v0_33, v0_34, v0_35, v0_36, v0_37, v0_38, v0_39, v0_40, v0_41, v0_42, v0_43, v0_44, v0_45, v0_46, v0_47, v0_48, v0_49, v0_50, v0_51, v0_52, v0_53, v0_54, v0_55, v0_56, v0_57, v0_58, v0_59, v0_60, v0_61, v0_62, v0_63])), (a1, .inl (cy 1, 1620, .inl g16))] H := hP
  have hD : va_D A [(a0, .inr (9, [.ref a1, v0_1, .int 0, v0_3, v0_4, v0_5, v0_6, v0_7, v0_8, v0_9, v0_10, v0_11, v0_12, v0_13, v0_14, v0_15, v0_16, v0_17, v0_18, v0_19, v0_20, v0_21, v0_22, v0_23, v0_24, v0_25, v0_26, v0_27, v0_28, v0_29, v0_30, v0_31, v0_32, v0_33, v0_34, v0_35, v0_36, v0_37, v0_38, v0_39, v0_40, v0_41, v0_42, v0_43, v0_44, v0_45, v0_46, v0_47, v0_48, v0_49, v0_50, v0_51, v0_52, v0_53, v0_54, v0_55, v0_56, v0_57, v0_58, v0_59, v0_60, v0_61, v0_62, v0_63])), (a1, .inl (cy 1, 1620, .inl g16))] := hD
  refine lv_iinc (v := 16) (lv' := [(6, .int 16), (7, .int p4), (0, .ref a0), (1, .int p1), (2, .int p2), (3, .int p3), (4, .int p4), (5, .int p5)]) hx hb dX9_feed_99 hl (k := 1) rfl (by decide) (by decide) rfl (fun ls hl => ?_)
  refine lv_goto (tgt := 18) hx hb dX9_feed_102 (by decide) ?_
  refine lv_iload hx hb dX9_feed_18 (lv_at hl 0 rfl) ?_
  refine lv_bipush (v := 20) hx hb dX9_feed_20 (by decide) ?_
  refine lv_icmp_ge (tgt := 105) hx hb dX9_feed_22 (by decide) (fun c => absurd c (by decide)) (fun _ => ?_)
  refine lv_iload hx hb dX9_feed_25 (lv_at hl 0 rfl) ?_
  refine lv_iconst (v := 4) hx hb dX9_feed_27 (by decide) ?_
  refine lv_icmp_ge (tgt := 35) hx hb dX9_feed_28 (by decide) (fun _ => ?_) (fun c => absurd (by decide) c)
  refine lv_iload hx hb dX9_feed_35 (lv_at hl 0 rfl) ?_
  refine lv_bipush (v := 8) hx hb dX9_feed_37 (by decide) ?_
  refine lv_icmp_ge (tgt := 46) hx hb dX9_feed_39 (by decide) (fun _ => ?_) (fun c => absurd (by decide) c)
  refine lv_iload hx hb dX9_feed_46 (lv_at hl 0 rfl) ?_
  refine lv_bipush (v := 12) hx hb dX9_feed_48 (by decide) ?_
  refine lv_icmp_ge (tgt := 57) hx hb dX9_feed_50 (by decide) (fun _ => ?_) (fun c => absurd (by decide) c)
  refine lv_iload hx hb dX9_feed_57 (lv_at hl 0 rfl) ?_
  refine lv_bipush (v := 16) hx hb dX9_feed_59 (by decide) ?_
  refine lv_icmp_ge (tgt := 69) hx hb dX9_feed_61 (by decide) (fun _ => ?_) (fun c => absurd (by decide) c)
  refine lv_iload hx hb dX9_feed_69 (lv_at hl 7 rfl) ?_
  refine lv_istore (lv' := [(7, .int p5), (6, .int 16), (0, .ref a0), (1, .int p1), (2, .int p2), (3, .int p3), (4, .int p4), (5, .int p5)]) hx hb dX9_feed_71 hl (by decide) rfl (fun ls hl => ?_)
  refine lv_aload_n hx hb dX9_feed_73 rfl (lv_at hl 2 rfl) ?_
  refine va_get (D := D) (cl := vwCl) (ci := 9) (v := .ref a1) (C := RX9) (T := TX9) (N := 64) hx hb hts in_X9_feed_X9 hown hK hP 0 rfl rfl 0 (by decide) (hts (.fieldLink RX9 7 "EightReasonsModel" "tape" "[B") (List.mem_of_getElem? (i := 2) (by decide +kernel))) (fun _ h9 => h9) rfl dX9_feed_74 ?_
  refine lv_aload_n hx hb dX9_feed_77 rfl (lv_at hl 2 rfl) ?_
  refine va_get (D := D) (cl := vwCl) (ci := 9) (v := .int 0) (C := RX9) (T := TX9) (N := 64) hx hb hts in_X9_feed_X9 hown hK hP 0 rfl rfl 2 (by decide) (hts (.fieldLink RX9 236 "EightReasonsModel" "taped" "I") (List.mem_of_getElem? (i := 1) (by decide +kernel))) (fun _ h9 => h9) rfl dX9_feed_78 ?_
  refine lv_iload hx hb dX9_feed_81 (lv_at hl 1 rfl) ?_
  refine lv_iadd hx hb dX9_feed_83 (tpi (v := 16) (by decide) ?_)
  refine lv_iload hx hb dX9_feed_84 (lv_at hl 0 rfl) ?_
  refine lv_bipush (v := 24) hx hb dX9_feed_86 (by decide) ?_
  refine lv_bipush (v := 8) hx hb dX9_feed_88 (by decide) ?_
  refine lv_iload hx hb dX9_feed_90 (lv_at hl 1 rfl) ?_
  refine lv_iconst (v := 3) hx hb dX9_feed_92 (by decide) ?_
  refine lv_iand hx hb dX9_feed_93 (tpi (v := 0) (by decide) ?_)
  refine lv_imul hx hb dX9_feed_94 (tpi (v := 0) (by decide) ?_)
  refine lv_isub hx hb dX9_feed_95 (tpi (v := 24) (by decide) ?_)
  refine lv_ishr hx hb dX9_feed_96 ?_
  refine lv_i2b hx hb dX9_feed_97 rfl ?_
  refine va_bast hx hb hK hP hD hS 1 1 rfl rfl (vin (by decide)) dX9_feed_98 (fun H locs hP hD hS => ?_)
  generalize hhg17 : upd g16 (Int32.toNatClampNeg 16) (vp_nar .byte (p5 >>> (24 &&& 31)).toInt8.toInt32) = g17 at hP hD
  have hP : va_P D vwCl [(a0, .inr (9, [.ref a1, v0_1, .int 0, v0_3, v0_4, v0_5, v0_6, v0_7, v0_8, v0_9, v0_10, v0_11, v0_12, v0_13, v0_14, v0_15, v0_16, v0_17, v0_18, v0_19, v0_20, v0_21, v0_22, v0_23, v0_24, v0_25, v0_26, v0_27, v0_28, v0_29, v0_30, v0_31, v0_32, v0_33, v0_34, v0_35, v0_36, v0_37, v0_38, v0_39, v0_40, v0_41, v0_42, v0_43, v0_44, v0_45, v0_46, v0_47, v0_48, v0_49, v0_50, v0_51, v0_52, v0_53, v0_54, v0_55, v0_56, v0_57, v0_58, v0_59, v0_60, v0_61, v0_62, v0_63])), (a1, .inl (cy 1, 1620, .inl g17))] H := hP
  have hD : va_D A [(a0, .inr (9, [.ref a1, v0_1, .int 0, v0_3, v0_4, v0_5, v0_6, v0_7, v0_8, v0_9, v0_10, v0_11, v0_12, v0_13, v0_14, v0_15, v0_16, v0_17, v0_18, v0_19, v0_20, v0_21, v0_22, v0_23, v0_24, v0_25, v0_26, v0_27, v0_28, v0_29, v0_30, v0_31, v0_32, v0_33, v0_34, v0_35, v0_36, v0_37, v0_38, v0_39, v0_40, v0_41, v0_42, v0_43, v0_44, v0_45, v0_46, v0_47, v0_48, v0_49, v0_50, v0_51, v0_52, v0_53, v0_54, v0_55, v0_56, v0_57, v0_58, v0_59, v0_60, v0_61, v0_62, v0_63])), (a1, .inl (cy 1, 1620, .inl g17))] := hD
  refine lv_iinc (v := 17) (lv' := [(6, .int 17), (7, .int p5), (0, .ref a0), (1, .int p1), (2, .int p2), (3, .int p3), (4, .int p4), (5, .int p5)]) hx hb dX9_feed_99 hl (k := 1) rfl (by decide) (by decide) rfl (fun ls hl => ?_)
  refine lv_goto (tgt := 18) hx hb dX9_feed_102 (by decide) ?_
  refine lv_iload hx hb dX9_feed_18 (lv_at hl 0 rfl) ?_
  refine lv_bipush (v := 20) hx hb dX9_feed_20 (by decide) ?_
  refine lv_icmp_ge (tgt := 105) hx hb dX9_feed_22 (by decide) (fun c => absurd c (by decide)) (fun _ => ?_)
  refine lv_iload hx hb dX9_feed_25 (lv_at hl 0 rfl) ?_
  refine lv_iconst (v := 4) hx hb dX9_feed_27 (by decide) ?_
  refine lv_icmp_ge (tgt := 35) hx hb dX9_feed_28 (by decide) (fun _ => ?_) (fun c => absurd (by decide) c)
  refine lv_iload hx hb dX9_feed_35 (lv_at hl 0 rfl) ?_
  refine lv_bipush (v := 8) hx hb dX9_feed_37 (by decide) ?_
  refine lv_icmp_ge (tgt := 46) hx hb dX9_feed_39 (by decide) (fun _ => ?_) (fun c => absurd (by decide) c)
  refine lv_iload hx hb dX9_feed_46 (lv_at hl 0 rfl) ?_
  refine lv_bipush (v := 12) hx hb dX9_feed_48 (by decide) ?_
  refine lv_icmp_ge (tgt := 57) hx hb dX9_feed_50 (by decide) (fun _ => ?_) (fun c => absurd (by decide) c)
  refine lv_iload hx hb dX9_feed_57 (lv_at hl 0 rfl) ?_
  refine lv_bipush (v := 16) hx hb dX9_feed_59 (by decide) ?_
  refine lv_icmp_ge (tgt := 69) hx hb dX9_feed_61 (by decide) (fun _ => ?_) (fun c => absurd (by decide) c)
  refine lv_iload hx hb dX9_feed_69 (lv_at hl 7 rfl) ?_
  refine lv_istore (lv' := [(7, .int p5), (6, .int 17), (0, .ref a0), (1, .int p1), (2, .int p2), (3, .int p3), (4, .int p4), (5, .int p5)]) hx hb dX9_feed_71 hl (by decide) rfl (fun ls hl => ?_)
  refine lv_aload_n hx hb dX9_feed_73 rfl (lv_at hl 2 rfl) ?_
  refine va_get (D := D) (cl := vwCl) (ci := 9) (v := .ref a1) (C := RX9) (T := TX9) (N := 64) hx hb hts in_X9_feed_X9 hown hK hP 0 rfl rfl 0 (by decide) (hts (.fieldLink RX9 7 "EightReasonsModel" "tape" "[B") (List.mem_of_getElem? (i := 2) (by decide +kernel))) (fun _ h9 => h9) rfl dX9_feed_74 ?_
  refine lv_aload_n hx hb dX9_feed_77 rfl (lv_at hl 2 rfl) ?_
  refine va_get (D := D) (cl := vwCl) (ci := 9) (v := .int 0) (C := RX9) (T := TX9) (N := 64) hx hb hts in_X9_feed_X9 hown hK hP 0 rfl rfl 2 (by decide) (hts (.fieldLink RX9 236 "EightReasonsModel" "taped" "I") (List.mem_of_getElem? (i := 1) (by decide +kernel))) (fun _ h9 => h9) rfl dX9_feed_78 ?_
  refine lv_iload hx hb dX9_feed_81 (lv_at hl 1 rfl) ?_
  refine lv_iadd hx hb dX9_feed_83 (tpi (v := 17) (by decide) ?_)
  refine lv_iload hx hb dX9_feed_84 (lv_at hl 0 rfl) ?_
  refine lv_bipush (v := 24) hx hb dX9_feed_86 (by decide) ?_
  refine lv_bipush (v := 8) hx hb dX9_feed_88 (by decide) ?_
  refine lv_iload hx hb dX9_feed_90 (lv_at hl 1 rfl) ?_
  refine lv_iconst (v := 3) hx hb dX9_feed_92 (by decide) ?_
  refine lv_iand hx hb dX9_feed_93 (tpi (v := 1) (by decide) ?_)
  refine lv_imul hx hb dX9_feed_94 (tpi (v := 8) (by decide) ?_)
  refine lv_isub hx hb dX9_feed_95 (tpi (v := 16) (by decide) ?_)
  refine lv_ishr hx hb dX9_feed_96 ?_
  refine lv_i2b hx hb dX9_feed_97 rfl ?_
  refine va_bast hx hb hK hP hD hS 1 1 rfl rfl (vin (by decide)) dX9_feed_98 (fun H locs hP hD hS => ?_)
  generalize hhg18 : upd g17 (Int32.toNatClampNeg 17) (vp_nar .byte (p5 >>> (16 &&& 31)).toInt8.toInt32) = g18 at hP hD
  have hP : va_P D vwCl [(a0, .inr (9, [.ref a1, v0_1, .int 0, v0_3, v0_4, v0_5, v0_6, v0_7, v0_8, v0_9, v0_10, v0_11, v0_12, v0_13, v0_14, v0_15, v0_16, v0_17, v0_18, v0_19, v0_20, v0_21, v0_22, v0_23, v0_24, v0_25, v0_26, v0_27, v0_28, v0_29, v0_30, v0_31, v0_32, v0_33, v0_34, v0_35, v0_36, v0_37, v0_38, v0_39, v0_40, v0_41, v0_42, v0_43, v0_44, v0_45, v0_46, v0_47, v0_48, v0_49, v0_50, v0_51, v0_52, v0_53, v0_54, v0_55, v0_56, v0_57, v0_58, v0_59, v0_60, v0_61, v0_62, v0_63])), (a1, .inl (cy 1, 1620, .inl g18))] H := hP
  have hD : va_D A [(a0, .inr (9, [.ref a1, v0_1, .int 0, v0_3, v0_4, v0_5, v0_6, v0_7, v0_8, v0_9, v0_10, v0_11, v0_12, v0_13, v0_14, v0_15, v0_16, v0_17, v0_18, v0_19, v0_20, v0_21, v0_22, v0_23, v0_24, v0_25, v0_26, v0_27, v0_28, v0_29, v0_30, v0_31, v0_32, v0_33, v0_34, v0_35, v0_36, v0_37, v0_38, v0_39, v0_40, v0_41, v0_42, v0_43, v0_44, v0_45, v0_46, v0_47, v0_48, v0_49, v0_50, v0_51, v0_52, v0_53, v0_54, v0_55, v0_56, v0_57, v0_58, v0_59, v0_60, v0_61, v0_62, v0_63])), (a1, .inl (cy 1, 1620, .inl g18))] := hD
  refine lv_iinc (v := 18) (lv' := [(6, .int 18), (7, .int p5), (0, .ref a0), (1, .int p1), (2, .int p2), (3, .int p3), (4, .int p4), (5, .int p5)]) hx hb dX9_feed_99 hl (k := 1) rfl (by decide) (by decide) rfl (fun ls hl => ?_)
  refine lv_goto (tgt := 18) hx hb dX9_feed_102 (by decide) ?_
  refine lv_iload hx hb dX9_feed_18 (lv_at hl 0 rfl) ?_
  refine lv_bipush (v := 20) hx hb dX9_feed_20 (by decide) ?_
  refine lv_icmp_ge (tgt := 105) hx hb dX9_feed_22 (by decide) (fun c => absurd c (by decide)) (fun _ => ?_)
  refine lv_iload hx hb dX9_feed_25 (lv_at hl 0 rfl) ?_
  refine lv_iconst (v := 4) hx hb dX9_feed_27 (by decide) ?_
  refine lv_icmp_ge (tgt := 35) hx hb dX9_feed_28 (by decide) (fun _ => ?_) (fun c => absurd (by decide) c)
  refine lv_iload hx hb dX9_feed_35 (lv_at hl 0 rfl) ?_
  refine lv_bipush (v := 8) hx hb dX9_feed_37 (by decide) ?_
  refine lv_icmp_ge (tgt := 46) hx hb dX9_feed_39 (by decide) (fun _ => ?_) (fun c => absurd (by decide) c)
  refine lv_iload hx hb dX9_feed_46 (lv_at hl 0 rfl) ?_
  refine lv_bipush (v := 12) hx hb dX9_feed_48 (by decide) ?_
  refine lv_icmp_ge (tgt := 57) hx hb dX9_feed_50 (by decide) (fun _ => ?_) (fun c => absurd (by decide) c)
  refine lv_iload hx hb dX9_feed_57 (lv_at hl 0 rfl) ?_
  refine lv_bipush (v := 16) hx hb dX9_feed_59 (by decide) ?_
  refine lv_icmp_ge (tgt := 69) hx hb dX9_feed_61 (by decide) (fun _ => ?_) (fun c => absurd (by decide) c)
  refine lv_iload hx hb dX9_feed_69 (lv_at hl 7 rfl) ?_
  refine lv_istore (lv' := [(7, .int p5), (6, .int 18), (0, .ref a0), (1, .int p1), (2, .int p2), (3, .int p3), (4, .int p4), (5, .int p5)]) hx hb dX9_feed_71 hl (by decide) rfl (fun ls hl => ?_)
  refine lv_aload_n hx hb dX9_feed_73 rfl (lv_at hl 2 rfl) ?_
  refine va_get (D := D) (cl := vwCl) (ci := 9) (v := .ref a1) (C := RX9) (T := TX9) (N := 64) hx hb hts in_X9_feed_X9 hown hK hP 0 rfl rfl 0 (by decide) (hts (.fieldLink RX9 7 "EightReasonsModel" "tape" "[B") (List.mem_of_getElem? (i := 2) (by decide +kernel))) (fun _ h9 => h9) rfl dX9_feed_74 ?_
  refine lv_aload_n hx hb dX9_feed_77 rfl (lv_at hl 2 rfl) ?_
  refine va_get (D := D) (cl := vwCl) (ci := 9) (v := .int 0) (C := RX9) (T := TX9) (N := 64) hx hb hts in_X9_feed_X9 hown hK hP 0 rfl rfl 2 (by decide) (hts (.fieldLink RX9 236 "EightReasonsModel" "taped" "I") (List.mem_of_getElem? (i := 1) (by decide +kernel))) (fun _ h9 => h9) rfl dX9_feed_78 ?_
  refine lv_iload hx hb dX9_feed_81 (lv_at hl 1 rfl) ?_
  refine lv_iadd hx hb dX9_feed_83 (tpi (v := 18) (by decide) ?_)
  refine lv_iload hx hb dX9_feed_84 (lv_at hl 0 rfl) ?_
  refine lv_bipush (v := 24) hx hb dX9_feed_86 (by decide) ?_
  refine lv_bipush (v := 8) hx hb dX9_feed_88 (by decide) ?_
  refine lv_iload hx hb dX9_feed_90 (lv_at hl 1 rfl) ?_
  refine lv_iconst (v := 3) hx hb dX9_feed_92 (by decide) ?_
  refine lv_iand hx hb dX9_feed_93 (tpi (v := 2) (by decide) ?_)
  refine lv_imul hx hb dX9_feed_94 (tpi (v := 16) (by decide) ?_)
  refine lv_isub hx hb dX9_feed_95 (tpi (v := 8) (by decide) ?_)
  refine lv_ishr hx hb dX9_feed_96 ?_
  refine lv_i2b hx hb dX9_feed_97 rfl ?_
  refine va_bast hx hb hK hP hD hS 1 1 rfl rfl (vin (by decide)) dX9_feed_98 (fun H locs hP hD hS => ?_)
  generalize hhg19 : upd g18 (Int32.toNatClampNeg 18) (vp_nar .byte (p5 >>> (8 &&& 31)).toInt8.toInt32) = g19 at hP hD
  have hP : va_P D vwCl [(a0, .inr (9, [.ref a1, v0_1, .int 0, v0_3, v0_4, v0_5, v0_6, v0_7, v0_8, v0_9, v0_10, v0_11, v0_12, v0_13, v0_14, v0_15, v0_16, v0_17, v0_18, v0_19, v0_20, v0_21, v0_22, v0_23, v0_24, v0_25, v0_26, v0_27, v0_28, v0_29, v0_30, v0_31, v0_32, v0_33, v0_34, v0_35, v0_36, v0_37, v0_38, v0_39, v0_40, v0_41, v0_42, v0_43, v0_44, v0_45, v0_46, v0_47, v0_48, v0_49, v0_50, v0_51, v0_52, v0_53, v0_54, v0_55, v0_56, v0_57, v0_58, v0_59, v0_60, v0_61, v0_62, v0_63])), (a1, .inl (cy 1, 1620, .inl g19))] H := hP
  have hD : va_D A [(a0, .inr (9, [.ref a1, v0_1, .int 0, v0_3, v0_4, v0_5, v0_6, v0_7, v0_8, v0_9, v0_10, v0_11, v0_12, v0_13, v0_14, v0_15, v0_16, v0_17, v0_18, v0_19, v0_20, v0_21, v0_22, v0_23, v0_24, v0_25, v0_26, v0_27, v0_28, v0_29, v0_30, v0_31, v0_32, v0_33, v0_34, v0_35, v0_36, v0_37, v0_38, v0_39, v0_40, v0_41, v0_42, v0_43, v0_44, v0_45, v0_46, v0_47, v0_48, v0_49, v0_50, v0_51, v0_52, v0_53, v0_54, v0_55, v0_56, v0_57, v0_58, v0_59, v0_60, v0_61, v0_62, v0_63])), (a1, .inl (cy 1, 1620, .inl g19))] := hD
  refine lv_iinc (v := 19) (lv' := [(6, .int 19), (7, .int p5), (0, .ref a0), (1, .int p1), (2, .int p2), (3, .int p3), (4, .int p4), (5, .int p5)]) hx hb dX9_feed_99 hl (k := 1) rfl (by decide) (by decide) rfl (fun ls hl => ?_)
  refine lv_goto (tgt := 18) hx hb dX9_feed_102 (by decide) ?_
  refine lv_iload hx hb dX9_feed_18 (lv_at hl 0 rfl) ?_
  refine lv_bipush (v := 20) hx hb dX9_feed_20 (by decide) ?_
  refine lv_icmp_ge (tgt := 105) hx hb dX9_feed_22 (by decide) (fun c => absurd c (by decide)) (fun _ => ?_)
  refine lv_iload hx hb dX9_feed_25 (lv_at hl 0 rfl) ?_
  refine lv_iconst (v := 4) hx hb dX9_feed_27 (by decide) ?_
  refine lv_icmp_ge (tgt := 35) hx hb dX9_feed_28 (by decide) (fun _ => ?_) (fun c => absurd (by decide) c)
  refine lv_iload hx hb dX9_feed_35 (lv_at hl 0 rfl) ?_
  refine lv_bipush (v := 8) hx hb dX9_feed_37 (by decide) ?_
  refine lv_icmp_ge (tgt := 46) hx hb dX9_feed_39 (by decide) (fun _ => ?_) (fun c => absurd (by decide) c)
  refine lv_iload hx hb dX9_feed_46 (lv_at hl 0 rfl) ?_
  refine lv_bipush (v := 12) hx hb dX9_feed_48 (by decide) ?_
  refine lv_icmp_ge (tgt := 57) hx hb dX9_feed_50 (by decide) (fun _ => ?_) (fun c => absurd (by decide) c)
  refine lv_iload hx hb dX9_feed_57 (lv_at hl 0 rfl) ?_
  refine lv_bipush (v := 16) hx hb dX9_feed_59 (by decide) ?_
  refine lv_icmp_ge (tgt := 69) hx hb dX9_feed_61 (by decide) (fun _ => ?_) (fun c => absurd (by decide) c)
  refine lv_iload hx hb dX9_feed_69 (lv_at hl 7 rfl) ?_
  refine lv_istore (lv' := [(7, .int p5), (6, .int 19), (0, .ref a0), (1, .int p1), (2, .int p2), (3, .int p3), (4, .int p4), (5, .int p5)]) hx hb dX9_feed_71 hl (by decide) rfl (fun ls hl => ?_)
  refine lv_aload_n hx hb dX9_feed_73 rfl (lv_at hl 2 rfl) ?_
  refine va_get (D := D) (cl := vwCl) (ci := 9) (v := .ref a1) (C := RX9) (T := TX9) (N := 64) hx hb hts in_X9_feed_X9 hown hK hP 0 rfl rfl 0 (by decide) (hts (.fieldLink RX9 7 "EightReasonsModel" "tape" "[B") (List.mem_of_getElem? (i := 2) (by decide +kernel))) (fun _ h9 => h9) rfl dX9_feed_74 ?_
  refine lv_aload_n hx hb dX9_feed_77 rfl (lv_at hl 2 rfl) ?_
  refine va_get (D := D) (cl := vwCl) (ci := 9) (v := .int 0) (C := RX9) (T := TX9) (N := 64) hx hb hts in_X9_feed_X9 hown hK hP 0 rfl rfl 2 (by decide) (hts (.fieldLink RX9 236 "EightReasonsModel" "taped" "I") (List.mem_of_getElem? (i := 1) (by decide +kernel))) (fun _ h9 => h9) rfl dX9_feed_78 ?_
  refine lv_iload hx hb dX9_feed_81 (lv_at hl 1 rfl) ?_
  refine lv_iadd hx hb dX9_feed_83 (tpi (v := 19) (by decide) ?_)
  refine lv_iload hx hb dX9_feed_84 (lv_at hl 0 rfl) ?_
  refine lv_bipush (v := 24) hx hb dX9_feed_86 (by decide) ?_
  refine lv_bipush (v := 8) hx hb dX9_feed_88 (by decide) ?_
  refine lv_iload hx hb dX9_feed_90 (lv_at hl 1 rfl) ?_
  refine lv_iconst (v := 3) hx hb dX9_feed_92 (by decide) ?_
  refine lv_iand hx hb dX9_feed_93 (tpi (v := 3) (by decide) ?_)
  refine lv_imul hx hb dX9_feed_94 (tpi (v := 24) (by decide) ?_)
  refine lv_isub hx hb dX9_feed_95 (tpi (v := 0) (by decide) ?_)
  refine lv_ishr hx hb dX9_feed_96 ?_
  refine lv_i2b hx hb dX9_feed_97 rfl ?_
  refine va_bast hx hb hK hP hD hS 1 1 rfl rfl (vin (by decide)) dX9_feed_98 (fun H locs hP hD hS => ?_)
  generalize hhg20 : upd g19 (Int32.toNatClampNeg 19) (vp_nar .byte (p5 >>> (0 &&& 31)).toInt8.toInt32) = g20 at hP hD
  have hP : va_P D vwCl [(a0, .inr (9, [.ref a1, v0_1, .int 0, v0_3, v0_4, v0_5, v0_6, v0_7, v0_8, v0_9, v0_10, v0_11, v0_12, v0_13, v0_14, v0_15, v0_16, v0_17, v0_18, v0_19, v0_20, v0_21, v0_22, v0_23, v0_24, v0_25, v0_26, v0_27, v0_28, v0_29, v0_30, v0_31, v0_32, v0_33, v0_34, v0_35, v0_36, v0_37, v0_38, v0_39, v0_40, v0_41, v0_42, v0_43, v0_44, v0_45, v0_46, v0_47, v0_48, v0_49, v0_50, v0_51, v0_52, v0_53, v0_54, v0_55, v0_56, v0_57, v0_58, v0_59, v0_60, v0_61, v0_62, v0_63])), (a1, .inl (cy 1, 1620, .inl g20))] H := hP
  have hD : va_D A [(a0, .inr (9, [.ref a1, v0_1, .int 0, v0_3, v0_4, v0_5, v0_6, v0_7, v0_8, v0_9, v0_10, v0_11, v0_12, v0_13, v0_14, v0_15, v0_16, v0_17, v0_18, v0_19, v0_20, v0_21, v0_22, v0_23, v0_24, v0_25, v0_26, v0_27, v0_28, v0_29, v0_30, v0_31, v0_32, v0_33, v0_34, v0_35, v0_36, v0_37, v0_38, v0_39, v0_40, v0_41, v0_42, v0_43, v0_44, v0_45, v0_46, v0_47, v0_48, v0_49, v0_50, v0_51, v0_52, v0_53, v0_54, v0_55, v0_56, v0_57, v0_58, v0_59, v0_60, v0_61, v0_62, v0_63])), (a1, .inl (cy 1, 1620, .inl g20))] := hD
  refine lv_iinc (v := 20) (lv' := [(6, .int 20), (7, .int p5), (0, .ref a0), (1, .int p1), (2, .int p2), (3, .int p3), (4, .int p4), (5, .int p5)]) hx hb dX9_feed_99 hl (k := 1) rfl (by decide) (by decide) rfl (fun ls hl => ?_)
  refine lv_goto (tgt := 18) hx hb dX9_feed_102 (by decide) ?_
  refine lv_iload hx hb dX9_feed_18 (lv_at hl 0 rfl) ?_
  refine lv_bipush (v := 20) hx hb dX9_feed_20 (by decide) ?_
  refine lv_icmp_ge (tgt := 105) hx hb dX9_feed_22 (by decide) (fun _ => ?_) (fun c => absurd (by decide) c)
  refine lv_aload_n hx hb dX9_feed_105 rfl (lv_at hl 2 rfl) ?_
  refine lv_dup hx hb dX9_feed_106 rfl ?_
  refine va_get (D := D) (cl := vwCl) (ci := 9) (v := .int 0) (C := RX9) (T := TX9) (N := 64) hx hb hts in_X9_feed_X9 hown hK hP 0 rfl rfl 2 (by decide) (hts (.fieldLink RX9 236 "EightReasonsModel" "taped" "I") (List.mem_of_getElem? (i := 1) (by decide +kernel))) (fun _ h9 => h9) rfl dX9_feed_107 ?_
  refine lv_bipush (v := 20) hx hb dX9_feed_110 (by decide) ?_
  refine lv_iadd hx hb dX9_feed_112 (tpi (v := 20) (by decide) ?_)
  refine va_put (D := D) (cl := vwCl) (ci := 9) (v := .int 20) (ty := tyX9 2) (C := RX9) (T := TX9) (N := 64) hx hb hts in_X9_feed_X9 tyX9 tyX9_ok nmX9 hown hK hP hD hS 0 rfl rfl 2 (by decide) (hts (.fieldLink RX9 236 "EightReasonsModel" "taped" "I") (List.mem_of_getElem? (i := 1) (by decide +kernel))) (fun _ h9 => h9) rfl (tyX9_ok 2 (by decide)) rfl rfl (Nat.le_of_ble_eq_true rfl) dX9_feed_113 (fun H locs hP hD hS => ?_)
  have hP : va_P D vwCl [(a0, .inr (9, [.ref a1, v0_1, .int 20, v0_3, v0_4, v0_5, v0_6, v0_7, v0_8, v0_9, v0_10, v0_11, v0_12, v0_13, v0_14, v0_15, v0_16, v0_17, v0_18, v0_19, v0_20, v0_21, v0_22, v0_23, v0_24, v0_25, v0_26, v0_27, v0_28, v0_29, v0_30, v0_31, v0_32, v0_33, v0_34, v0_35, v0_36, v0_37, v0_38, v0_39, v0_40, v0_41, v0_42, v0_43, v0_44, v0_45, v0_46, v0_47, v0_48, v0_49, v0_50, v0_51, v0_52, v0_53, v0_54, v0_55, v0_56, v0_57, v0_58, v0_59, v0_60, v0_61, v0_62, v0_63])), (a1, .inl (cy 1, 1620, .inl g20))] H := hP
  have hD : va_D A [(a0, .inr (9, [.ref a1, v0_1, .int 20, v0_3, v0_4, v0_5, v0_6, v0_7, v0_8, v0_9, v0_10, v0_11, v0_12, v0_13, v0_14, v0_15, v0_16, v0_17, v0_18, v0_19, v0_20, v0_21, v0_22, v0_23, v0_24, v0_25, v0_26, v0_27, v0_28, v0_29, v0_30, v0_31, v0_32, v0_33, v0_34, v0_35, v0_36, v0_37, v0_38, v0_39, v0_40, v0_41, v0_42, v0_43, v0_44, v0_45, v0_46, v0_47, v0_48, v0_49, v0_50, v0_51, v0_52, v0_53, v0_54, v0_55, v0_56, v0_57, v0_58, v0_59, v0_60, v0_61, v0_62, v0_63])), (a1, .inl (cy 1, 1620, .inl g20))] := hD
  refine lv_aload_n hx hb dX9_feed_116 rfl (lv_at hl 2 rfl) ?_
  refine va_get (D := D) (cl := vwCl) (ci := 9) (v := .int 20) (C := RX9) (T := TX9) (N := 64) hx hb hts in_X9_feed_X9 hown hK hP 0 rfl rfl 2 (by decide) (hts (.fieldLink RX9 236 "EightReasonsModel" "taped" "I") (List.mem_of_getElem? (i := 1) (by decide +kernel))) (fun _ h9 => h9) rfl dX9_feed_117 ?_
  exact rtI hx hb hr hlk rfl hP hD hS () [] rfl rfl rfl dX9_feed_120
