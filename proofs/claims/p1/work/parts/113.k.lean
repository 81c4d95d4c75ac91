set_option maxHeartbeats 4000000 in
set_option maxRecDepth 100000 in
theorem k_X9_isIn_6 (l : Launch) (D : va_G) (cy : Nat → ClassId)  (p0 : Int32) (sz : Nat) : CtI l yX9_isIn wsX9_isIn 0 0 [.int p0, .int 0, .int 4] D cy [] sz 0 0 (fun (r : Int32) (_ : Unit) => (r = 0 ∧ (((p0 < 0)) ∨ ((¬ p0 < 0) ∧ (4 < p0)))) ∨ (r = 1 ∧ (((¬ p0 < 0) ∧ (¬ 4 < p0))))) (fun _ => []) := by
  refine CtI.of (cc := cX9_isIn) (maxL := 3) (ty := .boolean) (own := RX9) (by decide) rfl (Nat.le_of_ble_eq_true rfl) rfl ?_
  intro p e s m below meth c A ls hx hb hr hml hts hown hlk hK hP hD hS hA hl
  have hl : lv_has ls 3 [(0, .int p0), (1, .int 0), (2, .int 4)] := hl
  refine st0 (fun H locs hP hS => ?_) hP hS
  have hP : va_P D vwCl [] H := hP
  have hD : va_D A [] := hD
  refine lv_iload_n hx hb dX9_isIn_0 rfl (lv_at hl 0 rfl) ?_
  refine lv_iload_n hx hb dX9_isIn_1 rfl (lv_at hl 1 rfl) ?_
  refine lv_icmp_lt (tgt := 14) hx hb dX9_isIn_2 (by decide) (fun c1 => ?_) (fun c1 => ?_)
  · refine lv_iconst (v := 0) hx hb dX9_isIn_14 (by decide) ?_
    exact rtI hx hb hr hlk rfl hP hD hS () [] rfl rfl (Or.inl ⟨rfl, (Or.inl c1)⟩) dX9_isIn_15
  · refine lv_iload_n hx hb dX9_isIn_5 rfl (lv_at hl 0 rfl) ?_
    refine lv_iload_n hx hb dX9_isIn_6 rfl (lv_at hl 2 rfl) ?_
    refine lv_icmp_gt (tgt := 14) hx hb dX9_isIn_7 (by decide) (fun c2 => ?_) (fun c2 => ?_)
    · refine lv_iconst (v := 0) hx hb dX9_isIn_14 (by decide) ?_
      exact rtI hx hb hr hlk rfl hP hD hS () [] rfl rfl (Or.inl ⟨rfl, (Or.inr ⟨c1, c2⟩)⟩) dX9_isIn_15
    · refine lv_iconst (v := 1) hx hb dX9_isIn_10 (by decide) ?_
      refine lv_goto (tgt := 15) hx hb dX9_isIn_11 (by decide) ?_
      exact rtI hx hb hr hlk rfl hP hD hS () [] rfl rfl (Or.inr ⟨rfl, ⟨c1, c2⟩⟩) dX9_isIn_15
set_option maxHeartbeats 4000000 in
set_option maxRecDepth 100000 in
theorem k_X9_raised_0 (l : Launch) (D : va_G) (cy : Nat → ClassId)  (p0 : Int32) (sz : Nat) : CtI l yX9_raised wsX9_raised 0 0 [.int p0, .int 0] D cy [] sz 0 0 (fun (r : Int32) (_ : Unit) => r = 1) (fun _ => []) := by
  refine CtI.of (cc := cX9_raised) (maxL := 4) (ty := .int) (own := RX9) (by decide) rfl (Nat.le_of_ble_eq_true rfl) rfl ?_
  intro p e s m below meth c A ls hx hb hr hml hts hown hlk hK hP hD hS hA hl
  have hl : lv_has ls 4 [(0, .int p0), (1, .int 0)] := hl
  refine st0 (fun H locs hP hS => ?_) hP hS
  have hP : va_P D vwCl [] H := hP
  have hD : va_D A [] := hD
  refine lv_iconst (v := 1) hx hb dX9_raised_0 (by decide) ?_
  refine lv_istore_n (lv' := [(2, .int 1), (0, .int p0), (1, .int 0)]) hx hb dX9_raised_1 rfl hl (by decide) rfl (fun ls hl => ?_)
  refine lv_iconst (v := 0) hx hb dX9_raised_2 (by decide) ?_
  refine lv_istore_n (lv' := [(3, .int 0), (2, .int 1), (0, .int p0), (1, .int 0)]) hx hb dX9_raised_3 rfl hl (by decide) rfl (fun ls hl => ?_)
  refine lv_iload_n hx hb dX9_raised_4 rfl (lv_at hl 0 rfl) ?_
  refine lv_iload_n hx hb dX9_raised_5 rfl (lv_at hl 3 rfl) ?_
  refine lv_icmp_ge (tgt := 19) hx hb dX9_raised_6 (by decide) (fun _ => ?_) (fun c => absurd (by decide) c)
  refine lv_iload_n hx hb dX9_raised_19 rfl (lv_at hl 1 rfl) ?_
  exact rtI hx hb hr hlk rfl hP hD hS () [] rfl rfl rfl dX9_raised_20
set_option maxHeartbeats 4000000 in
set_option maxRecDepth 100000 in
theorem k_X9_divisor_0 (l : Launch) (D : va_G) (cy : Nat → ClassId)  (sz : Nat) : CtI l yX9_divisor wsX9_divisor 0 0 [.int 1, .int 1] D cy [] sz 0 0 (fun (r : Int32) (_ : Unit) => r = 1) (fun _ => []) := by
  refine CtI.of (cc := cX9_divisor) (maxL := 5) (ty := .int) (own := RX9) (by decide) rfl (Nat.le_of_ble_eq_true rfl) rfl ?_
  intro p e s m below meth c A ls hx hb hr hml hts hown hlk hK hP hD hS hA hl
  have hl : lv_has ls 5 [(0, .int 1), (1, .int 1)] := hl
  refine st0 (fun H locs hP hS => ?_) hP hS
  have hP : va_P D vwCl [] H := hP
  have hD : va_D A [] := hD
  refine lv_iload_n hx hb dX9_divisor_0 rfl (lv_at hl 0 rfl) ?_
  refine lv_istore_n (lv' := [(2, .int 1), (0, .int 1), (1, .int 1)]) hx hb dX9_divisor_1 rfl hl (by decide) rfl (fun ls hl => ?_)
  refine lv_iload_n hx hb dX9_divisor_2 rfl (lv_at hl 2 rfl) ?_
  refine lv_istore_n (lv' := [(3, .int 1), (2, .int 1), (0, .int 1), (1, .int 1)]) hx hb dX9_divisor_3 rfl hl (by decide) rfl (fun ls hl => ?_)
  refine lv_iload_n hx hb dX9_divisor_4 rfl (lv_at hl 0 rfl) ?_
  refine lv_if_le (tgt := 21) hx hb dX9_divisor_5 (by decide) (fun c => absurd c (by decide)) (fun _ => ?_)
  refine lv_iload_n hx hb dX9_divisor_8 rfl (lv_at hl 1 rfl) ?_
  refine lv_iload_n hx hb dX9_divisor_9 rfl (lv_at hl 0 rfl) ?_
  refine lv_irem hx hb dX9_divisor_10 (by decide) (tpi (v := 0) (by decide) ?_)
  refine lv_istore (lv' := [(4, .int 0), (3, .int 1), (2, .int 1), (0, .int 1), (1, .int 1)]) hx hb dX9_divisor_11 hl (by decide) rfl (fun ls hl => ?_)
  refine lv_iload_n hx hb dX9_divisor_13 rfl (lv_at hl 1 rfl) ?_
  refine lv_istore_n (lv' := [(2, .int 1), (4, .int 0), (3, .int 1), (0, .int 1), (1, .int 1)]) hx hb dX9_divisor_14 rfl hl (by decide) rfl (fun ls hl => ?_)
  refine lv_iload hx hb dX9_divisor_15 (lv_at hl 1 rfl) ?_
  refine lv_istore_n (lv' := [(3, .int 0), (2, .int 1), (4, .int 0), (0, .int 1), (1, .int 1)]) hx hb dX9_divisor_17 rfl hl (by decide) rfl (fun ls hl => ?_)
  refine lv_goto (tgt := 4) hx hb dX9_divisor_18 (by decide) ?_
  refine lv_iload_n hx hb dX9_divisor_4 rfl (lv_at hl 0 rfl) ?_
  refine lv_if_le (tgt := 21) hx hb dX9_divisor_5 (by decide) (fun _ => ?_) (fun c => absurd (by decide) c)
  refine lv_iload_n hx hb dX9_divisor_21 rfl (lv_at hl 1 rfl) ?_
  exact rtI hx hb hr hlk rfl hP hD hS () [] rfl rfl rfl dX9_divisor_22
set_option maxHeartbeats 4000000 in
set_option maxRecDepth 100000 in
theorem k_X9_raised_1 (l : Launch) (D : va_G) (cy : Nat → ClassId)  (sz : Nat) : CtI l yX9_raised wsX9_raised 0 0 [.int 100, .int 1] D cy [] sz 0 0 (fun (r : Int32) (_ : Unit) => r = 100) (fun _ => []) := by
  refine CtI.of (cc := cX9_raised) (maxL := 4) (ty := .int) (own := RX9) (by decide) rfl (Nat.le_of_ble_eq_true rfl) rfl ?_
  intro p e s m below meth c A ls hx hb hr hml hts hown hlk hK hP hD hS hA hl
  have hl : lv_has ls 4 [(0, .int 100), (1, .int 1)] := hl
  refine st0 (fun H locs hP hS => ?_) hP hS
  have hP : va_P D vwCl [] H := hP
  have hD : va_D A [] := hD
  refine lv_iconst (v := 1) hx hb dX9_raised_0 (by decide) ?_
  refine lv_istore_n (lv' := [(2, .int 1), (0, .int 100), (1, .int 1)]) hx hb dX9_raised_1 rfl hl (by decide) rfl (fun ls hl => ?_)
  refine lv_iconst (v := 0) hx hb dX9_raised_2 (by decide) ?_
  refine lv_istore_n (lv' := [(3, .int 0), (2, .int 1), (0, .int 100), (1, .int 1)]) hx hb dX9_raised_3 rfl hl (by decide) rfl (fun ls hl => ?_)
  refine lv_iload_n hx hb dX9_raised_4 rfl (lv_at hl 0 rfl) ?_
  refine lv_iload_n hx hb dX9_raised_5 rfl (lv_at hl 3 rfl) ?_
  refine lv_icmp_ge (tgt := 19) hx hb dX9_raised_6 (by decide) (fun c => absurd c (by decide)) (fun _ => ?_)
  refine lv_iload_n hx hb dX9_raised_9 rfl (lv_at hl 1 rfl) ?_
  refine lv_iload_n hx hb dX9_raised_10 rfl (lv_at hl 2 rfl) ?_
  refine lv_imul hx hb dX9_raised_11 (tpi (v := 100) (by decide) ?_)
  refine lv_istore_n (lv' := [(2, .int 100), (3, .int 0), (0, .int 100), (1, .int 1)]) hx hb dX9_raised_12 rfl hl (by decide) rfl (fun ls hl => ?_)
  refine lv_iinc (v := 1) (lv' := [(3, .int 1), (2, .int 100), (0, .int 100), (1, .int 1)]) hx hb dX9_raised_13 hl (k := 1) rfl (by decide) (by decide) rfl (fun ls hl => ?_)
  refine lv_goto (tgt := 4) hx hb dX9_raised_16 (by decide) ?_
  refine lv_iload_n hx hb dX9_raised_4 rfl (lv_at hl 0 rfl) ?_
  refine lv_iload_n hx hb dX9_raised_5 rfl (lv_at hl 3 rfl) ?_
  refine lv_icmp_ge (tgt := 19) hx hb dX9_raised_6 (by decide) (fun _ => ?_) (fun c => absurd (by decide) c)
  refine lv_iload_n hx hb dX9_raised_19 rfl (lv_at hl 1 rfl) ?_
  exact rtI hx hb hr hlk rfl hP hD hS () [] rfl rfl rfl dX9_raised_20
set_option maxHeartbeats 4000000 in
set_option maxRecDepth 100000 in
theorem k_X9_divisor_1 (l : Launch) (D : va_G) (cy : Nat → ClassId)  (sz : Nat) : CtI l yX9_divisor wsX9_divisor 0 0 [.int 100, .int 100] D cy [] sz 0 0 (fun (r : Int32) (_ : Unit) => r = 100) (fun _ => []) := by
  refine CtI.of (cc := cX9_divisor) (maxL := 5) (ty := .int) (own := RX9) (by decide) rfl (Nat.le_of_ble_eq_true rfl) rfl ?_
  intro p e s m below meth c A ls hx hb hr hml hts hown hlk hK hP hD hS hA hl
  have hl : lv_has ls 5 [(0, .int 100), (1, .int 100)] := hl
  refine st0 (fun H locs hP hS => ?_) hP hS
  have hP : va_P D vwCl [] H := hP
  have hD : va_D A [] := hD
  refine lv_iload_n hx hb dX9_divisor_0 rfl (lv_at hl 0 rfl) ?_
  refine lv_istore_n (lv' := [(2, .int 100), (0, .int 100), (1, .int 100)]) hx hb dX9_divisor_1 rfl hl (by decide) rfl (fun ls hl => ?_)
  refine lv_iload_n hx hb dX9_divisor_2 rfl (lv_at hl 2 rfl) ?_
  refine lv_istore_n (lv' := [(3, .int 100), (2, .int 100), (0, .int 100), (1, .int 100)]) hx hb dX9_divisor_3 rfl hl (by decide) rfl (fun ls hl => ?_)
  refine lv_iload_n hx hb dX9_divisor_4 rfl (lv_at hl 0 rfl) ?_
  refine lv_if_le (tgt := 21) hx hb dX9_divisor_5 (by decide) (fun c => absurd c (by decide)) (fun _ => ?_)
  refine lv_iload_n hx hb dX9_divisor_8 rfl (lv_at hl 1 rfl) ?_
  refine lv_iload_n hx hb dX9_divisor_9 rfl (lv_at hl 0 rfl) ?_
  refine lv_irem hx hb dX9_divisor_10 (by decide) (tpi (v := 0) (by decide) ?_)
  refine lv_istore (lv' := [(4, .int 0), (3, .int 100), (2, .int 100), (0, .int 100), (1, .int 100)]) hx hb dX9_divisor_11 hl (by decide) rfl (fun ls hl => ?_)
  refine lv_iload_n hx hb dX9_divisor_13 rfl (lv_at hl 1 rfl) ?_
  refine lv_istore_n (lv' := [(2, .int 100), (4, .int 0), (3, .int 100), (0, .int 100), (1, .int 100)]) hx hb dX9_divisor_14 rfl hl (by decide) rfl (fun ls hl => ?_)
  refine lv_iload hx hb dX9_divisor_15 (lv_at hl 1 rfl) ?_
  refine lv_istore_n (lv' := [(3, .int 0), (2, .int 100), (4, .int 0), (0, .int 100), (1, .int 100)]) hx hb dX9_divisor_17 rfl hl (by decide) rfl (fun ls hl => ?_)
  refine lv_goto (tgt := 4) hx hb dX9_divisor_18 (by decide) ?_
  refine lv_iload_n hx hb dX9_divisor_4 rfl (lv_at hl 0 rfl) ?_
  refine lv_if_le (tgt := 21) hx hb dX9_divisor_5 (by decide) (fun _ => ?_) (fun c => absurd (by decide) c)
  refine lv_iload_n hx hb dX9_divisor_21 rfl (lv_at hl 1 rfl) ?_
  exact rtI hx hb hr hlk rfl hP hD hS () [] rfl rfl rfl dX9_divisor_22
set_option maxHeartbeats 4000000 in
set_option maxRecDepth 100000 in
theorem k_X9_raised_2 (l : Launch) (D : va_G) (cy : Nat → ClassId)  (sz : Nat) : CtI l yX9_raised wsX9_raised 0 0 [.int 100, .int 2] D cy [] sz 0 0 (fun (r : Int32) (_ : Unit) => r = 10000) (fun _ => []) := by
  refine CtI.of (cc := cX9_raised) (maxL := 4) (ty := .int) (own := RX9) (by decide) rfl (Nat.le_of_ble_eq_true rfl) rfl ?_
  intro p e s m below meth c A ls hx hb hr hml hts hown hlk hK hP hD hS hA hl
  have hl : lv_has ls 4 [(0, .int 100), (1, .int 2)] := hl
  refine st0 (fun H locs hP hS => ?_) hP hS
  have hP : va_P D vwCl [] H := hP
  have hD : va_D A [] := hD
  refine lv_iconst (v := 1) hx hb dX9_raised_0 (by decide) ?_
  refine lv_istore_n (lv' := [(2, .int 1), (0, .int 100), (1, .int 2)]) hx hb dX9_raised_1 rfl hl (by decide) rfl (fun ls hl => ?_)
  refine lv_iconst (v := 0) hx hb dX9_raised_2 (by decide) ?_
  refine lv_istore_n (lv' := [(3, .int 0), (2, .int 1), (0, .int 100), (1, .int 2)]) hx hb dX9_raised_3 rfl hl (by decide) rfl (fun ls hl => ?_)
  refine lv_iload_n hx hb dX9_raised_4 rfl (lv_at hl 0 rfl) ?_
  refine lv_iload_n hx hb dX9_raised_5 rfl (lv_at hl 3 rfl) ?_
  refine lv_icmp_ge (tgt := 19) hx hb dX9_raised_6 (by decide) (fun c => absurd c (by decide)) (fun _ => ?_)
  refine lv_iload_n hx hb dX9_raised_9 rfl (lv_at hl 1 rfl) ?_
  refine lv_iload_n hx hb dX9_raised_10 rfl (lv_at hl 2 rfl) ?_
  refine lv_imul hx hb dX9_raised_11 (tpi (v := 100) (by decide) ?_)
  refine lv_istore_n (lv' := [(2, .int 100), (3, .int 0), (0, .int 100), (1, .int 2)]) hx hb dX9_raised_12 rfl hl (by decide) rfl (fun ls hl => ?_)
  refine lv_iinc (v := 1) (lv' := [(3, .int 1), (2, .int 100), (0, .int 100), (1, .int 2)]) hx hb dX9_raised_13 hl (k := 1) rfl (by decide) (by decide) rfl (fun ls hl => ?_)
  refine lv_goto (tgt := 4) hx hb dX9_raised_16 (by decide) ?_
  refine lv_iload_n hx hb dX9_raised_4 rfl (lv_at hl 0 rfl) ?_
  refine lv_iload_n hx hb dX9_raised_5 rfl (lv_at hl 3 rfl) ?_
  refine lv_icmp_ge (tgt := 19) hx hb dX9_raised_6 (by decide) (fun c => absurd c (by decide)) (fun _ => ?_)
  refine lv_iload_n hx hb dX9_raised_9 rfl (lv_at hl 1 rfl) ?_
  refine lv_iload_n hx hb dX9_raised_10 rfl (lv_at hl 2 rfl) ?_
  refine lv_imul hx hb dX9_raised_11 (tpi (v := 10000) (by decide) ?_)
  refine lv_istore_n (lv' := [(2, .int 10000), (3, .int 1), (0, .int 100), (1, .int 2)]) hx hb dX9_raised_12 rfl hl (by decide) rfl (fun ls hl => ?_)
  refine lv_iinc (v := 2) (lv' := [(3, .int 2), (2, .int 10000), (0, .int 100), (1, .int 2)]) hx hb dX9_raised_13 hl (k := 1) rfl (by decide) (by decide) rfl (fun ls hl => ?_)
  refine lv_goto (tgt := 4) hx hb dX9_raised_16 (by decide) ?_
  refine lv_iload_n hx hb dX9_raised_4 rfl (lv_at hl 0 rfl) ?_
  refine lv_iload_n hx hb dX9_raised_5 rfl (lv_at hl 3 rfl) ?_
  refine lv_icmp_ge (tgt := 19) hx hb dX9_raised_6 (by decide) (fun _ => ?_) (fun c => absurd (by decide) c)
  refine lv_iload_n hx hb dX9_raised_19 rfl (lv_at hl 1 rfl) ?_
  exact rtI hx hb hr hlk rfl hP hD hS () [] rfl rfl rfl dX9_raised_20
set_option maxHeartbeats 4000000 in
set_option maxRecDepth 100000 in
theorem k_X9_divisor_2 (l : Launch) (D : va_G) (cy : Nat → ClassId)  (sz : Nat) : CtI l yX9_divisor wsX9_divisor 0 0 [.int 10000, .int 10000] D cy [] sz 0 0 (fun (r : Int32) (_ : Unit) => r = 10000) (fun _ => []) := by
  refine CtI.of (cc := cX9_divisor) (maxL := 5) (ty := .int) (own := RX9) (by decide) rfl (Nat.le_of_ble_eq_true rfl) rfl ?_
  intro p e s m below meth c A ls hx hb hr hml hts hown hlk hK hP hD hS hA hl
  have hl : lv_has ls 5 [(0, .int 10000), (1, .int 10000)] := hl
  refine st0 (fun H locs hP hS => ?_) hP hS
  have hP : va_P D vwCl [] H := hP
  have hD : va_D A [] := hD
  refine lv_iload_n hx hb dX9_divisor_0 rfl (lv_at hl 0 rfl) ?_
  refine lv_istore_n (lv' := [(2, .int 10000), (0, .int 10000), (1, .int 10000)]) hx hb dX9_divisor_1 rfl hl (by decide) rfl (fun ls hl => ?_)
  refine lv_iload_n hx hb dX9_divisor_2 rfl (lv_at hl 2 rfl) ?_
  refine lv_istore_n (lv' := [(3, .int 10000), (2, .int 10000), (0, .int 10000), (1, .int 10000)]) hx hb dX9_divisor_3 rfl hl (by decide) rfl (fun ls hl => ?_)
  refine lv_iload_n hx hb dX9_divisor_4 rfl (lv_at hl 0 rfl) ?_
  refine lv_if_le (tgt := 21) hx hb dX9_divisor_5 (by decide) (fun c => absurd c (by decide)) (fun _ => ?_)
  refine lv_iload_n hx hb dX9_divisor_8 rfl (lv_at hl 1 rfl) ?_
  refine lv_iload_n hx hb dX9_divisor_9 rfl (lv_at hl 0 rfl) ?_
  refine lv_irem hx hb dX9_divisor_10 (by decide) (tpi (v := 0) (by decide) ?_)
  refine lv_istore (lv' := [(4, .int 0), (3, .int 10000), (2, .int 10000), (0, .int 10000), (1, .int 10000)]) hx hb dX9_divisor_11 hl (by decide) rfl (fun ls hl => ?_)
  refine lv_iload_n hx hb dX9_divisor_13 rfl (lv_at hl 1 rfl) ?_
  refine lv_istore_n (lv' := [(2, .int 10000), (4, .int 0), (3, .int 10000), (0, .int 10000), (1, .int 10000)]) hx hb dX9_divisor_14 rfl hl (by decide) rfl (fun ls hl => ?_)
  refine lv_iload hx hb dX9_divisor_15 (lv_at hl 1 rfl) ?_
  refine lv_istore_n (lv' := [(3, .int 0), (2, .int 10000), (4, .int 0), (0, .int 10000), (1, .int 10000)]) hx hb dX9_divisor_17 rfl hl (by decide) rfl (fun ls hl => ?_)
  refine lv_goto (tgt := 4) hx hb dX9_divisor_18 (by decide) ?_
  refine lv_iload_n hx hb dX9_divisor_4 rfl (lv_at hl 0 rfl) ?_
  refine lv_if_le (tgt := 21) hx hb dX9_divisor_5 (by decide) (fun _ => ?_) (fun c => absurd (by decide) c)
  refine lv_iload_n hx hb dX9_divisor_21 rfl (lv_at hl 1 rfl) ?_
  exact rtI hx hb hr hlk rfl hP hD hS () [] rfl rfl rfl dX9_divisor_22
set_option maxHeartbeats 4000000 in
set_option maxRecDepth 100000 in
theorem k_X9_raised_3 (l : Launch) (D : va_G) (cy : Nat → ClassId)  (sz : Nat) : CtI l yX9_raised wsX9_raised 0 0 [.int 100, .int 3] D cy [] sz 0 0 (fun (r : Int32) (_ : Unit) => r = 1000000) (fun _ => []) := by
  refine CtI.of (cc := cX9_raised) (maxL := 4) (ty := .int) (own := RX9) (by decide) rfl (Nat.le_of_ble_eq_true rfl) rfl ?_
  intro p e s m below meth c A ls hx hb hr hml hts hown hlk hK hP hD hS hA hl
  have hl : lv_has ls 4 [(0, .int 100), (1, .int 3)] := hl
  refine st0 (fun H locs hP hS => ?_) hP hS
  have hP : va_P D vwCl [] H := hP
  have hD : va_D A [] := hD
  refine lv_iconst (v := 1) hx hb dX9_raised_0 (by decide) ?_
  refine lv_istore_n (lv' := [(2, .int 1), (0, .int 100), (1, .int 3)]) hx hb dX9_raised_1 rfl hl (by decide) rfl (fun ls hl => ?_)
  refine lv_iconst (v := 0) hx hb dX9_raised_2 (by decide) ?_
  refine lv_istore_n (lv' := [(3, .int 0), (2, .int 1), (0, .int 100), (1, .int 3)]) hx hb dX9_raised_3 rfl hl (by decide) rfl (fun ls hl => ?_)
  refine lv_iload_n hx hb dX9_raised_4 rfl (lv_at hl 0 rfl) ?_
  refine lv_iload_n hx hb dX9_raised_5 rfl (lv_at hl 3 rfl) ?_
  refine lv_icmp_ge (tgt := 19) hx hb dX9_raised_6 (by decide) (fun c => absurd c (by decide)) (fun _ => ?_)
  refine lv_iload_n hx hb dX9_raised_9 rfl (lv_at hl 1 rfl) ?_
  refine lv_iload_n hx hb dX9_raised_10 rfl (lv_at hl 2 rfl) ?_
  refine lv_imul hx hb dX9_raised_11 (tpi (v := 100) (by decide) ?_)
  refine lv_istore_n (lv' := [(2, .int 100), (3, .int 0), (0, .int 100), (1, .int 3)]) hx hb dX9_raised_12 rfl hl (by decide) rfl (fun ls hl => ?_)
  refine lv_iinc (v := 1) (lv' := [(3, .int 1), (2, .int 100), (0, .int 100), (1, .int 3)]) hx hb dX9_raised_13 hl (k := 1) rfl (by decide) (by decide) rfl (fun ls hl => ?_)
  refine lv_goto (tgt := 4) hx hb dX9_raised_16 (by decide) ?_
  refine lv_iload_n hx hb dX9_raised_4 rfl (lv_at hl 0 rfl) ?_
  refine lv_iload_n hx hb dX9_raised_5 rfl (lv_at hl 3 rfl) ?_
  refine lv_icmp_ge (tgt := 19) hx hb dX9_raised_6 (by decide) (fun c => absurd c (by decide)) (fun _ => ?_)
  refine lv_iload_n hx hb dX9_raised_9 rfl (lv_at hl 1 rfl) ?_
  refine lv_iload_n hx hb dX9_raised_10 rfl (lv_at hl 2 rfl) ?_
  refine lv_imul hx hb dX9_raised_11 (tpi (v := 10000) (by decide) ?_)
  refine lv_istore_n (lv' := [(2, .int 10000), (3, .int 1), (0, .int 100), (1, .int 3)]) hx hb dX9_raised_12 rfl hl (by decide) rfl (fun ls hl => ?_)
  refine lv_iinc (v := 2) (lv' := [(3, .int 2), (2, .int 10000), (0, .int 100), (1, .int 3)]) hx hb dX9_raised_13 hl (k := 1) rfl (by decide) (by decide) rfl (fun ls hl => ?_)
  refine lv_goto (tgt := 4) hx hb dX9_raised_16 (by decide) ?_
  refine lv_iload_n hx hb dX9_raised_4 rfl (lv_at hl 0 rfl) ?_
  refine lv_iload_n hx hb dX9_raised_5 rfl (lv_at hl 3 rfl) ?_
  refine lv_icmp_ge (tgt := 19) hx hb dX9_raised_6 (by decide) (fun c => absurd c (by decide)) (fun _ => ?_)
  refine lv_iload_n hx hb dX9_raised_9 rfl (lv_at hl 1 rfl) ?_
  refine lv_iload_n hx hb dX9_raised_10 rfl (lv_at hl 2 rfl) ?_
  refine lv_imul hx hb dX9_raised_11 (tpi (v := 1000000) (by decide) ?_)
  refine lv_istore_n (lv' := [(2, .int 1000000), (3, .int 2), (0, .int 100), (1, .int 3)]) hx hb dX9_raised_12 rfl hl (by decide) rfl (fun ls hl => ?_)
  refine lv_iinc (v := 3) (lv' := [(3, .int 3), (2, .int 1000000), (0, .int 100), (1, .int 3)]) hx hb dX9_raised_13 hl (k := 1) rfl (by decide) (by decide) rfl (fun ls hl => ?_)
  refine lv_goto (tgt := 4) hx hb dX9_raised_16 (by decide) ?_
  refine lv_iload_n hx hb dX9_raised_4 rfl (lv_at hl 0 rfl) ?_
  refine lv_iload_n hx hb dX9_raised_5 rfl (lv_at hl 3 rfl) ?_
  refine lv_icmp_ge (tgt := 19) hx hb dX9_raised_6 (by decide) (fun _ => ?_) (fun c => absurd (by decide) c)
  refine lv_iload_n hx hb dX9_raised_19 rfl (lv_at hl 1 rfl) ?_
  exact rtI hx hb hr hlk rfl hP hD hS () [] rfl rfl rfl dX9_raised_20
set_option maxHeartbeats 4000000 in
set_option maxRecDepth 100000 in
theorem k_X9_divisor_3 (l : Launch) (D : va_G) (cy : Nat → ClassId)  (sz : Nat) : CtI l yX9_divisor wsX9_divisor 0 0 [.int 1000000, .int 1000000] D cy [] sz 0 0 (fun (r : Int32) (_ : Unit) => r = 1000000) (fun _ => []) := by
  refine CtI.of (cc := cX9_divisor) (maxL := 5) (ty := .int) (own := RX9) (by decide) rfl (Nat.le_of_ble_eq_true rfl) rfl ?_
  intro p e s m below meth c A ls hx hb hr hml hts hown hlk hK hP hD hS hA hl
  have hl : lv_has ls 5 [(0, .int 1000000), (1, .int 1000000)] := hl
  refine st0 (fun H locs hP hS => ?_) hP hS
  have hP : va_P D vwCl [] H := hP
  have hD : va_D A [] := hD
  refine lv_iload_n hx hb dX9_divisor_0 rfl (lv_at hl 0 rfl) ?_
  refine lv_istore_n (lv' := [(2, .int 1000000), (0, .int 1000000), (1, .int 1000000)]) hx hb dX9_divisor_1 rfl hl (by decide) rfl (fun ls hl => ?_)
  refine lv_iload_n hx hb dX9_divisor_2 rfl (lv_at hl 2 rfl) ?_
  refine lv_istore_n (lv' := [(3, .int 1000000), (2, .int 1000000), (0, .int 1000000), (1, .int 1000000)]) hx hb dX9_divisor_3 rfl hl (by decide) rfl (fun ls hl => ?_)
  refine lv_iload_n hx hb dX9_divisor_4 rfl (lv_at hl 0 rfl) ?_
  refine lv_if_le (tgt := 21) hx hb dX9_divisor_5 (by decide) (fun c => absurd c (by decide)) (fun _ => ?_)
  refine lv_iload_n hx hb dX9_divisor_8 rfl (lv_at hl 1 rfl) ?_
  refine lv_iload_n hx hb dX9_divisor_9 rfl (lv_at hl 0 rfl) ?_
  refine lv_irem hx hb dX9_divisor_10 (by decide) (tpi (v := 0) (by decide) ?_)
  refine lv_istore (lv' := [(4, .int 0), (3, .int 1000000), (2, .int 1000000), (0, .int 1000000), (1, .int 1000000)]) hx hb dX9_divisor_11 hl (by decide) rfl (fun ls hl => ?_)
  refine lv_iload_n hx hb dX9_divisor_13 rfl (lv_at hl 1 rfl) ?_
  refine lv_istore_n (lv' := [(2, .int 1000000), (4, .int 0), (3, .int 1000000), (0, .int 1000000), (1, .int 1000000)]) hx hb dX9_divisor_14 rfl hl (by decide) rfl (fun ls hl => ?_)
  refine lv_iload hx hb dX9_divisor_15 (lv_at hl 1 rfl) ?_
  refine lv_istore_n (lv' := [(3, .int 0), (2, .int 1000000), (4, .int 0), (0, .int 1000000), (1, .int 1000000)]) hx hb dX9_divisor_17 rfl hl (by decide) rfl (fun ls hl => ?_)
  refine lv_goto (tgt := 4) hx hb dX9_divisor_18 (by decide) ?_
  refine lv_iload_n hx hb dX9_divisor_4 rfl (lv_at hl 0 rfl) ?_
  refine lv_if_le (tgt := 21) hx hb dX9_divisor_5 (by decide) (fun _ => ?_) (fun c => absurd (by decide) c)
  refine lv_iload_n hx hb dX9_divisor_21 rfl (lv_at hl 1 rfl) ?_
  exact rtI hx hb hr hlk rfl hP hD hS () [] rfl rfl rfl dX9_divisor_22
set_option maxHeartbeats 4000000 in
set_option maxRecDepth 100000 in
theorem k_X9_raised_4 (l : Launch) (D : va_G) (cy : Nat → ClassId)  (sz : Nat) : CtI l yX9_raised wsX9_raised 0 0 [.int 100, .int 4] D cy [] sz 0 0 (fun (r : Int32) (_ : Unit) => r = 100000000) (fun _ => []) := by
  refine CtI.of (cc := cX9_raised) (maxL := 4) (ty := .int) (own := RX9) (by decide) rfl (Nat.le_of_ble_eq_true rfl) rfl ?_
  intro p e s m below meth c A ls hx hb hr hml hts hown hlk hK hP hD hS hA hl
  have hl : lv_has ls 4 [(0, .int 100), (1, .int 4)] := hl
  refine st0 (fun H locs hP hS => ?_) hP hS
  have hP : va_P D vwCl [] H := hP
  have hD : va_D A [] := hD
  refine lv_iconst (v := 1) hx hb dX9_raised_0 (by decide) ?_
  refine lv_istore_n (lv' := [(2, .int 1), (0, .int 100), (1, .int 4)]) hx hb dX9_raised_1 rfl hl (by decide) rfl (fun ls hl => ?_)
  refine lv_iconst (v := 0) hx hb dX9_raised_2 (by decide) ?_
  refine lv_istore_n (lv' := [(3, .int 0), (2, .int 1), (0, .int 100), (1, .int 4)]) hx hb dX9_raised_3 rfl hl (by decide) rfl (fun ls hl => ?_)
  refine lv_iload_n hx hb dX9_raised_4 rfl (lv_at hl 0 rfl) ?_
  refine lv_iload_n hx hb dX9_raised_5 rfl (lv_at hl 3 rfl) ?_
  refine lv_icmp_ge (tgt := 19) hx hb dX9_raised_6 (by decide) (fun c => absurd c (by decide)) (fun _ => ?_)
  refine lv_iload_n hx hb dX9_raised_9 rfl (lv_at hl 1 rfl) ?_
  refine lv_iload_n hx hb dX9_raised_10 rfl (lv_at hl 2 rfl) ?_
  refine lv_imul hx hb dX9_raised_11 (tpi (v := 100) (by decide) ?_)
  refine lv_istore_n (lv' := [(2, .int 100), (3, .int 0), (0, .int 100), (1, .int 4)]) hx hb dX9_raised_12 rfl hl (by decide) rfl (fun ls hl => ?_)
  refine lv_iinc (v := 1) (lv' := [(3, .int 1), (2, .int 100), (0, .int 100), (1, .int 4)]) hx hb dX9_raised_13 hl (k := 1) rfl (by decide) (by decide) rfl (fun ls hl => ?_)
  refine lv_goto (tgt := 4) hx hb dX9_raised_16 (by decide) ?_
  refine lv_iload_n hx hb dX9_raised_4 rfl (lv_at hl 0 rfl) ?_
  refine lv_iload_n hx hb dX9_raised_5 rfl (lv_at hl 3 rfl) ?_
  refine lv_icmp_ge (tgt := 19) hx hb dX9_raised_6 (by decide) (fun c => absurd c (by decide)) (fun _ => ?_)
  refine lv_iload_n hx hb dX9_raised_9 rfl (lv_at hl 1 rfl) ?_
  refine lv_iload_n hx hb dX9_raised_10 rfl (lv_at hl 2 rfl) ?_
  refine lv_imul hx hb dX9_raised_11 (tpi (v := 10000) (by decide) ?_)
  refine lv_istore_n (lv' := [(2, .int 10000), (3, .int 1), (0, .int 100), (1, .int 4)]) hx hb dX9_raised_12 rfl hl (by decide) rfl (fun ls hl => ?_)
  refine lv_iinc (v := 2) (lv' := [(3, .int 2), (2, .int 10000), (0, .int 100), (1, .int 4)]) hx hb dX9_raised_13 hl (k := 1) rfl (by decide) (by decide) rfl (fun ls hl => ?_)
  refine lv_goto (tgt := 4) hx hb dX9_raised_16 (by decide) ?_
  refine lv_iload_n hx hb dX9_raised_4 rfl (lv_at hl 0 rfl) ?_
  refine lv_iload_n hx hb dX9_raised_5 rfl (lv_at hl 3 rfl) ?_
  refine lv_icmp_ge (tgt := 19) hx hb dX9_raised_6 (by decide) (fun c => absurd c (by decide)) (fun _ => ?_)
  refine lv_iload_n hx hb dX9_raised_9 rfl (lv_at hl 1 rfl) ?_
  refine lv_iload_n hx hb dX9_raised_10 rfl (lv_at hl 2 rfl) ?_
  refine lv_imul hx hb dX9_raised_11 (tpi (v := 1000000) (by decide) ?_)
  refine lv_istore_n (lv' := [(2, .int 1000000), (3, .int 2), (0, .int 100), (1, .int 4)]) hx hb dX9_raised_12 rfl hl (by decide) rfl (fun ls hl => ?_)
  refine lv_iinc (v := 3) (lv' := [(3, .int 3), (2, .int 1000000), (0, .int 100), (1, .int 4)]) hx hb dX9_raised_13 hl (k := 1) rfl (by decide) (by decide) rfl (fun ls hl => ?_)
  refine lv_goto (tgt := 4) hx hb dX9_raised_16 (by decide) ?_
  refine lv_iload_n hx hb dX9_raised_4 rfl (lv_at hl 0 rfl) ?_
  refine lv_iload_n hx hb dX9_raised_5 rfl (lv_at hl 3 rfl) ?_
  refine lv_icmp_ge (tgt := 19) hx hb dX9_raised_6 (by decide) (fun c => absurd c (by decide)) (fun _ => ?_)
  refine lv_iload_n hx hb dX9_raised_9 rfl (lv_at hl 1 rfl) ?_
  refine lv_iload_n hx hb dX9_raised_10 rfl (lv_at hl 2 rfl) ?_
  refine lv_imul hx hb dX9_raised_11 (tpi (v := 100000000) (by decide) ?_)
  refine lv_istore_n (lv' := [(2, .int 100000000), (3, .int 3), (0, .int 100), (1, .int 4)]) hx hb dX9_raised_12 rfl hl (by decide) rfl (fun ls hl => ?_)
  refine lv_iinc (v := 4) (lv' := [(3, .int 4), (2, .int 100000000), (0, .int 100), (1, .int 4)]) hx hb dX9_raised_13 hl (k := 1) rfl (by decide) (by decide) rfl (fun ls hl => ?_)
  refine lv_goto (tgt := 4) hx hb dX9_raised_16 (by decide) ?_
  refine lv_iload_n hx hb dX9_raised_4 rfl (lv_at hl 0 rfl) ?_
  refine lv_iload_n hx hb dX9_raised_5 rfl (lv_at hl 3 rfl) ?_
  refine lv_icmp_ge (tgt := 19) hx hb dX9_raised_6 (by decide) (fun _ => ?_) (fun c => absurd (by decide) c)
  refine lv_iload_n hx hb dX9_raised_19 rfl (lv_at hl 1 rfl) ?_
  exact rtI hx hb hr hlk rfl hP hD hS () [] rfl rfl rfl dX9_raised_20
set_option maxHeartbeats 4000000 in
set_option maxRecDepth 100000 in
theorem k_X9_divisor_4 (l : Launch) (D : va_G) (cy : Nat → ClassId)  (sz : Nat) : CtI l yX9_divisor wsX9_divisor 0 0 [.int 100000000, .int 100000000] D cy [] sz 0 0 (fun (r : Int32) (_ : Unit) => r = 100000000) (fun _ => []) := by
  refine CtI.of (cc := cX9_divisor) (maxL := 5) (ty := .int) (own := RX9) (by decide) rfl (Nat.le_of_ble_eq_true rfl) rfl ?_
  intro p e s m below meth c A ls hx hb hr hml hts hown hlk hK hP hD hS hA hl
  have hl : lv_has ls 5 [(0, .int 100000000), (1, .int 100000000)] := hl
  refine st0 (fun H locs hP hS => ?_) hP hS
  have hP : va_P D vwCl [] H := hP
  have hD : va_D A [] := hD
  refine lv_iload_n hx hb dX9_divisor_0 rfl (lv_at hl 0 rfl) ?_
  refine lv_istore_n (lv' := [(2, .int 100000000), (0, .int 100000000), (1, .int 100000000)]) hx hb dX9_divisor_1 rfl hl (by decide) rfl (fun ls hl => ?_)
  refine lv_iload_n hx hb dX9_divisor_2 rfl (lv_at hl 2 rfl) ?_
  refine lv_istore_n (lv' := [(3, .int 100000000), (2, .int 100000000), (0, .int 100000000), (1, .int 100000000)]) hx hb dX9_divisor_3 rfl hl (by decide) rfl (fun ls hl => ?_)
  refine lv_iload_n hx hb dX9_divisor_4 rfl (lv_at hl 0 rfl) ?_
  refine lv_if_le (tgt := 21) hx hb dX9_divisor_5 (by decide) (fun c => absurd c (by decide)) (fun _ => ?_)
  refine lv_iload_n hx hb dX9_divisor_8 rfl (lv_at hl 1 rfl) ?_
  refine lv_iload_n hx hb dX9_divisor_9 rfl (lv_at hl 0 rfl) ?_
  refine lv_irem hx hb dX9_divisor_10 (by decide) (tpi (v := 0) (by decide) ?_)
  refine lv_istore (lv' := [(4, .int 0), (3, .int 100000000), (2, .int 100000000), (0, .int 100000000), (1, .int 100000000)]) hx hb dX9_divisor_11 hl (by decide) rfl (fun ls hl => ?_)
  refine lv_iload_n hx hb dX9_divisor_13 rfl (lv_at hl 1 rfl) ?_
  refine lv_istore_n (lv' := [(2, .int 100000000), (4, .int 0), (3, .int 100000000), (0, .int 100000000), (1, .int 100000000)]) hx hb dX9_divisor_14 rfl hl (by decide) rfl (fun ls hl => ?_)
  refine lv_iload hx hb dX9_divisor_15 (lv_at hl 1 rfl) ?_
  refine lv_istore_n (lv' := [(3, .int 0), (2, .int 100000000), (4, .int 0), (0, .int 100000000), (1, .int 100000000)]) hx hb dX9_divisor_17 rfl hl (by decide) rfl (fun ls hl => ?_)
  refine lv_goto (tgt := 4) hx hb dX9_divisor_18 (by decide) ?_
  refine lv_iload_n hx hb dX9_divisor_4 rfl (lv_at hl 0 rfl) ?_
  refine lv_if_le (tgt := 21) hx hb dX9_divisor_5 (by decide) (fun _ => ?_) (fun c => absurd (by decide) c)
  refine lv_iload_n hx hb dX9_divisor_21 rfl (lv_at hl 1 rfl) ?_
  exact rtI hx hb hr hlk rfl hP hD hS () [] rfl rfl rfl dX9_divisor_22
set_option maxHeartbeats 4000000 in
set_option maxRecDepth 100000 in
theorem k_X9_odds_0 (l : Launch) (D : va_G) (cy : Nat → ClassId) (a0 a1 : Nat) (v0_0 : Value) (v0_1 : Value) (v0_2 : Value) (v0_3 : Value) (v0_4 : Value) (v0_5 : Value) (v0_6 : Value) (v0_7 : Value) (v0_8 : Value) (v0_9 : Value) (v0_10 : Value) (v0_11 : Value) (v0_12 : Value) (v0_13 : Value) (v0_15 : Value) (v0_16 : Value) (v0_17 : Value) (v0_18 : Value) (v0_19 : Value) (v0_20 : Value) (v0_21 : Value) (v0_22 : Value) (v0_23 : Value) (v0_24 : Value) (v0_25 : Value) (v0_26 : Value) (v0_27 : Value) (v0_28 : Value) (v0_30 : Value) (v0_31 : Value) (v0_32 : Value) (v0_33 : Value) (v0_34 : Value) (v0_35 : Value) (v0_36 : Value) (v0_37 : Value) (v0_38 : Value) (v0_39 : Value) (v0_40 : Value) (v0_41 : Value) (v0_42 : Value) (v0_43 : Value) (v0_44 : Value) (v0_45 : Value) (v0_46 : Value) (v0_47 : Value) (v0_48 : Value) (v0_49 : Value) (v0_50 : Value) (v0_51 : Value) (v0_52 : Value) (v0_53 : Value) (v0_54 : Value) (v0_55 : Value) (v0_56 : Value) (v0_57 : Value) (v0_58 : Value) (v0_59 : Value) (v0_60 : Value) (v0_61 : Value) (v0_62 : Value) (v0_63 : Value) (p1 : Int32) (p2 : Int32) (sz : Nat) : CtI l yX9_odds wsX9_odds 1 24 [.ref a0, .int p1, .int p2] D cy [(a0, .inr (9, [v0_0, v0_1, v0_2, v0_3, v0_4, v0_5, v0_6, v0_7, v0_8, v0_9, v0_10, v0_11, v0_12, v0_13, .ref a1, v0_15, v0_16, v0_17, v0_18, v0_19, v0_20, v0_21, v0_22, v0_23, v0_24, v0_25, v0_26, v0_27, v0_28, .int 0, v0_30, v0_31, v0_32, v0_33, v0_34, v0_35, v0_36, v0_37, v0_38, v0_39, v0_40, v0_41, v0_42, v0_43, v0_44, v0_45, v0_46, v0_47, v0_48, v0_49, v0_50, v0_51, v0_52, v0_53, v0_54, v0_55, v0_56, v0_57, v0_58, v0_59, v0_60, v0_61, v0_62, v0_63])), (a1, .inl (cy 0, 2, .inl zI))] sz 0 0 (fun (r : Int32) (_ : Unit) => (r = (-1) ∧ ((((((p1 < 0)) ∨ ((¬ p1 < 0) ∧ (4 < p1))))) ∨ (((((¬ p1 < 0) ∧ (¬ 4 < p1)))) ∧ ((((p2 < 0)) ∨ ((¬ p2 < 0) ∧ (1 < p2))))))) ∨ (r = 1 ∧ ((((((¬ p1 < 0) ∧ (¬ 4 < p1)))) ∧ ((((¬ p2 < 0) ∧ (¬ 1 < p2)))) ∧ (p1 = 0) ∧ (p2 = 0)) ∨ (((((¬ p1 < 0) ∧ (¬ 4 < p1)))) ∧ ((((¬ p2 < 0) ∧ (¬ 1 < p2)))) ∧ (p1 = 0) ∧ (p2 = 1)) ∨ (((((¬ p1 < 0) ∧ (¬ 4 < p1)))) ∧ ((((¬ p2 < 0) ∧ (¬ 1 < p2)))) ∧ (p1 = 1) ∧ (p2 = 0)) ∨ (((((¬ p1 < 0) ∧ (¬ 4 < p1)))) ∧ ((((¬ p2 < 0) ∧ (¬ 1 < p2)))) ∧ (p1 = 1) ∧ (p2 = 1)) ∨ (((((¬ p1 < 0) ∧ (¬ 4 < p1)))) ∧ ((((¬ p2 < 0) ∧ (¬ 1 < p2)))) ∧ (p1 = 2) ∧ (p2 = 0)) ∨ (((((¬ p1 < 0) ∧ (¬ 4 < p1)))) ∧ ((((¬ p2 < 0) ∧ (¬ 1 < p2)))) ∧ (p1 = 2) ∧ (p2 = 1)) ∨ (((((¬ p1 < 0) ∧ (¬ 4 < p1)))) ∧ ((((¬ p2 < 0) ∧ (¬ 1 < p2)))) ∧ (p1 = 3) ∧ (p2 = 0)) ∨ (((((¬ p1 < 0) ∧ (¬ 4 < p1)))) ∧ ((((¬ p2 < 0) ∧ (¬ 1 < p2)))) ∧ (p1 = 3) ∧ (p2 = 1)) ∨ (((((¬ p1 < 0) ∧ (¬ 4 < p1)))) ∧ ((((¬ p2 < 0) ∧ (¬ 1 < p2)))) ∧ (p1 = 4) ∧ (p2 = 0)) ∨ (((((¬ p1 < 0) ∧ (¬ 4 < p1)))) ∧ ((((¬ p2 < 0) ∧ (¬ 1 < p2)))) ∧ (p1 = 4) ∧ (p2 = 1))))) (fun _ => []) := by
  refine CtI.of (cc := cX9_odds) (maxL := 5) (ty := .int) (own := RX9) (by decide) rfl (Nat.le_of_ble_eq_true rfl) rfl ?_
  intro p e s m below meth c A ls hx hb hr hml hts hown hlk hK hP hD hS hA hl
  have hl : lv_has ls 5 [(0, .ref a0), (1, .int p1), (2, .int p2)] := hl
  refine st0 (fun H locs hP hS => ?_) hP hS
  have hP : va_P D vwCl [(a0, .inr (9, [v0_0, v0_1, v0_2, v0_3, v0_4, v0_5, v0_6, v0_7, v0_8, v0_9, v0_10, v0_11, v0_12, v0_13, .ref a1, v0_15, v0_16, v0_17, v0_18, v0_19, v0_20, v0_21, v0_22, v0_23, v0_24, v0_25, v0_26, v0_27, v0_28, .int 0, v0_30, v0_31, v0_32, v0_33, v0_34, v0_35, v0_36, v0_37, v0_38, v0_39, v0_40, v0_41, v0_42, v0_43, v0_44, v0_45, v0_46, v0_47, v0_48, v0_49, v0_50, v0_51, v0_52, v0_53, v0_54, v0_55, v0_56, v0_57, v0_58, v0_59, v0_60, v0_61, v0_62, v0_63])), (a1, .inl (cy 0, 2, .inl zI))] H := hP
  have hD : va_D A [(a0, .inr (9, [v0_0, v0_1, v0_2, v0_3, v0_4, v0_5, v0_6, v0_7, v0_8, v0_9, v0_10, v0_11, v0_12, v0_13, .ref a1, v0_15, v0_16, v0_17, v0_18, v0_19, v0_20, v0_21, v0_22, v0_23, v0_24, v0_25, v0_26, v0_27, v0_28, .int 0, v0_30, v0_31, v0_32, v0_33, v0_34, v0_35, v0_36, v0_37, v0_38, v0_39, v0_40, v0_41, v0_42, v0_43, v0_44, v0_45, v0_46, v0_47, v0_48, v0_49, v0_50, v0_51, v0_52, v0_53, v0_54, v0_55, v0_56, v0_57, v0_58, v0_59, v0_60, v0_61, v0_62, v0_63])), (a1, .inl (cy 0, 2, .inl zI))] := hD
  refine lv_iload_n hx hb dX9_odds_0 rfl (lv_at hl 1 rfl) ?_
  refine lv_iconst (v := 0) hx hb dX9_odds_1 (by decide) ?_
  refine lv_iconst (v := 4) hx hb dX9_odds_2 (by decide) ?_
  refine clSI (As := [.int p1, .int 0, .int 4]) (rest := []) (wr := [(a0, .inr (9, [v0_0, v0_1, v0_2, v0_3, v0_4, v0_5, v0_6, v0_7, v0_8, v0_9, v0_10, v0_11, v0_12, v0_13, .ref a1, v0_15, v0_16, v0_17, v0_18, v0_19, v0_20, v0_21, v0_22, v0_23, v0_24, v0_25, v0_26, v0_27, v0_28, .int 0, v0_30, v0_31, v0_32, v0_33, v0_34, v0_35, v0_36, v0_37, v0_38, v0_39, v0_40, v0_41, v0_42, v0_43, v0_44, v0_45, v0_46, v0_47, v0_48, v0_49, v0_50, v0_51, v0_52, v0_53, v0_54, v0_55, v0_56, v0_57, v0_58, v0_59, v0_60, v0_61, v0_62, v0_63])), (a1, .inl (cy 0, 2, .inl zI))]) ⟨hx, hb, hml, hown, hts⟩ hK hP hD hS hA (k_X9_isIn_6 l D cy p1 _) (va_cwS 3 hts gX9_odds_X9_isIn rfl rfl rfl (by decide +kernel) ⟨Nat.le_of_ble_eq_true rfl, Nat.le_of_ble_eq_true rfl⟩) [] [0, 1] rfl rfl rfl rfl (by decide) rfl hl.1 rfl (Nat.le_of_ble_eq_true rfl) dX9_odds_3 ⟨Nat.le_of_ble_eq_true rfl, Nat.le_of_ble_eq_true rfl⟩ rfl rfl (fun r _ H locs hw hP hD hS => ?_)
  have hP : va_P D vwCl [(a0, .inr (9, [v0_0, v0_1, v0_2, v0_3, v0_4, v0_5, v0_6, v0_7, v0_8, v0_9, v0_10, v0_11, v0_12, v0_13, .ref a1, v0_15, v0_16, v0_17, v0_18, v0_19, v0_20, v0_21, v0_22, v0_23, v0_24, v0_25, v0_26, v0_27, v0_28, .int 0, v0_30, v0_31, v0_32, v0_33, v0_34, v0_35, v0_36, v0_37, v0_38, v0_39, v0_40, v0_41, v0_42, v0_43, v0_44, v0_45, v0_46, v0_47, v0_48, v0_49, v0_50, v0_51, v0_52, v0_53, v0_54, v0_55, v0_56, v0_57, v0_58, v0_59, v0_60, v0_61, v0_62, v0_63])), (a1, .inl (cy 0, 2, .inl zI))] H := hP
  have hD : va_D A [(a0, .inr (9, [v0_0, v0_1, v0_2, v0_3, v0_4, v0_5, v0_6, v0_7, v0_8, v0_9, v0_10, v0_11, v0_12, v0_13, .ref a1, v0_15, v0_16, v0_17, v0_18, v0_19, v0_20, v0_21, v0_22, v0_23, v0_24, v0_25, v0_26, v0_27, v0_28, .int 0, v0_30, v0_31, v0_32, v0_33, v0_34, v0_35, v0_36, v0_37, v0_38, v0_39, v0_40, v0_41, v0_42, v0_43, v0_44, v0_45, v0_46, v0_47, v0_48, v0_49, v0_50, v0_51, v0_52, v0_53, v0_54, v0_55, v0_56, v0_57, v0_58, v0_59, v0_60, v0_61, v0_62, v0_63])), (a1, .inl (cy 0, 2, .inl zI))] := hD
  rcases (show (r = 0 ∧ (((p1 < 0)) ∨ ((¬ p1 < 0) ∧ (4 < p1)))) ∨ (r = 1 ∧ (((¬ p1 < 0) ∧ (¬ 4 < p1)))) from hw) with ⟨rfl, c2⟩ | ⟨rfl, c2⟩
  · refine lv_if_eq (tgt := 18) hx hb dX9_odds_6 (by decide) (fun _ => ?_) (fun c => absurd (by decide) c)
    refine lv_iconst (v := (-1)) hx hb dX9_odds_18 (by decide) ?_
    exact rtI hx hb hr hlk rfl hP hD hS () [] rfl rfl (Or.inl ⟨rfl, (Or.inl c2)⟩) dX9_odds_19
  · refine lv_if_eq (tgt := 18) hx hb dX9_odds_6 (by decide) (fun c => absurd c (by decide)) (fun _ => ?_)
    refine lv_iload_n hx hb dX9_odds_9 rfl (lv_at hl 2 rfl) ?_
    refine lv_iconst (v := 0) hx hb dX9_odds_10 (by decide) ?_
    refine lv_iconst (v := 1) hx hb dX9_odds_11 (by decide) ?_
    refine clSI (As := [.int p2, .int 0, .int 1]) (rest := []) (wr := [(a0, .inr (9, [v0_0, v0_1, v0_2, v0_3, v0_4, v0_5, v0_6, v0_7, v0_8, v0_9, v0_10, v0_11, v0_12, v0_13, .ref a1, v0_15, v0_16, v0_17, v0_18, v0_19, v0_20, v0_21, v0_22, v0_23, v0_24, v0_25, v0_26, v0_27, v0_28, .int 0, v0_30, v0_31, v0_32, v0_33, v0_34, v0_35, v0_36, v0_37, v0_38, v0_39, v0_40, v0_41, v0_42, v0_43, v0_44, v0_45, v0_46, v0_47, v0_48, v0_49, v0_50, v0_51, v0_52, v0_53, v0_54, v0_55, v0_56, v0_57, v0_58, v0_59, v0_60, v0_61, v0_62, v0_63])), (a1, .inl (cy 0, 2, .inl zI))]) ⟨hx, hb, hml, hown, hts⟩ hK hP hD hS hA (k_X9_isIn_2 l D cy p2 _) (va_cwS 3 hts gX9_odds_X9_isIn rfl rfl rfl (by decide +kernel) ⟨Nat.le_of_ble_eq_true rfl, Nat.le_of_ble_eq_true rfl⟩) [] [0, 1] rfl rfl rfl rfl (by decide) rfl hl.1 rfl (Nat.le_of_ble_eq_true rfl) dX9_odds_12 ⟨Nat.le_of_ble_eq_true rfl, Nat.le_of_ble_eq_true rfl⟩ rfl rfl (fun r _ H locs hw hP hD hS => ?_)
    have hP : va_P D vwCl [(a0, .inr (9, [v0_0, v0_1, v0_2, v0_3, v0_4, v0_5, v0_6, v0_7, v0_8, v0_9, v0_10, v0_11, v0_12, v0_13, .ref a1, v0_15, v0_16, v0_17, v0_18, v0_19, v0_20, v0_21, v0_22, v0_23, v0_24, v0_25, v0_26, v0_27, v0_28, .int 0, v0_30, v0_31, v0_32, v0_33, v0_34, v0_35, v0_36, v0_37, v0_38, v0_39, v0_40, v0_41, v0_42, v0_43, v0_44, v0_45, v0_46, v0_47, v0_48, v0_49, v0_50, v0_51, v0_52, v0_53, v0_54, v0_55, v0_56, v0_57, v0_58, v0_59, v0_60, v0_61, v0_62, v0_63])), (a1, .inl (cy 0, 2, .inl zI))] H := hP
    have hD : va_D A [(a0, .inr (9, [v0_0, v0_1, v0_2, v0_3, v0_4, v0_5, v0_6, v0_7, v0_8, v0_9, v0_10, v0_11, v0_12, v0_13, .ref a1, v0_15, v0_16, v0_17, v0_18, v0_19, v0_20, v0_21, v0_22, v0_23, v0_24, v0_25, v0_26, v0_27, v0_28, .int 0, v0_30, v0_31, v0_32, v0_33, v0_34, v0_35, v0_36, v0_37, v0_38, v0_39, v0_40, v0_41, v0_42, v0_43, v0_44, v0_45, v0_46, v0_47, v0_48, v0_49, v0_50, v0_51, v0_52, v0_53, v0_54, v0_55, v0_56, v0_57, v0_58, v0_59, v0_60, v0_61, v0_62, v0_63])), (a1, .inl (cy 0, 2, .inl zI))] := hD
    rcases (show (r = 0 ∧ (((p2 < 0)) ∨ ((¬ p2 < 0) ∧ (1 < p2)))) ∨ (r = 1 ∧ (((¬ p2 < 0) ∧ (¬ 1 < p2)))) from hw) with ⟨rfl, c4⟩ | ⟨rfl, c4⟩
    · refine lv_if_ne (tgt := 20) hx hb dX9_odds_15 (by decide) (fun c => absurd (by decide) c) (fun _ => ?_)
      refine lv_iconst (v := (-1)) hx hb dX9_odds_18 (by decide) ?_
      exact rtI hx hb hr hlk rfl hP hD hS () [] rfl rfl (Or.inl ⟨rfl, (Or.inr ⟨c2, c4⟩)⟩) dX9_odds_19
    · refine lv_if_ne (tgt := 20) hx hb dX9_odds_15 (by decide) (fun _ => ?_) (fun c => absurd c (by decide))
      have hsp5 : p1 = 0 ∨ p1 = 1 ∨ p1 = 2 ∨ p1 = 3 ∨ p1 = 4 := by
        simp only [i_lt, i_le, i_eq, tl_m1, tl_0, tl_1, tl_2, tl_3, tl_4, tl_20, tl_60, tl_99, tl_1000, tl_100000] at c2 ⊢
        omega
      rcases hsp5 with rfl | rfl | rfl | rfl | rfl
      · have hsp6 : p2 = 0 ∨ p2 = 1 := by
          simp only [i_lt, i_le, i_eq, tl_m1, tl_0, tl_1, tl_2, tl_3, tl_4, tl_20, tl_60, tl_99, tl_1000, tl_100000] at c4 ⊢
          omega
        rcases hsp6 with rfl | rfl
        · refine lv_bipush (v := 100) hx hb dX9_odds_20 (by decide) ?_
          refine lv_aload_n hx hb dX9_odds_22 rfl (lv_at hl 0 rfl) ?_
          refine va_get (D := D) (cl := vwCl) (ci := 9) (v := .ref a1) (C := RX9) (T := TX9) (N := 64) hx hb hts in_X9_odds_X9 hown hK hP 0 rfl rfl 14 (by decide) (hts (.fieldLink RX9 30 "EightReasonsModel" "fray" "[I") (List.mem_of_getElem? (i := 1) (by decide +kernel))) (fun _ h9 => h9) rfl dX9_odds_23 ?_
          refine lv_aload_n hx hb dX9_odds_26 rfl (lv_at hl 0 rfl) ?_
          refine va_get (D := D) (cl := vwCl) (ci := 9) (v := .int 0) (C := RX9) (T := TX9) (N := 64) hx hb hts in_X9_odds_X9 hown hK hP 0 rfl rfl 29 (by decide) (hts (.fieldLink RX9 239 "EightReasonsModel" "bank" "I") (List.mem_of_getElem? (i := 2) (by decide +kernel))) (fun _ h9 => h9) rfl dX9_odds_27 ?_
          refine va_iald hx hb hK hP 1 0 rfl rfl (vin (by decide)) dX9_odds_30 (tpi (v := 0) rfl ?_)
          refine lv_isub hx hb dX9_odds_31 (tpi (v := 100) (by decide) ?_)
          refine lv_iload_n hx hb dX9_odds_32 rfl (lv_at hl 1 rfl) ?_
          refine clSI (As := [.int 100, .int 0]) (rest := []) (wr := [(a0, .inr (9, [v0_0, v0_1, v0_2, v0_3, v0_4, v0_5, v0_6, v0_7, v0_8, v0_9, v0_10, v0_11, v0_12, v0_13, .ref a1, v0_15, v0_16, v0_17, v0_18, v0_19, v0_20, v0_21, v0_22, v0_23, v0_24, v0_25, v0_26, v0_27, v0_28, .int 0, v0_30, v0_31, v0_32, v0_33, v0_34, v0_35, v0_36, v0_37, v0_38, v0_39, v0_40, v0_41, v0_42, v0_43, v0_44, v0_45, v0_46, v0_47, v0_48, v0_49, v0_50, v0_51, v0_52, v0_53, v0_54, v0_55, v0_56, v0_57, v0_58, v0_59, v0_60, v0_61, v0_62, v0_63])), (a1, .inl (cy 0, 2, .inl zI))]) ⟨hx, hb, hml, hown, hts⟩ hK hP hD hS hA (k_X9_raised_0 l D cy 100 _) (va_cwS 2 hts gX9_odds_X9_raised rfl rfl rfl (by decide +kernel) ⟨Nat.le_of_ble_eq_true rfl, Nat.le_of_ble_eq_true rfl⟩) [] [0, 1] rfl rfl rfl rfl (by decide) rfl hl.1 rfl (Nat.le_of_ble_eq_true rfl) dX9_odds_33 ⟨Nat.le_of_ble_eq_true rfl, Nat.le_of_ble_eq_true rfl⟩ rfl rfl (fun r _ H locs hw hP hD hS => ?_)
          have hP : va_P D vwCl [(a0, .inr (9, [v0_0, v0_1, v0_2, v0_3, v0_4, v0_5, v0_6, v0_7, v0_8, v0_9, v0_10, v0_11, v0_12, v0_13, .ref a1, v0_15, v0_16, v0_17, v0_18, v0_19, v0_20, v0_21, v0_22, v0_23, v0_24, v0_25, v0_26, v0_27, v0_28, .int 0, v0_30, v0_31, v0_32, v0_33, v0_34, v0_35, v0_36, v0_37, v0_38, v0_39, v0_40, v0_41, v0_42, v0_43, v0_44, v0_45, v0_46, v0_47, v0_48, v0_49, v0_50, v0_51, v0_52, v0_53, v0_54, v0_55, v0_56, v0_57, v0_58, v0_59, v0_60, v0_61, v0_62, v0_63])), (a1, .inl (cy 0, 2, .inl zI))] H := hP
          have hD : va_D A [(a0, .inr (9, [v0_0, v0_1, v0_2, v0_3, v0_4, v0_5, v0_6, v0_7, v0_8, v0_9, v0_10, v0_11, v0_12, v0_13, .ref a1, v0_15, v0_16, v0_17, v0_18, v0_19, v0_20, v0_21, v0_22, v0_23, v0_24, v0_25, v0_26, v0_27, v0_28, .int 0, v0_30, v0_31, v0_32, v0_33, v0_34, v0_35, v0_36, v0_37, v0_38, v0_39, v0_40, v0_41, v0_42, v0_43, v0_44, v0_45, v0_46, v0_47, v0_48, v0_49, v0_50, v0_51, v0_52, v0_53, v0_54, v0_55, v0_56, v0_57, v0_58, v0_59, v0_60, v0_61, v0_62, v0_63])), (a1, .inl (cy 0, 2, .inl zI))] := hD
          obtain rfl : r = 1 := hw
          refine lv_istore_n (lv' := [(3, .int 1), (0, .ref a0), (1, .int 0), (2, .int 0)]) hx hb dX9_odds_36 rfl hl (by decide) rfl (fun ls hl => ?_)
          refine lv_bipush (v := 100) hx hb dX9_odds_37 (by decide) ?_
          refine lv_iload_n hx hb dX9_odds_39 rfl (lv_at hl 2 rfl) ?_
          refine clSI (As := [.int 100, .int 0]) (rest := []) (wr := [(a0, .inr (9, [v0_0, v0_1, v0_2, v0_3, v0_4, v0_5, v0_6, v0_7, v0_8, v0_9, v0_10, v0_11, v0_12, v0_13, .ref a1, v0_15, v0_16, v0_17, v0_18, v0_19, v0_20, v0_21, v0_22, v0_23, v0_24, v0_25, v0_26, v0_27, v0_28, .int 0, v0_30, v0_31, v0_32, v0_33, v0_34, v0_35, v0_36, v0_37, v0_38, v0_39, v0_40, v0_41, v0_42, v0_43, v0_44, v0_45, v0_46, v0_47, v0_48, v0_49, v0_50, v0_51, v0_52, v0_53, v0_54, v0_55, v0_56, v0_57, v0_58, v0_59, v0_60, v0_61, v0_62, v0_63])), (a1, .inl (cy 0, 2, .inl zI))]) ⟨hx, hb, hml, hown, hts⟩ hK hP hD hS hA (k_X9_raised_0 l D cy 100 _) (va_cwS 2 hts gX9_odds_X9_raised rfl rfl rfl (by decide +kernel) ⟨Nat.le_of_ble_eq_true rfl, Nat.le_of_ble_eq_true rfl⟩) [] [0, 1] rfl rfl rfl rfl (by decide) rfl hl.1 rfl (Nat.le_of_ble_eq_true rfl) dX9_odds_40 ⟨Nat.le_of_ble_eq_true rfl, Nat.le_of_ble_eq_true rfl⟩ rfl rfl (fun r _ H locs hw hP hD hS => ?_)
          have hP : va_P D vwCl [(a0, .inr (9, [v0_0, v0_1, v0_2, v0_3, v0_4, v0_5, v0_6, v0_7, v0_8, v0_9, v0_10, v0_11, v0_12, v0_13, .ref a1, v0_15, v0_16, v0_17, v0_18, v0_19, v0_20, v0_21, v0_22, v0_23, v0_24, v0_25, v0_26, v0_27, v0_28, .int 0, v0_30, v0_31, v0_32, v0_33, v0_34, v0_35, v0_36, v0_37, v0_38, v0_39, v0_40, v0_41, v0_42, v0_43, v0_44, v0_45, v0_46, v0_47, v0_48, v0_49, v0_50, v0_51, v0_52, v0_53, v0_54, v0_55, v0_56, v0_57, v0_58, v0_59, v0_60, v0_61, v0_62, v0_63])), (a1, .inl (cy 0, 2, .inl zI))] H := hP
          have hD : va_D A [(a0, .inr (9, [v0_0, v0_1, v0_2, v0_3, v0_4, v0_5, v0_6, v0_7, v0_8, v0_9, v0_10, v0_11, v0_12, v0_13, .ref a1, v0_15, v0_16, v0_17, v0_18, v0_19, v0_20, v0_21, v0_22, v0_23, v0_24, v0_25, v0_26, v0_27, v0_28, .int 0, v0_30, v0_31, v0_32, v0_33, v0_34, v0_35, v0_36, v0_37, v0_38, v0_39, v0_40, v0_41, v0_42, v0_43, v0_44, v0_45, v0_46, v0_47, v0_48, v0_49, v0_50, v0_51, v0_52, v0_53, v0_54, v0_55, v0_56, v0_57, v0_58, v0_59, v0_60, v0_61, v0_62, v0_63])), (a1, .inl (cy 0, 2, .inl zI))] := hD
          obtain rfl : r = 1 := hw
          refine lv_istore (lv' := [(4, .int 1), (3, .int 1), (0, .ref a0), (1, .int 0), (2, .int 0)]) hx hb dX9_odds_43 hl (by decide) rfl (fun ls hl => ?_)
          refine lv_iload_n hx hb dX9_odds_45 rfl (lv_at hl 4 rfl) ?_
          refine lv_if_ne (tgt := 53) hx hb dX9_odds_46 (by decide) (fun c => absurd (by decide) c) (fun _ => ?_)
          refine lv_iload_n hx hb dX9_odds_49 rfl (lv_at hl 1 rfl) ?_
          refine lv_goto (tgt := 55) hx hb dX9_odds_50 (by decide) ?_
          refine lv_iload hx hb dX9_odds_55 (lv_at hl 0 rfl) ?_
          refine lv_iload_n hx hb dX9_odds_57 rfl (lv_at hl 1 rfl) ?_
          refine clSI (As := [.int 1, .int 1]) (rest := [.int 1]) (wr := [(a0, .inr (9, [v0_0, v0_1, v0_2, v0_3, v0_4, v0_5, v0_6, v0_7, v0_8, v0_9, v0_10, v0_11, v0_12, v0_13, .ref a1, v0_15, v0_16, v0_17, v0_18, v0_19, v0_20, v0_21, v0_22, v0_23, v0_24, v0_25, v0_26, v0_27, v0_28, .int 0, v0_30, v0_31, v0_32, v0_33, v0_34, v0_35, v0_36, v0_37, v0_38, v0_39, v0_40, v0_41, v0_42, v0_43, v0_44, v0_45, v0_46, v0_47, v0_48, v0_49, v0_50, v0_51, v0_52, v0_53, v0_54, v0_55, v0_56, v0_57, v0_58, v0_59, v0_60, v0_61, v0_62, v0_63])), (a1, .inl (cy 0, 2, .inl zI))]) ⟨hx, hb, hml, hown, hts⟩ hK hP hD hS hA (k_X9_divisor_0 l D cy _) (va_cwS 2 hts gX9_odds_X9_divisor rfl rfl rfl (by decide +kernel) ⟨Nat.le_of_ble_eq_true rfl, Nat.le_of_ble_eq_true rfl⟩) [] [0, 1] rfl rfl rfl rfl (by decide) rfl hl.1 rfl (Nat.le_of_ble_eq_true rfl) dX9_odds_58 ⟨Nat.le_of_ble_eq_true rfl, Nat.le_of_ble_eq_true rfl⟩ rfl rfl (fun r _ H locs hw hP hD hS => ?_)
          have hP : va_P D vwCl [(a0, .inr (9, [v0_0, v0_1, v0_2, v0_3, v0_4, v0_5, v0_6, v0_7, v0_8, v0_9, v0_10, v0_11, v0_12, v0_13, .ref a1, v0_15, v0_16, v0_17, v0_18, v0_19, v0_20, v0_21, v0_22, v0_23, v0_24, v0_25, v0_26, v0_27, v0_28, .int 0, v0_30, v0_31, v0_32, v0_33, v0_34, v0_35, v0_36, v0_37, v0_38, v0_39, v0_40, v0_41, v0_42, v0_43, v0_44, v0_45, v0_46, v0_47, v0_48, v0_49, v0_50, v0_51, v0_52, v0_53, v0_54, v0_55, v0_56, v0_57, v0_58, v0_59, v0_60, v0_61, v0_62, v0_63])), (a1, .inl (cy 0, 2, .inl zI))] H := hP
          have hD : va_D A [(a0, .inr (9, [v0_0, v0_1, v0_2, v0_3, v0_4, v0_5, v0_6, v0_7, v0_8, v0_9, v0_10, v0_11, v0_12, v0_13, .ref a1, v0_15, v0_16, v0_17, v0_18, v0_19, v0_20, v0_21, v0_22, v0_23, v0_24, v0_25, v0_26, v0_27, v0_28, .int 0, v0_30, v0_31, v0_32, v0_33, v0_34, v0_35, v0_36, v0_37, v0_38, v0_39, v0_40, v0_41, v0_42, v0_43, v0_44, v0_45, v0_46, v0_47, v0_48, v0_49, v0_50, v0_51, v0_52, v0_53, v0_54, v0_55, v0_56, v0_57, v0_58, v0_59, v0_60, v0_61, v0_62, v0_63])), (a1, .inl (cy 0, 2, .inl zI))] := hD
          obtain rfl : r = 1 := hw
          refine lv_idiv hx hb dX9_odds_61 (by decide) (tpi (v := 1) (by decide) ?_)
          exact rtI hx hb hr hlk rfl hP hD hS () [] rfl rfl (Or.inr ⟨rfl, (Or.inl ⟨c2, c4, rfl, rfl⟩)⟩) dX9_odds_62
        · refine lv_bipush (v := 100) hx hb dX9_odds_20 (by decide) ?_
          refine lv_aload_n hx hb dX9_odds_22 rfl (lv_at hl 0 rfl) ?_
          refine va_get (D := D) (cl := vwCl) (ci := 9) (v := .ref a1) (C := RX9) (T := TX9) (N := 64) hx hb hts in_X9_odds_X9 hown hK hP 0 rfl rfl 14 (by decide) (hts (.fieldLink RX9 30 "EightReasonsModel" "fray" "[I") (List.mem_of_getElem? (i := 1) (by decide +kernel))) (fun _ h9 => h9) rfl dX9_odds_23 ?_
          refine lv_aload_n hx hb dX9_odds_26 rfl (lv_at hl 0 rfl) ?_
          refine va_get (D := D) (cl := vwCl) (ci := 9) (v := .int 0) (C := RX9) (T := TX9) (N := 64) hx hb hts in_X9_odds_X9 hown hK hP 0 rfl rfl 29 (by decide) (hts (.fieldLink RX9 239 "EightReasonsModel" "bank" "I") (List.mem_of_getElem? (i := 2) (by decide +kernel))) (fun _ h9 => h9) rfl dX9_odds_27 ?_
          refine va_iald hx hb hK hP 1 0 rfl rfl (vin (by decide)) dX9_odds_30 (tpi (v := 0) rfl ?_)
          refine lv_isub hx hb dX9_odds_31 (tpi (v := 100) (by decide) ?_)
          refine lv_iload_n hx hb dX9_odds_32 rfl (lv_at hl 1 rfl) ?_
          refine clSI (As := [.int 100, .int 0]) (rest := []) (wr := [(a0, .inr (9, [v0_0, v0_1, v0_2, v0_3, v0_4, v0_5, v0_6, v0_7, v0_8, v0_9, v0_10, v0_11, v0_12, v0_13, .ref a1, v0_15, v0_16, v0_17, v0_18, v0_19, v0_20, v0_21, v0_22, v0_23, v0_24, v0_25, v0_26, v0_27, v0_28, .int 0, v0_30, v0_31, v0_32, v0_33, v0_34, v0_35, v0_36, v0_37, v0_38, v0_39, v0_40, v0_41, v0_42, v0_43, v0_44, v0_45, v0_46, v0_47, v0_48, v0_49, v0_50, v0_51, v0_52, v0_53, v0_54, v0_55, v0_56, v0_57, v0_58, v0_59, v0_60, v0_61, v0_62, v0_63])), (a1, .inl (cy 0, 2, .inl zI))]) ⟨hx, hb, hml, hown, hts⟩ hK hP hD hS hA (k_X9_raised_0 l D cy 100 _) (va_cwS 2 hts gX9_odds_X9_raised rfl rfl rfl (by decide +kernel) ⟨Nat.le_of_ble_eq_true rfl, Nat.le_of_ble_eq_true rfl⟩) [] [0, 1] rfl rfl rfl rfl (by decide) rfl hl.1 rfl (Nat.le_of_ble_eq_true rfl) dX9_odds_33 ⟨Nat.le_of_ble_eq_true rfl, Nat.le_of_ble_eq_true rfl⟩ rfl rfl (fun r _ H locs hw hP hD hS => ?_)
          have hP : va_P D vwCl [(a0, .inr (9, [v0_0, v0_1, v0_2, v0_3, v0_4, v0_5, v0_6, v0_7, v0_8, v0_9, v0_10, v0_11, v0_12, v0_13, .ref a1, v0_15, v0_16, v0_17, v0_18, v0_19, v0_20, v0_21, v0_22, v0_23, v0_24, v0_25, v0_26, v0_27, v0_28, .int 0, v0_30, v0_31, v0_32, v0_33, v0_34, v0_35, v0_36, v0_37, v0_38, v0_39, v0_40, v0_41, v0_42, v0_43, v0_44, v0_45, v0_46, v0_47, v0_48, v0_49, v0_50, v0_51, v0_52, v0_53, v0_54, v0_55, v0_56, v0_57, v0_58, v0_59, v0_60, v0_61, v0_62, v0_63])), (a1, .inl (cy 0, 2, .inl zI))] H := hP
          have hD : va_D A [(a0, .inr (9, [v0_0, v0_1, v0_2, v0_3, v0_4, v0_5, v0_6, v0_7, v0_8, v0_9, v0_10, v0_11, v0_12, v0_13, .ref a1, v0_15, v0_16, v0_17, v0_18, v0_19, v0_20, v0_21, v0_22, v0_23, v0_24, v0_25, v0_26, v0_27, v0_28, .int 0, v0_30, v0_31, v0_32, v0_33, v0_34, v0_35, v0_36, v0_37, v0_38, v0_39, v0_40, v0_41, v0_42, v0_43, v0_44, v0_45, v0_46, v0_47, v0_48, v0_49, v0_50, v0_51, v0_52, v0_53, v0_54, v0_55, v0_56, v0_57, v0_58, v0_59, v0_60, v0_61, v0_62, v0_63])), (a1, .inl (cy 0, 2, .inl zI))] := hD
          obtain rfl : r = 1 := hw
          refine lv_istore_n (lv' := [(3, .int 1), (0, .ref a0), (1, .int 0), (2, .int 1)]) hx hb dX9_odds_36 rfl hl (by decide) rfl (fun ls hl => ?_)
          refine lv_bipush (v := 100) hx hb dX9_odds_37 (by decide) ?_
          refine lv_iload_n hx hb dX9_odds_39 rfl (lv_at hl 2 rfl) ?_
          refine clSI (As := [.int 100, .int 0]) (rest := []) (wr := [(a0, .inr (9, [v0_0, v0_1, v0_2, v0_3, v0_4, v0_5, v0_6, v0_7, v0_8, v0_9, v0_10, v0_11, v0_12, v0_13, .ref a1, v0_15, v0_16, v0_17, v0_18, v0_19, v0_20, v0_21, v0_22, v0_23, v0_24, v0_25, v0_26, v0_27, v0_28, .int 0, v0_30, v0_31, v0_32, v0_33, v0_34, v0_35, v0_36, v0_37, v0_38, v0_39, v0_40, v0_41, v0_42, v0_43, v0_44, v0_45, v0_46, v0_47, v0_48, v0_49, v0_50, v0_51, v0_52, v0_53, v0_54, v0_55, v0_56, v0_57, v0_58, v0_59, v0_60, v0_61, v0_62, v0_63])), (a1, .inl (cy 0, 2, .inl zI))]) ⟨hx, hb, hml, hown, hts⟩ hK hP hD hS hA (k_X9_raised_0 l D cy 100 _) (va_cwS 2 hts gX9_odds_X9_raised rfl rfl rfl (by decide +kernel) ⟨Nat.le_of_ble_eq_true rfl, Nat.le_of_ble_eq_true rfl⟩) [] [0, 1] rfl rfl rfl rfl (by decide) rfl hl.1 rfl (Nat.le_of_ble_eq_true rfl) dX9_odds_40 ⟨Nat.le_of_ble_eq_true rfl, Nat.le_of_ble_eq_true rfl⟩ rfl rfl (fun r _ H locs hw hP hD hS => ?_)
          have hP : va_P D vwCl [(a0, .inr (9, [v0_0, v0_1, v0_2, v0_3, v0_4, v0_5, v0_6, v0_7, v0_8, v0_9, v0_10, v0_11, v0_12, v0_13, .ref a1, v0_15, v0_16, v0_17, v0_18, v0_19, v0_20, v0_21, v0_22, v0_23, v0_24, v0_25, v0_26, v0_27, v0_28, .int 0, v0_30, v0_31, v0_32, v0_33, v0_34, v0_35, v0_36, v0_37, v0_38, v0_39, v0_40, v0_41, v0_42, v0_43, v0_44, v0_45, v0_46, v0_47, v0_48, v0_49, v0_50, v0_51, v0_52, v0_53, v0_54, v0_55, v0_56, v0_57, v0_58, v0_59, v0_60, v0_61, v0_62, v0_63])), (a1, .inl (cy 0, 2, .inl zI))] H := hP
          have hD : va_D A [(a0, .inr (9, [v0_0, v0_1, v0_2, v0_3, v0_4, v0_5, v0_6, v0_7, v0_8, v0_9, v0_10, v0_11, v0_12, v0_13, .ref a1, v0_15, v0_16, v0_17, v0_18, v0_19, v0_20, v0_21, v0_22, v0_23, v0_24, v0_25, v0_26, v0_27, v0_28, .int 0, v0_30, v0_31, v0_32, v0_33, v0_34, v0_35, v0_36, v0_37, v0_38, v0_39, v0_40, v0_41, v0_42, v0_43, v0_44, v0_45, v0_46, v0_47, v0_48, v0_49, v0_50, v0_51, v0_52, v0_53, v0_54, v0_55, v0_56, v0_57, v0_58, v0_59, v0_60, v0_61, v0_62, v0_63])), (a1, .inl (cy 0, 2, .inl zI))] := hD
          obtain rfl : r = 1 := hw
          refine lv_istore (lv' := [(4, .int 1), (3, .int 1), (0, .ref a0), (1, .int 0), (2, .int 1)]) hx hb dX9_odds_43 hl (by decide) rfl (fun ls hl => ?_)
          refine lv_iload_n hx hb dX9_odds_45 rfl (lv_at hl 4 rfl) ?_
          refine lv_if_ne (tgt := 53) hx hb dX9_odds_46 (by decide) (fun _ => ?_) (fun c => absurd c (by decide))
          refine lv_iload hx hb dX9_odds_53 (lv_at hl 0 rfl) ?_
          refine lv_iload hx hb dX9_odds_55 (lv_at hl 0 rfl) ?_
          refine lv_iload_n hx hb dX9_odds_57 rfl (lv_at hl 1 rfl) ?_
          refine clSI (As := [.int 1, .int 1]) (rest := [.int 1]) (wr := [(a0, .inr (9, [v0_0, v0_1, v0_2, v0_3, v0_4, v0_5, v0_6, v0_7, v0_8, v0_9, v0_10, v0_11, v0_12, v0_13, .ref a1, v0_15, v0_16, v0_17, v0_18, v0_19, v0_20, v0_21, v0_22, v0_23, v0_24, v0_25, v0_26, v0_27, v0_28, .int 0, v0_30, v0_31, v0_32, v0_33, v0_34, v0_35, v0_36, v0_37, v0_38, v0_39, v0_40, v0_41, v0_42, v0_43, v0_44, v0_45, v0_46, v0_47, v0_48, v0_49, v0_50, v0_51, v0_52, v0_53, v0_54, v0_55, v0_56, v0_57, v0_58, v0_59, v0_60, v0_61, v0_62, v0_63])), (a1, .inl (cy 0, 2, .inl zI))]) ⟨hx, hb, hml, hown, hts⟩ hK hP hD hS hA (k_X9_divisor_0 l D cy _) (va_cwS 2 hts gX9_odds_X9_divisor rfl rfl rfl (by decide +kernel) ⟨Nat.le_of_ble_eq_true rfl, Nat.le_of_ble_eq_true rfl⟩) [] [0, 1] rfl rfl rfl rfl (by decide) rfl hl.1 rfl (Nat.le_of_ble_eq_true rfl) dX9_odds_58 ⟨Nat.le_of_ble_eq_true rfl, Nat.le_of_ble_eq_true rfl⟩ rfl rfl (fun r _ H locs hw hP hD hS => ?_)
          have hP : va_P D vwCl [(a0, .inr (9, [v0_0, v0_1, v0_2, v0_3, v0_4, v0_5, v0_6, v0_7, v0_8, v0_9, v0_10, v0_11, v0_12, v0_13, .ref a1, v0_15, v0_16, v0_17, v0_18, v0_19, v0_20, v0_21, v0_22, v0_23, v0_24, v0_25, v0_26, v0_27, v0_28, .int 0, v0_30, v0_31, v0_32, v0_33, v0_34, v0_35, v0_36, v0_37, v0_38, v0_39, v0_40, v0_41, v0_42, v0_43, v0_44, v0_45, v0_46, v0_47, v0_48, v0_49, v0_50, v0_51, v0_52, v0_53, v0_54, v0_55, v0_56, v0_57, v0_58, v0_59, v0_60, v0_61, v0_62, v0_63])), (a1, .inl (cy 0, 2, .inl zI))] H := hP
          have hD : va_D A [(a0, .inr (9, [v0_0, v0_1, v0_2, v0_3, v0_4, v0_5, v0_6, v0_7, v0_8, v0_9, v0_10, v0_11, v0_12, v0_13, .ref a1, v0_15, v0_16, v0_17, v0_18, v0_19, v0_20, v0_21, v0_22, v0_23, v0_24, v0_25, v0_26, v0_27, v0_28, .int 0, v0_30, v0_31, v0_32, v0_33, v0_34, v0_35, v0_36, v0_37, v0_38, v0_39, v0_40, v0_41, v0_42, v0_43, v0_44, v0_45, v0_46, v0_47, v0_48, v0_49, v0_50, v0_51, v0_52, v0_53, v0_54, v0_55, v0_56, v0_57, v0_58, v0_59, v0_60, v0_61, v0_62, v0_63])), (a1, .inl (cy 0, 2, .inl zI))] := hD
          obtain rfl : r = 1 := hw
          refine lv_idiv hx hb dX9_odds_61 (by decide) (tpi (v := 1) (by decide) ?_)
          exact rtI hx hb hr hlk rfl hP hD hS () [] rfl rfl (Or.inr ⟨rfl, (Or.inr (Or.inl ⟨c2, c4, rfl, rfl⟩))⟩) dX9_odds_62
      · have hsp13 : p2 = 0 ∨ p2 = 1 := by
          simp only [i_lt, i_le, i_eq, tl_m1, tl_0, tl_1, tl_2, tl_3, tl_4, tl_20, tl_60, tl_99, tl_1000, tl_100000] at c4 ⊢
          omega
        rcases hsp13 with rfl | rfl
        · refine lv_bipush (v := 100) hx hb dX9_odds_20 (by decide) ?_
          refine lv_aload_n hx hb dX9_odds_22 rfl (lv_at hl 0 rfl) ?_
          refine va_get (D := D) (cl := vwCl) (ci := 9) (v := .ref a1) (C := RX9) (T := TX9) (N := 64) hx hb hts in_X9_odds_X9 hown hK hP 0 rfl rfl 14 (by decide) (hts (.fieldLink RX9 30 "EightReasonsModel" "fray" "[I") (List.mem_of_getElem? (i := 1) (by decide +kernel))) (fun _ h9 => h9) rfl dX9_odds_23 ?_
          refine lv_aload_n hx hb dX9_odds_26 rfl (lv_at hl 0 rfl) ?_
          refine va_get (D := D) (cl := vwCl) (ci := 9) (v := .int 0) (C := RX9) (T := TX9) (N := 64) hx hb hts in_X9_odds_X9 hown hK hP 0 rfl rfl 29 (by decide) (hts (.fieldLink RX9 239 "EightReasonsModel" "bank" "I") (List.mem_of_getElem? (i := 2) (by decide +kernel))) (fun _ h9 => h9) rfl dX9_odds_27 ?_
          refine va_iald hx hb hK hP 1 0 rfl rfl (vin (by decide)) dX9_odds_30 (tpi (v := 0) rfl ?_)
          refine lv_isub hx hb dX9_odds_31 (tpi (v := 100) (by decide) ?_)
          refine lv_iload_n hx hb dX9_odds_32 rfl (lv_at hl 1 rfl) ?_
          refine clSI (As := [.int 100, .int 1]) (rest := []) (wr := [(a0, .inr (9, [v0_0, v0_1, v0_2, v0_3, v0_4, v0_5, v0_6, v0_7, v0_8, v0_9, v0_10, v0_11, v0_12, v0_13, .ref a1, v0_15, v0_16, v0_17, v0_18, v0_19, v0_20, v0_21, v0_22, v0_23, v0_24, v0_25, v0_26, v0_27, v0_28, .int 0, v0_30, v0_31, v0_32, v0_33, v0_34, v0_35, v0_36, v0_37, v0_38, v0_39, v0_40, v0_41, v0_42, v0_43, v0_44, v0_45, v0_46, v0_47, v0_48, v0_49, v0_50, v0_51, v0_52, v0_53, v0_54, v0_55, v0_56, v0_57, v0_58, v0_59, v0_60, v0_61, v0_62, v0_63])), (a1, .inl (cy 0, 2, .inl zI))]) ⟨hx, hb, hml, hown, hts⟩ hK hP hD hS hA (k_X9_raised_1 l D cy _) (va_cwS 2 hts gX9_odds_X9_raised rfl rfl rfl (by decide +kernel) ⟨Nat.le_of_ble_eq_true rfl, Nat.le_of_ble_eq_true rfl⟩) [] [0, 1] rfl rfl rfl rfl (by decide) rfl hl.1 rfl (Nat.le_of_ble_eq_true rfl) dX9_odds_33 ⟨Nat.le_of_ble_eq_true rfl, Nat.le_of_ble_eq_true rfl⟩ rfl rfl (fun r _ H locs hw hP hD hS => ?_)
          have hP : va_P D vwCl [(a0, .inr (9, [v0_0, v0_1, v0_2, v0_3, v0_4, v0_5, v0_6, v0_7, v0_8, v0_9, v0_10, v0_11, v0_12, v0_13, .ref a1, v0_15, v0_16, v0_17, v0_18, v0_19, v0_20, v0_21, v0_22, v0_23, v0_24, v0_25, v0_26, v0_27, v0_28, .int 0, v0_30, v0_31, v0_32, v0_33, v0_34, v0_35, v0_36, v0_37, v0_38, v0_39, v0_40, v0_41, v0_42, v0_43, v0_44, v0_45, v0_46, v0_47, v0_48, v0_49, v0_50, v0_51, v0_52, v0_53, v0_54, v0_55, v0_56, v0_57, v0_58, v0_59, v0_60, v0_61, v0_62, v0_63])), (a1, .inl (cy 0, 2, .inl zI))] H := hP
          have hD : va_D A [(a0, .inr (9, [v0_0, v0_1, v0_2, v0_3, v0_4, v0_5, v0_6, v0_7, v0_8, v0_9, v0_10, v0_11, v0_12, v0_13, .ref a1, v0_15, v0_16, v0_17, v0_18, v0_19, v0_20, v0_21, v0_22, v0_23, v0_24, v0_25, v0_26, v0_27, v0_28, .int 0, v0_30, v0_31, v0_32, v0_33, v0_34, v0_35, v0_36, v0_37, v0_38, v0_39, v0_40, v0_41, v0_42, v0_43, v0_44, v0_45, v0_46, v0_47, v0_48, v0_49, v0_50, v0_51, v0_52, v0_53, v0_54, v0_55, v0_56, v0_57, v0_58, v0_59, v0_60, v0_61, v0_62, v0_63])), (a1, .inl (cy 0, 2, .inl zI))] := hD
          obtain rfl : r = 100 := hw
          refine lv_istore_n (lv' := [(3, .int 100), (0, .ref a0), (1, .int 1), (2, .int 0)]) hx hb dX9_odds_36 rfl hl (by decide) rfl (fun ls hl => ?_)
          refine lv_bipush (v := 100) hx hb dX9_odds_37 (by decide) ?_
          refine lv_iload_n hx hb dX9_odds_39 rfl (lv_at hl 2 rfl) ?_
          refine clSI (As := [.int 100, .int 1]) (rest := []) (wr := [(a0, .inr (9, [v0_0, v0_1, v0_2, v0_3, v0_4, v0_5, v0_6, v0_7, v0_8, v0_9, v0_10, v0_11, v0_12, v0_13, .ref a1, v0_15, v0_16, v0_17, v0_18, v0_19, v0_20, v0_21, v0_22, v0_23, v0_24, v0_25, v0_26, v0_27, v0_28, .int 0, v0_30, v0_31, v0_32, v0_33, v0_34, v0_35, v0_36, v0_37, v0_38, v0_39, v0_40, v0_41, v0_42, v0_43, v0_44, v0_45, v0_46, v0_47, v0_48, v0_49, v0_50, v0_51, v0_52, v0_53, v0_54, v0_55, v0_56, v0_57, v0_58, v0_59, v0_60, v0_61, v0_62, v0_63])), (a1, .inl (cy 0, 2, .inl zI))]) ⟨hx, hb, hml, hown, hts⟩ hK hP hD hS hA (k_X9_raised_1 l D cy _) (va_cwS 2 hts gX9_odds_X9_raised rfl rfl rfl (by decide +kernel) ⟨Nat.le_of_ble_eq_true rfl, Nat.le_of_ble_eq_true rfl⟩) [] [0, 1] rfl rfl rfl rfl (by decide) rfl hl.1 rfl (Nat.le_of_ble_eq_true rfl) dX9_odds_40 ⟨Nat.le_of_ble_eq_true rfl, Nat.le_of_ble_eq_true rfl⟩ rfl rfl (fun r _ H locs hw hP hD hS => ?_)
          have hP : va_P D vwCl [(a0, .inr (9, [v0_0, v0_1, v0_2, v0_3, v0_4, v0_5, v0_6, v0_7, v0_8, v0_9, v0_10, v0_11, v0_12, v0_13, .ref a1, v0_15, v0_16, v0_17, v0_18, v0_19, v0_20, v0_21, v0_22, v0_23, v0_24, v0_25, v0_26, v0_27, v0_28, .int 0, v0_30, v0_31, v0_32, v0_33, v0_34, v0_35, v0_36, v0_37, v0_38, v0_39, v0_40, v0_41, v0_42, v0_43, v0_44, v0_45, v0_46, v0_47, v0_48, v0_49, v0_50, v0_51, v0_52, v0_53, v0_54, v0_55, v0_56, v0_57, v0_58, v0_59, v0_60, v0_61, v0_62, v0_63])), (a1, .inl (cy 0, 2, .inl zI))] H := hP
          have hD : va_D A [(a0, .inr (9, [v0_0, v0_1, v0_2, v0_3, v0_4, v0_5, v0_6, v0_7, v0_8, v0_9, v0_10, v0_11, v0_12, v0_13, .ref a1, v0_15, v0_16, v0_17, v0_18, v0_19, v0_20, v0_21, v0_22, v0_23, v0_24, v0_25, v0_26, v0_27, v0_28, .int 0, v0_30, v0_31, v0_32, v0_33, v0_34, v0_35, v0_36, v0_37, v0_38, v0_39, v0_40, v0_41, v0_42, v0_43, v0_44, v0_45, v0_46, v0_47, v0_48, v0_49, v0_50, v0_51, v0_52, v0_53, v0_54, v0_55, v0_56, v0_57, v0_58, v0_59, v0_60, v0_61, v0_62, v0_63])), (a1, .inl (cy 0, 2, .inl zI))] := hD
          obtain rfl : r = 100 := hw
          refine lv_istore (lv' := [(4, .int 100), (3, .int 100), (0, .ref a0), (1, .int 1), (2, .int 0)]) hx hb dX9_odds_43 hl (by decide) rfl (fun ls hl => ?_)
          refine lv_iload_n hx hb dX9_odds_45 rfl (lv_at hl 4 rfl) ?_
          refine lv_if_ne (tgt := 53) hx hb dX9_odds_46 (by decide) (fun c => absurd (by decide) c) (fun _ => ?_)
          refine lv_iload_n hx hb dX9_odds_49 rfl (lv_at hl 1 rfl) ?_
          refine lv_goto (tgt := 55) hx hb dX9_odds_50 (by decide) ?_
          refine lv_iload hx hb dX9_odds_55 (lv_at hl 0 rfl) ?_
          refine lv_iload_n hx hb dX9_odds_57 rfl (lv_at hl 1 rfl) ?_
          refine clSI (As := [.int 100, .int 100]) (rest := [.int 100]) (wr := [(a0, .inr (9, [v0_0, v0_1, v0_2, v0_3, v0_4, v0_5, v0_6, v0_7, v0_8, v0_9, v0_10, v0_11, v0_12, v0_13, .ref a1, v0_15, v0_16, v0_17, v0_18, v0_19, v0_20, v0_21, v0_22, v0_23, v0_24, v0_25, v0_26, v0_27, v0_28, .int 0, v0_30, v0_31, v0_32, v0_33, v0_34, v0_35, v0_36, v0_37, v0_38, v0_39, v0_40, v0_41, v0_42, v0_43, v0_44, v0_45, v0_46, v0_47, v0_48, v0_49, v0_50, v0_51, v0_52, v0_53, v0_54, v0_55, v0_56, v0_57, v0_58, v0_59, v0_60, v0_61, v0_62, v0_63])), (a1, .inl (cy 0, 2, .inl zI))]) ⟨hx, hb, hml, hown, hts⟩ hK hP hD hS hA (k_X9_divisor_1 l D cy _) (va_cwS 2 hts gX9_odds_X9_divisor rfl rfl rfl (by decide +kernel) ⟨Nat.le_of_ble_eq_true rfl, Nat.le_of_ble_eq_true rfl⟩) [] [0, 1] rfl rfl rfl rfl (by decide) rfl hl.1 rfl (Nat.le_of_ble_eq_true rfl) dX9_odds_58 ⟨Nat.le_of_ble_eq_true rfl, Nat.le_of_ble_eq_true rfl⟩ rfl rfl (fun r _ H locs hw hP hD hS => ?_)
          have hP : va_P D vwCl [(a0, .inr (9, [v0_0, v0_1, v0_2, v0_3, v0_4, v0_5, v0_6, v0_7, v0_8, v0_9, v0_10, v0_11, v0_12, v0_13, .ref a1, v0_15, v0_16, v0_17, v0_18, v0_19, v0_20, v0_21, v0_22, v0_23, v0_24, v0_25, v0_26, v0_27, v0_28, .int 0, v0_30, v0_31, v0_32, v0_33, v0_34, v0_35, v0_36, v0_37, v0_38, v0_39, v0_40, v0_41, v0_42, v0_43, v0_44, v0_45, v0_46, v0_47, v0_48, v0_49, v0_50, v0_51, v0_52, v0_53, v0_54, v0_55, v0_56, v0_57, v0_58, v0_59, v0_60, v0_61, v0_62, v0_63])), (a1, .inl (cy 0, 2, .inl zI))] H := hP
          have hD : va_D A [(a0, .inr (9, [v0_0, v0_1, v0_2, v0_3, v0_4, v0_5, v0_6, v0_7, v0_8, v0_9, v0_10, v0_11, v0_12, v0_13, .ref a1, v0_15, v0_16, v0_17, v0_18, v0_19, v0_20, v0_21, v0_22, v0_23, v0_24, v0_25, v0_26, v0_27, v0_28, .int 0, v0_30, v0_31, v0_32, v0_33, v0_34, v0_35, v0_36, v0_37, v0_38, v0_39, v0_40, v0_41, v0_42, v0_43, v0_44, v0_45, v0_46, v0_47, v0_48, v0_49, v0_50, v0_51, v0_52, v0_53, v0_54, v0_55, v0_56, v0_57, v0_58, v0_59, v0_60, v0_61, v0_62, v0_63])), (a1, .inl (cy 0, 2, .inl zI))] := hD
          obtain rfl : r = 100 := hw
          refine lv_idiv hx hb dX9_odds_61 (by decide) (tpi (v := 1) (by decide) ?_)
          exact rtI hx hb hr hlk rfl hP hD hS () [] rfl rfl (Or.inr ⟨rfl, (Or.inr (Or.inr (Or.inl ⟨c2, c4, rfl, rfl⟩)))⟩) dX9_odds_62
        · refine lv_bipush (v := 100) hx hb dX9_odds_20 (by decide) ?_
          refine lv_aload_n hx hb dX9_odds_22 rfl (lv_at hl 0 rfl) ?_
          refine va_get (D := D) (cl := vwCl) (ci := 9) (v := .ref a1) (C := RX9) (T := TX9) (N := 64) hx hb hts in_X9_odds_X9 hown hK hP 0 rfl rfl 14 (by decide) (hts (.fieldLink RX9 30 "EightReasonsModel" "fray" "[I") (List.mem_of_getElem? (i := 1) (by decide +kernel))) (fun _ h9 => h9) rfl dX9_odds_23 ?_
          refine lv_aload_n hx hb dX9_odds_26 rfl (lv_at hl 0 rfl) ?_
          refine va_get (D := D) (cl := vwCl) (ci := 9) (v := .int 0) (C := RX9) (T := TX9) (N := 64) hx hb hts in_X9_odds_X9 hown hK hP 0 rfl rfl 29 (by decide) (hts (.fieldLink RX9 239 "EightReasonsModel" "bank" "I") (List.mem_of_getElem? (i := 2) (by decide +kernel))) (fun _ h9 => h9) rfl dX9_odds_27 ?_
          refine va_iald hx hb hK hP 1 0 rfl rfl (vin (by decide)) dX9_odds_30 (tpi (v := 0) rfl ?_)
          refine lv_isub hx hb dX9_odds_31 (tpi (v := 100) (by decide) ?_)
          refine lv_iload_n hx hb dX9_odds_32 rfl (lv_at hl 1 rfl) ?_
          refine clSI (As := [.int 100, .int 1]) (rest := []) (wr := [(a0, .inr (9, [v0_0, v0_1, v0_2, v0_3, v0_4, v0_5, v0_6, v0_7, v0_8, v0_9, v0_10, v0_11, v0_12, v0_13, .ref a1, v0_15, v0_16, v0_17, v0_18, v0_19, v0_20, v0_21, v0_22, v0_23, v0_24, v0_25, v0_26, v0_27, v0_28, .int 0, v0_30, v0_31, v0_32, v0_33, v0_34, v0_35, v0_36, v0_37, v0_38, v0_39, v0_40, v0_41, v0_42, v0_43, v0_44, v0_45, v0_46, v0_47, v0_48, v0_49, v0_50, v0_51, v0_52, v0_53, v0_54, v0_55, v0_56, v0_57, v0_58, v0_59, v0_60, v0_61, v0_62, v0_63])), (a1, .inl (cy 0, 2, .inl zI))]) ⟨hx, hb, hml, hown, hts⟩ hK hP hD hS hA (k_X9_raised_1 l D cy _) (va_cwS 2 hts gX9_odds_X9_raised rfl rfl rfl (by decide +kernel) ⟨Nat.le_of_ble_eq_true rfl, Nat.le_of_ble_eq_true rfl⟩) [] [0, 1] rfl rfl rfl rfl (by decide) rfl hl.1 rfl (Nat.le_of_ble_eq_true rfl) dX9_odds_33 ⟨Nat.le_of_ble_eq_true rfl, Nat.le_of_ble_eq_true rfl⟩ rfl rfl (fun r _ H locs hw hP hD hS => ?_)
          have hP : va_P D vwCl [(a0, .inr (9, [v0_0, v0_1, v0_2, v0_3, v0_4, v0_5, v0_6, v0_7, v0_8, v0_9, v0_10, v0_11, v0_12, v0_13, .ref a1, v0_15, v0_16, v0_17, v0_18, v0_19, v0_20, v0_21, v0_22, v0_23, v0_24, v0_25, v0_26, v0_27, v0_28, .int 0, v0_30, v0_31, v0_32, v0_33, v0_34, v0_35, v0_36, v0_37, v0_38, v0_39, v0_40, v0_41, v0_42, v0_43, v0_44, v0_45, v0_46, v0_47, v0_48, v0_49, v0_50, v0_51, v0_52, v0_53, v0_54, v0_55, v0_56, v0_57, v0_58, v0_59, v0_60, v0_61, v0_62, v0_63])), (a1, .inl (cy 0, 2, .inl zI))] H := hP
          have hD : va_D A [(a0, .inr (9, [v0_0, v0_1, v0_2, v0_3, v0_4, v0_5, v0_6, v0_7, v0_8, v0_9, v0_10, v0_11, v0_12, v0_13, .ref a1, v0_15, v0_16, v0_17, v0_18, v0_19, v0_20, v0_21, v0_22, v0_23, v0_24, v0_25, v0_26, v0_27, v0_28, .int 0, v0_30, v0_31, v0_32, v0_33, v0_34, v0_35, v0_36, v0_37, v0_38, v0_39, v0_40, v0_41, v0_42, v0_43, v0_44, v0_45, v0_46, v0_47, v0_48, v0_49, v0_50, v0_51, v0_52, v0_53, v0_54, v0_55, v0_56, v0_57, v0_58, v0_59, v0_60, v0_61, v0_62, v0_63])), (a1, .inl (cy 0, 2, .inl zI))] := hD
          obtain rfl : r = 100 := hw
          refine lv_istore_n (lv' := [(3, .int 100), (0, .ref a0), (1, .int 1), (2, .int 1)]) hx hb dX9_odds_36 rfl hl (by decide) rfl (fun ls hl => ?_)
          refine lv_bipush (v := 100) hx hb dX9_odds_37 (by decide) ?_
          refine lv_iload_n hx hb dX9_odds_39 rfl (lv_at hl 2 rfl) ?_
          refine clSI (As := [.int 100, .int 1]) (rest := []) (wr := [(a0, .inr (9, [v0_0, v0_1, v0_2, v0_3, v0_4, v0_5, v0_6, v0_7, v0_8, v0_9, v0_10, v0_11, v0_12, v0_13, .ref a1, v0_15, v0_16, v0_17, v0_18, v0_19, v0_20, v0_21, v0_22, v0_23, v0_24, v0_25, v0_26, v0_27, v0_28, .int 0, v0_30, v0_31, v0_32, v0_33, v0_34, v0_35, v0_36, v0_37, v0_38, v0_39, v0_40, v0_41, v0_42, v0_43, v0_44, v0_45, v0_46, v0_47, v0_48, v0_49, v0_50, v0_51, v0_52, v0_53, v0_54, v0_55, v0_56, v0_57, v0_58, v0_59, v0_60, v0_61, v0_62, v0_63])), (a1, .inl (cy 0, 2, .inl zI))]) ⟨hx, hb, hml, hown, hts⟩ hK hP hD hS hA (k_X9_raised_1 l D cy _) (va_cwS 2 hts gX9_odds_X9_raised rfl rfl rfl (by decide +kernel) ⟨Nat.le_of_ble_eq_true rfl, Nat.le_of_ble_eq_true rfl⟩) [] [0, 1] rfl rfl rfl rfl (by decide) rfl hl.1 rfl (Nat.le_of_ble_eq_true rfl) dX9_odds_40 ⟨Nat.le_of_ble_eq_true rfl, Nat.le_of_ble_eq_true rfl⟩ rfl rfl (fun r _ H locs hw hP hD hS => ?_)
          have hP : va_P D vwCl [(a0, .inr (9, [v0_0, v0_1, v0_2, v0_3, v0_4, v0_5, v0_6, v0_7, v0_8, v0_9, v0_10, v0_11, v0_12, v0_13, .ref a1, v0_15, v0_16, v0_17, v0_18, v0_19, v0_20, v0_21, v0_22, v0_23, v0_24, v0_25, v0_26, v0_27, v0_28, .int 0, v0_30, v0_31, v0_32, v0_33, v0_34, v0_35, v0_36, v0_37, v0_38, v0_39, v0_40, v0_41, v0_42, v0_43, v0_44, v0_45, v0_46, v0_47, v0_48, v0_49, v0_50, v0_51, v0_52, v0_53, v0_54, v0_55, v0_56, v0_57, v0_58, v0_59, v0_60, v0_61, v0_62, v0_63])), (a1, .inl (cy 0, 2, .inl zI))] H := hP
          have hD : va_D A [(a0, .inr (9, [v0_0, v0_1, v0_2, v0_3, v0_4, v0_5, v0_6, v0_7, v0_8, v0_9, v0_10, v0_11, v0_12, v0_13, .ref a1, v0_15, v0_16, v0_17, v0_18, v0_19, v0_20, v0_21, v0_22, v0_23, v0_24, v0_25, v0_26, v0_27, v0_28, .int 0, v0_30, v0_31, v0_32, v0_33, v0_34, v0_35, v0_36, v0_37, v0_38, v0_39, v0_40, v0_41, v0_42, v0_43, v0_44, v0_45, v0_46, v0_47, v0_48, v0_49, v0_50, v0_51, v0_52, v0_53, v0_54, v0_55, v0_56, v0_57, v0_58, v0_59, v0_60, v0_61, v0_62, v0_63])), (a1, .inl (cy 0, 2, .inl zI))] := hD
          obtain rfl : r = 100 := hw
          refine lv_istore (lv' := [(4, .int 100), (3, .int 100), (0, .ref a0), (1, .int 1), (2, .int 1)]) hx hb dX9_odds_43 hl (by decide) rfl (fun ls hl => ?_)
          refine lv_iload_n hx hb dX9_odds_45 rfl (lv_at hl 4 rfl) ?_
          refine lv_if_ne (tgt := 53) hx hb dX9_odds_46 (by decide) (fun _ => ?_) (fun c => absurd c (by decide))
          refine lv_iload hx hb dX9_odds_53 (lv_at hl 0 rfl) ?_
          refine lv_iload hx hb dX9_odds_55 (lv_at hl 0 rfl) ?_
          refine lv_iload_n hx hb dX9_odds_57 rfl (lv_at hl 1 rfl) ?_
          refine clSI (As := [.int 100, .int 100]) (rest := [.int 100]) (wr := [(a0, .inr (9, [v0_0, v0_1, v0_2, v0_3, v0_4, v0_5, v0_6, v0_7, v0_8, v0_9, v0_10, v0_11, v0_12, v0_13, .ref a1, v0_15, v0_16, v0_17, v0_18, v0_19, v0_20, v0_21, v0_22, v0_23, v0_24, v0_25, v0_26, v0_27, v0_28, .int 0, v0_30, v0_31, v0_32, v0_33, v0_34, v0_35, v0_36, v0_37, v0_38, v0_39, v0_40, v0_41, v0_42, v0_43, v0_44, v0_45, v0_46, v0_47, v0_48, v0_49, v0_50, v0_51, v0_52, v0_53, v0_54, v0_55, v0_56, v0_57, v0_58, v0_59, v0_60, v0_61, v0_62, v0_63])), (a1, .inl (cy 0, 2, .inl zI))]) ⟨hx, hb, hml, hown, hts⟩ hK hP hD hS hA (k_X9_divisor_1 l D cy _) (va_cwS 2 hts gX9_odds_X9_divisor rfl rfl rfl (by decide +kernel) ⟨Nat.le_of_ble_eq_true rfl, Nat.le_of_ble_eq_true rfl⟩) [] [0, 1] rfl rfl rfl rfl (by decide) rfl hl.1 rfl (Nat.le_of_ble_eq_true rfl) dX9_odds_58 ⟨Nat.le_of_ble_eq_true rfl, Nat.le_of_ble_eq_true rfl⟩ rfl rfl (fun r _ H locs hw hP hD hS => ?_)
          have hP : va_P D vwCl [(a0, .inr (9, [v0_0, v0_1, v0_2, v0_3, v0_4, v0_5, v0_6, v0_7, v0_8, v0_9, v0_10, v0_11, v0_12, v0_13, .ref a1, v0_15, v0_16, v0_17, v0_18, v0_19, v0_20, v0_21, v0_22, v0_23, v0_24, v0_25, v0_26, v0_27, v0_28, .int 0, v0_30, v0_31, v0_32, v0_33, v0_34, v0_35, v0_36, v0_37, v0_38, v0_39, v0_40, v0_41, v0_42, v0_43, v0_44, v0_45, v0_46, v0_47, v0_48, v0_49, v0_50, v0_51, v0_52, v0_53, v0_54, v0_55, v0_56, v0_57, v0_58, v0_59, v0_60, v0_61, v0_62, v0_63])), (a1, .inl (cy 0, 2, .inl zI))] H := hP
          have hD : va_D A [(a0, .inr (9, [v0_0, v0_1, v0_2, v0_3, v0_4, v0_5, v0_6, v0_7, v0_8, v0_9, v0_10, v0_11, v0_12, v0_13, .ref a1, v0_15, v0_16, v0_17, v0_18, v0_19, v0_20, v0_21, v0_22, v0_23, v0_24, v0_25, v0_26, v0_27, v0_28, .int 0, v0_30, v0_31, v0_32, v0_33, v0_34, v0_35, v0_36, v0_37, v0_38, v0_39, v0_40, v0_41, v0_42, v0_43, v0_44, v0_45, v0_46, v0_47, v0_48, v0_49, v0_50, v0_51, v0_52, v0_53, v0_54, v0_55, v0_56, v0_57, v0_58, v0_59, v0_60, v0_61, v0_62, v0_63])), (a1, .inl (cy 0, 2, .inl zI))] := hD
          obtain rfl : r = 100 := hw
          refine lv_idiv hx hb dX9_odds_61 (by decide) (tpi (v := 1) (by decide) ?_)
          exact rtI hx hb hr hlk rfl hP hD hS () [] rfl rfl (Or.inr ⟨rfl, (Or.inr (Or.inr (Or.inr (Or.inl ⟨c2, c4, rfl, rfl⟩))))⟩) dX9_odds_62
      · have hsp20 : p2 = 0 ∨ p2 = 1 := by
          simp only [i_lt, i_le, i_eq, tl_m1, tl_0, tl_1, tl_2, tl_3, tl_4, tl_20, tl_60, tl_99, tl_1000, tl_100000] at c4 ⊢
          omega
        rcases hsp20 with rfl | rfl
        · refine lv_bipush (v := 100) hx hb dX9_odds_20 (by decide) ?_
          refine lv_aload_n hx hb dX9_odds_22 rfl (lv_at hl 0 rfl) ?_
          refine va_get (D := D) (cl := vwCl) (ci := 9) (v := .ref a1) (C := RX9) (T := TX9) (N := 64) hx hb hts in_X9_odds_X9 hown hK hP 0 rfl rfl 14 (by decide) (hts (.fieldLink RX9 30 "EightReasonsModel" "fray" "[I") (List.mem_of_getElem? (i := 1) (by decide +kernel))) (fun _ h9 => h9) rfl dX9_odds_23 ?_
          refine lv_aload_n hx hb dX9_odds_26 rfl (lv_at hl 0 rfl) ?_
          refine va_get (D := D) (cl := vwCl) (ci := 9) (v := .int 0) (C := RX9) (T := TX9) (N := 64) hx hb hts in_X9_odds_X9 hown hK hP 0 rfl rfl 29 (by decide) (hts (.fieldLink RX9 239 "EightReasonsModel" "bank" "I") (List.mem_of_getElem? (i := 2) (by decide +kernel))) (fun _ h9 => h9) rfl dX9_odds_27 ?_
          refine va_iald hx hb hK hP 1 0 rfl rfl (vin (by decide)) dX9_odds_30 (tpi (v := 0) rfl ?_)
          refine lv_isub hx hb dX9_odds_31 (tpi (v := 100) (by decide) ?_)
          refine lv_iload_n hx hb dX9_odds_32 rfl (lv_at hl 1 rfl) ?_
          refine clSI (As := [.int 100, .int 2]) (rest := []) (wr := [(a0, .inr (9, [v0_0, v0_1, v0_2, v0_3, v0_4, v0_5, v0_6, v0_7, v0_8, v0_9, v0_10, v0_11, v0_12, v0_13, .ref a1, v0_15, v0_16, v0_17, v0_18, v0_19, v0_20, v0_21, v0_22, v0_23, v0_24, v0_25, v0_26, v0_27, v0_28, .int 0, v0_30, v0_31, v0_32, v0_33, v0_34, v0_35, v0_36, v0_37, v0_38, v0_39, v0_40, v0_41, v0_42, v0_43, v0_44, v0_45, v0_46, v0_47, v0_48, v0_49, v0_50, v0_51, v0_52, v0_53, v0_54, v0_55, v0_56, v0_57, v0_58, v0_59, v0_60, v0_61, v0_62, v0_63])), (a1, .inl (cy 0, 2, .inl zI))]) ⟨hx, hb, hml, hown, hts⟩ hK hP hD hS hA (k_X9_raised_2 l D cy _) (va_cwS 2 hts gX9_odds_X9_raised rfl rfl rfl (by decide +kernel) ⟨Nat.le_of_ble_eq_true rfl, Nat.le_of_ble_eq_true rfl⟩) [] [0, 1] rfl rfl rfl rfl (by decide) rfl hl.1 rfl (Nat.le_of_ble_eq_true rfl) dX9_odds_33 ⟨Nat.le_of_ble_eq_true rfl, Nat.le_of_ble_eq_true rfl⟩ rfl rfl (fun r _ H locs hw hP hD hS => ?_)
          have hP : va_P D vwCl [(a0, .inr (9, [v0_0, v0_1, v0_2, v0_3, v0_4, v0_5, v0_6, v0_7, v0_8, v0_9, v0_10, v0_11, v0_12, v0_13, .ref a1, v0_15, v0_16, v0_17, v0_18, v0_19, v0_20, v0_21, v0_22, v0_23, v0_24, v0_25, v0_26, v0_27, v0_28, .int 0, v0_30, v0_31, v0_32, v0_33, v0_34, v0_35, v0_36, v0_37, v0_38, v0_39, v0_40, v0_41, v0_42, v0_43, v0_44, v0_45, v0_46, v0_47, v0_48, v0_49, v0_50, v0_51, v0_52, v0_53, v0_54, v0_55, v0_56, v0_57, v0_58, v0_59, v0_60, v0_61, v0_62, v0_63])), (a1, .inl (cy 0, 2, .inl zI))] H := hP
          have hD : va_D A [(a0, .inr (9, [v0_0, v0_1, v0_2, v0_3, v0_4, v0_5, v0_6, v0_7, v0_8, v0_9, v0_10, v0_11, v0_12, v0_13, .ref a1, v0_15, v0_16, v0_17, v0_18, v0_19, v0_20, v0_21, v0_22, v0_23, v0_24, v0_25, v0_26, v0_27, v0_28, .int 0, v0_30, v0_31, v0_32, v0_33, v0_34, v0_35, v0_36, v0_37, v0_38, v0_39, v0_40, v0_41, v0_42, v0_43, v0_44, v0_45, v0_46, v0_47, v0_48, v0_49, v0_50, v0_51, v0_52, v0_53, v0_54, v0_55, v0_56, v0_57, v0_58, v0_59, v0_60, v0_61, v0_62, v0_63])), (a1, .inl (cy 0, 2, .inl zI))] := hD
          obtain rfl : r = 10000 := hw
          refine lv_istore_n (lv' := [(3, .int 10000), (0, .ref a0), (1, .int 2), (2, .int 0)]) hx hb dX9_odds_36 rfl hl (by decide) rfl (fun ls hl => ?_)
          refine lv_bipush (v := 100) hx hb dX9_odds_37 (by decide) ?_
          refine lv_iload_n hx hb dX9_odds_39 rfl (lv_at hl 2 rfl) ?_
          refine clSI (As := [.int 100, .int 2]) (rest := []) (wr := [(a0, .inr (9, [v0_0, v0_1, v0_2, v0_3, v0_4, v0_5, v0_6, v0_7, v0_8, v0_9, v0_10, v0_11, v0_12, v0_13, .ref a1, v0_15, v0_16, v0_17, v0_18, v0_19, v0_20, v0_21, v0_22, v0_23, v0_24, v0_25, v0_26, v0_27, v0_28, .int 0, v0_30, v0_31, v0_32, v0_33, v0_34, v0_35, v0_36, v0_37, v0_38, v0_39, v0_40, v0_41, v0_42, v0_43, v0_44, v0_45, v0_46, v0_47, v0_48, v0_49, v0_50, v0_51, v0_52, v0_53, v0_54, v0_55, v0_56, v0_57, v0_58, v0_59, v0_60, v0_61, v0_62, v0_63])), (a1, .inl (cy 0, 2, .inl zI))]) ⟨hx, hb, hml, hown, hts⟩ hK hP hD hS hA (k_X9_raised_2 l D cy _) (va_cwS 2 hts gX9_odds_X9_raised rfl rfl rfl (by decide +kernel) ⟨Nat.le_of_ble_eq_true rfl, Nat.le_of_ble_eq_true rfl⟩) [] [0, 1] rfl rfl rfl rfl (by decide) rfl hl.1 rfl (Nat.le_of_ble_eq_true rfl) dX9_odds_40 ⟨Nat.le_of_ble_eq_true rfl, Nat.le_of_ble_eq_true rfl⟩ rfl rfl (fun r _ H locs hw hP hD hS => ?_)
          have hP : va_P D vwCl [(a0, .inr (9, [v0_0, v0_1, v0_2, v0_3, v0_4, v0_5, v0_6, v0_7, v0_8, v0_9, v0_10, v0_11, v0_12, v0_13, .ref a1, v0_15, v0_16, v0_17, v0_18, v0_19, v0_20, v0_21, v0_22, v0_23, v0_24, v0_25, v0_26, v0_27, v0_28, .int 0, v0_30, v0_31, v0_32, v0_33, v0_34, v0_35, v0_36, v0_37, v0_38, v0_39, v0_40, v0_41, v0_42, v0_43, v0_44, v0_45, v0_46, v0_47, v0_48, v0_49, v0_50, v0_51, v0_52, v0_53, v0_54, v0_55, v0_56, v0_57, v0_58, v0_59, v0_60, v0_61, v0_62, v0_63])), (a1, .inl (cy 0, 2, .inl zI))] H := hP
          have hD : va_D A [(a0, .inr (9, [v0_0, v0_1, v0_2, v0_3, v0_4, v0_5, v0_6, v0_7, v0_8, v0_9, v0_10, v0_11, v0_12, v0_13, .ref a1, v0_15, v0_16, v0_17, v0_18, v0_19, v0_20, v0_21, v0_22, v0_23, v0_24, v0_25, v0_26, v0_27, v0_28, .int 0, v0_30, v0_31, v0_32, v0_33, v0_34, v0_35, v0_36, v0_37, v0_38, v0_39, v0_40, v0_41, v0_42, v0_43, v0_44, v0_45, v0_46, v0_47, v0_48, v0_49, v0_50, v0_51, v0_52, v0_53, v0_54, v0_55, v0_56, v0_57, v0_58, v0_59, v0_60, v0_61, v0_62, v0_63])), (a1, .inl (cy 0, 2, .inl zI))] := hD
          obtain rfl : r = 10000 := hw
          refine lv_istore (lv' := [(4, .int 10000), (3, .int 10000), (0, .ref a0), (1, .int 2), (2, .int 0)]) hx hb dX9_odds_43 hl (by decide) rfl (fun ls hl => ?_)
          refine lv_iload_n hx hb dX9_odds_45 rfl (lv_at hl 4 rfl) ?_
          refine lv_if_ne (tgt := 53) hx hb dX9_odds_46 (by decide) (fun c => absurd (by decide) c) (fun _ => ?_)
          refine lv_iload_n hx hb dX9_odds_49 rfl (lv_at hl 1 rfl) ?_
          refine lv_goto (tgt := 55) hx hb dX9_odds_50 (by decide) ?_
          refine lv_iload hx hb dX9_odds_55 (lv_at hl 0 rfl) ?_
          refine lv_iload_n hx hb dX9_odds_57 rfl (lv_at hl 1 rfl) ?_
          refine clSI (As := [.int 10000, .int 10000]) (rest := [.int 10000]) (wr := [(a0, .inr (9, [v0_0, v0_1, v0_2, v0_3, v0_4, v0_5, v0_6, v0_7, v0_8, v0_9, v0_10, v0_11, v0_12, v0_13, .ref a1, v0_15, v0_16, v0_17, v0_18, v0_19, v0_20, v0_21, v0_22, v0_23, v0_24, v0_25, v0_26, v0_27, v0_28, .int 0, v0_30, v0_31, v0_32, v0_33, v0_34, v0_35, v0_36, v0_37, v0_38, v0_39, v0_40, v0_41, v0_42, v0_43, v0_44, v0_45, v0_46, v0_47, v0_48, v0_49, v0_50, v0_51, v0_52, v0_53, v0_54, v0_55, v0_56, v0_57, v0_58, v0_59, v0_60, v0_61, v0_62, v0_63])), (a1, .inl (cy 0, 2, .inl zI))]) ⟨hx, hb, hml, hown, hts⟩ hK hP hD hS hA (k_X9_divisor_2 l D cy _) (va_cwS 2 hts gX9_odds_X9_divisor rfl rfl rfl (by decide +kernel) ⟨Nat.le_of_ble_eq_true rfl, Nat.le_of_ble_eq_true rfl⟩) [] [0, 1] rfl rfl rfl rfl (by decide) rfl hl.1 rfl (Nat.le_of_ble_eq_true rfl) dX9_odds_58 ⟨Nat.le_of_ble_eq_true rfl, Nat.le_of_ble_eq_true rfl⟩ rfl rfl (fun r _ H locs hw hP hD hS => ?_)
          have hP : va_P D vwCl [(a0, .inr (9, [v0_0, v0_1, v0_2, v0_3, v0_4, v0_5, v0_6, v0_7, v0_8, v0_9, v0_10, v0_11, v0_12, v0_13, .ref a1, v0_15, v0_16, v0_17, v0_18, v0_19, v0_20, v0_21, v0_22, v0_23, v0_24, v0_25, v0_26, v0_27, v0_28, .int 0, v0_30, v0_31, v0_32, v0_33, v0_34, v0_35, v0_36, v0_37, v0_38, v0_39, v0_40, v0_41, v0_42, v0_43, v0_44, v0_45, v0_46, v0_47, v0_48, v0_49, v0_50, v0_51, v0_52, v0_53, v0_54, v0_55, v0_56, v0_57, v0_58, v0_59, v0_60, v0_61, v0_62, v0_63])), (a1, .inl (cy 0, 2, .inl zI))] H := hP
          have hD : va_D A [(a0, .inr (9, [v0_0, v0_1, v0_2, v0_3, v0_4, v0_5, v0_6, v0_7, v0_8, v0_9, v0_10, v0_11, v0_12, v0_13, .ref a1, v0_15, v0_16, v0_17, v0_18, v0_19, v0_20, v0_21, v0_22, v0_23, v0_24, v0_25, v0_26, v0_27, v0_28, .int 0, v0_30, v0_31, v0_32, v0_33, v0_34, v0_35, v0_36, v0_37, v0_38, v0_39, v0_40, v0_41, v0_42, v0_43, v0_44, v0_45, v0_46, v0_47, v0_48, v0_49, v0_50, v0_51, v0_52, v0_53, v0_54, v0_55, v0_56, v0_57, v0_58, v0_59, v0_60, v0_61, v0_62, v0_63])), (a1, .inl (cy 0, 2, .inl zI))] := hD
          obtain rfl : r = 10000 := hw
          refine lv_idiv hx hb dX9_odds_61 (by decide) (tpi (v := 1) (by decide) ?_)
          exact rtI hx hb hr hlk rfl hP hD hS () [] rfl rfl (Or.inr ⟨rfl, (Or.inr (Or.inr (Or.inr (Or.inr (Or.inl ⟨c2, c4, rfl, rfl⟩)))))⟩) dX9_odds_62
        · refine lv_bipush (v := 100) hx hb dX9_odds_20 (by decide) ?_
          refine lv_aload_n hx hb dX9_odds_22 rfl (lv_at hl 0 rfl) ?_
          refine va_get (D := D) (cl := vwCl) (ci := 9) (v := .ref a1) (C := RX9) (T := TX9) (N := 64) hx hb hts in_X9_odds_X9 hown hK hP 0 rfl rfl 14 (by decide) (hts (.fieldLink RX9 30 "EightReasonsModel" "fray" "[I") (List.mem_of_getElem? (i := 1) (by decide +kernel))) (fun _ h9 => h9) rfl dX9_odds_23 ?_
          refine lv_aload_n hx hb dX9_odds_26 rfl (lv_at hl 0 rfl) ?_
          refine va_get (D := D) (cl := vwCl) (ci := 9) (v := .int 0) (C := RX9) (T := TX9) (N := 64) hx hb hts in_X9_odds_X9 hown hK hP 0 rfl rfl 29 (by decide) (hts (.fieldLink RX9 239 "EightReasonsModel" "bank" "I") (List.mem_of_getElem? (i := 2) (by decide +kernel))) (fun _ h9 => h9) rfl dX9_odds_27 ?_
          refine va_iald hx hb hK hP 1 0 rfl rfl (vin (by decide)) dX9_odds_30 (tpi (v := 0) rfl ?_)
          refine lv_isub hx hb dX9_odds_31 (tpi (v := 100) (by decide) ?_)
          refine lv_iload_n hx hb dX9_odds_32 rfl (lv_at hl 1 rfl) ?_
          refine clSI (As := [.int 100, .int 2]) (rest := []) (wr := [(a0, .inr (9, [v0_0, v0_1, v0_2, v0_3, v0_4, v0_5, v0_6, v0_7, v0_8, v0_9, v0_10, v0_11, v0_12, v0_13, .ref a1, v0_15, v0_16, v0_17, v0_18, v0_19, v0_20, v0_21, v0_22, v0_23, v0_24, v0_25, v0_26, v0_27, v0_28, .int 0, v0_30, v0_31, v0_32, v0_33, v0_34, v0_35, v0_36, v0_37, v0_38, v0_39, v0_40, v0_41, v0_42, v0_43, v0_44, v0_45, v0_46, v0_47, v0_48, v0_49, v0_50, v0_51, v0_52, v0_53, v0_54, v0_55, v0_56, v0_57, v0_58, v0_59, v0_60, v0_61, v0_62, v0_63])), (a1, .inl (cy 0, 2, .inl zI))]) ⟨hx, hb, hml, hown, hts⟩ hK hP hD hS hA (k_X9_raised_2 l D cy _) (va_cwS 2 hts gX9_odds_X9_raised rfl rfl rfl (by decide +kernel) ⟨Nat.le_of_ble_eq_true rfl, Nat.le_of_ble_eq_true rfl⟩) [] [0, 1] rfl rfl rfl rfl (by decide) rfl hl.1 rfl (Nat.le_of_ble_eq_true rfl) dX9_odds_33 ⟨Nat.le_of_ble_eq_true rfl, Nat.le_of_ble_eq_true rfl⟩ rfl rfl (fun r _ H locs hw hP hD hS => ?_)
          have hP : va_P D vwCl [(a0, .inr (9, [v0_0, v0_1, v0_2, v0_3, v0_4, v0_5, v0_6, v0_7, v0_8, v0_9, v0_10, v0_11, v0_12, v0_13, .ref a1, v0_15, v0_16, v0_17, v0_18, v0_19, v0_20, v0_21, v0_22, v0_23, v0_24, v0_25, v0_26, v0_27, v0_28, .int 0, v0_30, v0_31, v0_32, v0_33, v0_34, v0_35, v0_36, v0_37, v0_38, v0_39, v0_40, v0_41, v0_42, v0_43, v0_44, v0_45, v0_46, v0_47, v0_48, v0_49, v0_50, v0_51, v0_52, v0_53, v0_54, v0_55, v0_56, v0_57, v0_58, v0_59, v0_60, v0_61, v0_62, v0_63])), (a1, .inl (cy 0, 2, .inl zI))] H := hP
          have hD : va_D A [(a0, .inr (9, [v0_0, v0_1, v0_2, v0_3, v0_4, v0_5, v0_6, v0_7, v0_8, v0_9, v0_10, v0_11, v0_12, v0_13, .ref a1, v0_15, v0_16, v0_17, v0_18, v0_19, v0_20, v0_21, v0_22, v0_23, v0_24, v0_25, v0_26, v0_27, v0_28, .int 0, v0_30, v0_31, v0_32, v0_33, v0_34, v0_35, v0_36, v0_37, v0_38, v0_39, v0_40, v0_41, v0_42, v0_43, v0_44, v0_45, v0_46, v0_47, v0_48, v0_49, v0_50, v0_51, v0_52, v0_53, v0_54, v0_55, v0_56, v0_57, v0_58, v0_59, v0_60, v0_61, v0_62, v0_63])), (a1, .inl (cy 0, 2, .inl zI))] := hD
          obtain rfl : r = 10000 := hw
          refine lv_istore_n (lv' := [(3, .int 10000), (0, .ref a0), (1, .int 2), (2, .int 1)]) hx hb dX9_odds_36 rfl hl (by decide) rfl (fun ls hl => ?_)
          refine lv_bipush (v := 100) hx hb dX9_odds_37 (by decide) ?_
          refine lv_iload_n hx hb dX9_odds_39 rfl (lv_at hl 2 rfl) ?_
          refine clSI (As := [.int 100, .int 2]) (rest := []) (wr := [(a0, .inr (9, [v0_0, v0_1, v0_2, v0_3, v0_4, v0_5, v0_6, v0_7, v0_8, v0_9, v0_10, v0_11, v0_12, v0_13, .ref a1, v0_15, v0_16, v0_17, v0_18, v0_19, v0_20, v0_21, v0_22, v0_23, v0_24, v0_25, v0_26, v0_27, v0_28, .int 0, v0_30, v0_31, v0_32, v0_33, v0_34, v0_35, v0_36, v0_37, v0_38, v0_39, v0_40, v0_41, v0_42, v0_43, v0_44, v0_45, v0_46, v0_47, v0_48, v0_49, v0_50, v0_51, v0_52, v0_53, v0_54, v0_55, v0_56, v0_57, v0_58, v0_59, v0_60, v0_61, v0_62, v0_63])), (a1, .inl (cy 0, 2, .inl zI))]) ⟨hx, hb, hml, hown, hts⟩ hK hP hD hS hA (k_X9_raised_2 l D cy _) (va_cwS 2 hts gX9_odds_X9_raised rfl rfl rfl (by decide +kernel) ⟨Nat.le_of_ble_eq_true rfl, Nat.le_of_ble_eq_true rfl⟩) [] [0, 1] rfl rfl rfl rfl (by decide) rfl hl.1 rfl (Nat.le_of_ble_eq_true rfl) dX9_odds_40 ⟨Nat.le_of_ble_eq_true rfl, Nat.le_of_ble_eq_true rfl⟩ rfl rfl (fun r _ H locs hw hP hD hS => ?_)
          have hP : va_P D vwCl [(a0, .inr (9, [v0_0, v0_1, v0_2, v0_3, v0_4, v0_5, v0_6, v0_7, v0_8, v0_9, v0_10, v0_11, v0_12, v0_13, .ref a1, v0_15, v0_16, v0_17, v0_18, v0_19, v0_20, v0_21, v0_22, v0_23, v0_24, v0_25, v0_26, v0_27, v0_28, .int 0, v0_30, v0_31, v0_32, v0_33, v0_34, v0_35, v0_36, v0_37, v0_38, v0_39, v0_40, v0_41, v0_42, v0_43, v0_44, v0_45, v0_46, v0_47, v0_48, v0_49, v0_50, v0_51, v0_52, v0_53, v0_54, v0_55, v0_56, v0_57, v0_58, v0_59, v0_60, v0_61, v0_62, v0_63])), (a1, .inl (cy 0, 2, .inl zI))] H := hP
          have hD : va_D A [(a0, .inr (9, [v0_0, v0_1, v0_2, v0_3, v0_4, v0_5, v0_6, v0_7, v0_8, v0_9, v0_10, v0_11, v0_12, v0_13, .ref a1, v0_15, v0_16, v0_17, v0_18, v0_19, v0_20, v0_21, v0_22, v0_23, v0_24, v0_25, v0_26, v0_27, v0_28, .int 0, v0_30, v0_31, v0_32, v0_33, v0_34, v0_35, v0_36, v0_37, v0_38, v0_39, v0_40, v0_41, v0_42, v0_43, v0_44, v0_45, v0_46, v0_47, v0_48, v0_49, v0_50, v0_51, v0_52, v0_53, v0_54, v0_55, v0_56, v0_57, v0_58, v0_59, v0_60, v0_61, v0_62, v0_63])), (a1, .inl (cy 0, 2, .inl zI))] := hD
          obtain rfl : r = 10000 := hw
          refine lv_istore (lv' := [(4, .int 10000), (3, .int 10000), (0, .ref a0), (1, .int 2), (2, .int 1)]) hx hb dX9_odds_43 hl (by decide) rfl (fun ls hl => ?_)
          refine lv_iload_n hx hb dX9_odds_45 rfl (lv_at hl 4 rfl) ?_
          refine lv_if_ne (tgt := 53) hx hb dX9_odds_46 (by decide) (fun _ => ?_) (fun c => absurd c (by decide))
          refine lv_iload hx hb dX9_odds_53 (lv_at hl 0 rfl) ?_
          refine lv_iload hx hb dX9_odds_55 (lv_at hl 0 rfl) ?_
          refine lv_iload_n hx hb dX9_odds_57 rfl (lv_at hl 1 rfl) ?_
          refine clSI (As := [.int 10000, .int 10000]) (rest := [.int 10000]) (wr := [(a0, .inr (9, [v0_0, v0_1, v0_2, v0_3, v0_4, v0_5, v0_6, v0_7, v0_8, v0_9, v0_10, v0_11, v0_12, v0_13, .ref a1, v0_15, v0_16, v0_17, v0_18, v0_19, v0_20, v0_21, v0_22, v0_23, v0_24, v0_25, v0_26, v0_27, v0_28, .int 0, v0_30, v0_31, v0_32, v0_33, v0_34, v0_35, v0_36, v0_37, v0_38, v0_39, v0_40, v0_41, v0_42, v0_43, v0_44, v0_45, v0_46, v0_47, v0_48, v0_49, v0_50, v0_51, v0_52, v0_53, v0_54, v0_55, v0_56, v0_57, v0_58, v0_59, v0_60, v0_61, v0_62, v0_63])), (a1, .inl (cy 0, 2, .inl zI))]) ⟨hx, hb, hml, hown, hts⟩ hK hP hD hS hA (k_X9_divisor_2 l D cy _) (va_cwS 2 hts gX9_odds_X9_divisor rfl rfl rfl (by decide +kernel) ⟨Nat.le_of_ble_eq_true rfl, Nat.le_of_ble_eq_true rfl⟩) [] [0, 1] rfl rfl rfl rfl (by decide) rfl hl.1 rfl (Nat.le_of_ble_eq_true rfl) dX9_odds_58 ⟨Nat.le_of_ble_eq_true rfl, Nat.le_of_ble_eq_true rfl⟩ rfl rfl (fun r _ H locs hw hP hD hS => ?_)
          have hP : va_P D vwCl [(a0, .inr (9, [v0_0, v0_1, v0_2, v0_3, v0_4, v0_5, v0_6, v0_7, v0_8, v0_9, v0_10, v0_11, v0_12, v0_13, .ref a1, v0_15, v0_16, v0_17, v0_18, v0_19, v0_20, v0_21, v0_22, v0_23, v0_24, v0_25, v0_26, v0_27, v0_28, .int 0, v0_30, v0_31, v0_32, v0_33, v0_34, v0_35, v0_36, v0_37, v0_38, v0_39, v0_40, v0_41, v0_42, v0_43, v0_44, v0_45, v0_46, v0_47, v0_48, v0_49, v0_50, v0_51, v0_52, v0_53, v0_54, v0_55, v0_56, v0_57, v0_58, v0_59, v0_60, v0_61, v0_62, v0_63])), (a1, .inl (cy 0, 2, .inl zI))] H := hP
          have hD : va_D A [(a0, .inr (9, [v0_0, v0_1, v0_2, v0_3, v0_4, v0_5, v0_6, v0_7, v0_8, v0_9, v0_10, v0_11, v0_12, v0_13, .ref a1, v0_15, v0_16, v0_17, v0_18, v0_19, v0_20, v0_21, v0_22, v0_23, v0_24, v0_25, v0_26, v0_27, v0_28, .int 0, v0_30, v0_31, v0_32, v0_33, v0_34, v0_35, v0_36, v0_37, v0_38, v0_39, v0_40, v0_41, v0_42, v0_43, v0_44, v0_45, v0_46, v0_47, v0_48, v0_49, v0_50, v0_51, v0_52, v0_53, v0_54, v0_55, v0_56, v0_57, v0_58, v0_59, v0_60, v0_61, v0_62, v0_63])), (a1, .inl (cy 0, 2, .inl zI))] := hD
          obtain rfl : r = 10000 := hw
          refine lv_idiv hx hb dX9_odds_61 (by decide) (tpi (v := 1) (by decide) ?_)
          exact rtI hx hb hr hlk rfl hP hD hS () [] rfl rfl (Or.inr ⟨rfl, (Or.inr (Or.inr (Or.inr (Or.inr (Or.inr (Or.inl ⟨c2, c4, rfl, rfl⟩))))))⟩) dX9_odds_62
      · have hsp27 : p2 = 0 ∨ p2 = 1 := by
          simp only [i_lt, i_le, i_eq, tl_m1, tl_0, tl_1, tl_2, tl_3, tl_4, tl_20, tl_60, tl_99, tl_1000, tl_100000] at c4 ⊢
          omega
        rcases hsp27 with rfl | rfl
        · refine lv_bipush (v := 100) hx hb dX9_odds_20 (by decide) ?_
          refine lv_aload_n hx hb dX9_odds_22 rfl (lv_at hl 0 rfl) ?_
          refine va_get (D := D) (cl := vwCl) (ci := 9) (v := .ref a1) (C := RX9) (T := TX9) (N := 64) hx hb hts in_X9_odds_X9 hown hK hP 0 rfl rfl 14 (by decide) (hts (.fieldLink RX9 30 "EightReasonsModel" "fray" "[I") (List.mem_of_getElem? (i := 1) (by decide +kernel))) (fun _ h9 => h9) rfl dX9_odds_23 ?_
          refine lv_aload_n hx hb dX9_odds_26 rfl (lv_at hl 0 rfl) ?_
          refine va_get (D := D) (cl := vwCl) (ci := 9) (v := .int 0) (C := RX9) (T := TX9) (N := 64) hx hb hts in_X9_odds_X9 hown hK hP 0 rfl rfl 29 (by decide) (hts (.fieldLink RX9 239 "EightReasonsModel" "bank" "I") (List.mem_of_getElem? (i := 2) (by decide +kernel))) (fun _ h9 => h9) rfl dX9_odds_27 ?_
          refine va_iald hx hb hK hP 1 0 rfl rfl (vin (by decide)) dX9_odds_30 (tpi (v := 0) rfl ?_)
          refine lv_isub hx hb dX9_odds_31 (tpi (v := 100) (by decide) ?_)
          refine lv_iload_n hx hb dX9_odds_32 rfl (lv_at hl 1 rfl) ?_
          refine clSI (As := [.int 100, .int 3]) (rest := []) (wr := [(a0, .inr (9, [v0_0, v0_1, v0_2, v0_3, v0_4, v0_5, v0_6, v0_7, v0_8, v0_9, v0_10, v0_11, v0_12, v0_13, .ref a1, v0_15, v0_16, v0_17, v0_18, v0_19, v0_20, v0_21, v0_22, v0_23, v0_24, v0_25, v0_26, v0_27, v0_28, .int 0, v0_30, v0_31, v0_32, v0_33, v0_34, v0_35, v0_36, v0_37, v0_38, v0_39, v0_40, v0_41, v0_42, v0_43, v0_44, v0_45, v0_46, v0_47, v0_48, v0_49, v0_50, v0_51, v0_52, v0_53, v0_54, v0_55, v0_56, v0_57, v0_58, v0_59, v0_60, v0_61, v0_62, v0_63])), (a1, .inl (cy 0, 2, .inl zI))]) ⟨hx, hb, hml, hown, hts⟩ hK hP hD hS hA (k_X9_raised_3 l D cy _) (va_cwS 2 hts gX9_odds_X9_raised rfl rfl rfl (by decide +kernel) ⟨Nat.le_of_ble_eq_true rfl, Nat.le_of_ble_eq_true rfl⟩) [] [0, 1] rfl rfl rfl rfl (by decide) rfl hl.1 rfl (Nat.le_of_ble_eq_true rfl) dX9_odds_33 ⟨Nat.le_of_ble_eq_true rfl, Nat.le_of_ble_eq_true rfl⟩ rfl rfl (fun r _ H locs hw hP hD hS => ?_)
          have hP : va_P D vwCl [(a0, .inr (9, [v0_0, v0_1, v0_2, v0_3, v0_4, v0_5, v0_6, v0_7, v0_8, v0_9, v0_10, v0_11, v0_12, v0_13, .ref a1, v0_15, v0_16, v0_17, v0_18, v0_19, v0_20, v0_21, v0_22, v0_23, v0_24, v0_25, v0_26, v0_27, v0_28, .int 0, v0_30, v0_31, v0_32, v0_33, v0_34, v0_35, v0_36, v0_37, v0_38, v0_39, v0_40, v0_41, v0_42, v0_43, v0_44, v0_45, v0_46, v0_47, v0_48, v0_49, v0_50, v0_51, v0_52, v0_53, v0_54, v0_55, v0_56, v0_57, v0_58, v0_59, v0_60, v0_61, v0_62, v0_63])), (a1, .inl (cy 0, 2, .inl zI))] H := hP
          have hD : va_D A [(a0, .inr (9, [v0_0, v0_1, v0_2, v0_3, v0_4, v0_5, v0_6, v0_7, v0_8, v0_9, v0_10, v0_11, v0_12, v0_13, .ref a1, v0_15, v0_16, v0_17, v0_18, v0_19, v0_20, v0_21, v0_22, v0_23, v0_24, v0_25, v0_26, v0_27, v0_28, .int 0, v0_30, v0_31, v0_32, v0_33, v0_34, v0_35, v0_36, v0_37, v0_38, v0_39, v0_40, v0_41, v0_42, v0_43, v0_44, v0_45, v0_46, v0_47, v0_48, v0_49, v0_50, v0_51, v0_52, v0_53, v0_54, v0_55, v0_56, v0_57, v0_58, v0_59, v0_60, v0_61, v0_62, v0_63])), (a1, .inl (cy 0, 2, .inl zI))] := hD
          obtain rfl : r = 1000000 := hw
          refine lv_istore_n (lv' := [(3, .int 1000000), (0, .ref a0), (1, .int 3), (2, .int 0)]) hx hb dX9_odds_36 rfl hl (by decide) rfl (fun ls hl => ?_)
          refine lv_bipush (v := 100) hx hb dX9_odds_37 (by decide) ?_
          refine lv_iload_n hx hb dX9_odds_39 rfl (lv_at hl 2 rfl) ?_
          refine clSI (As := [.int 100, .int 3]) (rest := []) (wr := [(a0, .inr (9, [v0_0, v0_1, v0_2, v0_3, v0_4, v0_5, v0_6, v0_7, v0_8, v0_9, v0_10, v0_11, v0_12, v0_13, .ref a1, v0_15, v0_16, v0_17, v0_18, v0_19, v0_20, v0_21, v0_22, v0_23, v0_24, v0_25, v0_26, v0_27, v0_28, .int 0, v0_30, v0_31, v0_32, v0_33, v0_34, v0_35, v0_36, v0_37, v0_38, v0_39, v0_40, v0_41, v0_42, v0_43, v0_44, v0_45, v0_46, v0_47, v0_48, v0_49, v0_50, v0_51, v0_52, v0_53, v0_54, v0_55, v0_56, v0_57, v0_58, v0_59, v0_60, v0_61, v0_62, v0_63])), (a1, .inl (cy 0, 2, .inl zI))]) ⟨hx, hb, hml, hown, hts⟩ hK hP hD hS hA (k_X9_raised_3 l D cy _) (va_cwS 2 hts gX9_odds_X9_raised rfl rfl rfl (by decide +kernel) ⟨Nat.le_of_ble_eq_true rfl, Nat.le_of_ble_eq_true rfl⟩) [] [0, 1] rfl rfl rfl rfl (by decide) rfl hl.1 rfl (Nat.le_of_ble_eq_true rfl) dX9_odds_40 ⟨Nat.le_of_ble_eq_true rfl, Nat.le_of_ble_eq_true rfl⟩ rfl rfl (fun r _ H locs hw hP hD hS => ?_)
          have hP : va_P D vwCl [(a0, .inr (9, [v0_0, v0_1, v0_2, v0_3, v0_4, v0_5, v0_6, v0_7, v0_8, v0_9, v0_10, v0_11, v0_12, v0_13, .ref a1, v0_15, v0_16, v0_17, v0_18, v0_19, v0_20, v0_21, v0_22, v0_23, v0_24, v0_25, v0_26, v0_27, v0_28, .int 0, v0_30, v0_31, v0_32, v0_33, v0_34, v0_35, v0_36, v0_37, v0_38, v0_39, v0_40, v0_41, v0_42, v0_43, v0_44, v0_45, v0_46, v0_47, v0_48, v0_49, v0_50, v0_51, v0_52, v0_53, v0_54, v0_55, v0_56, v0_57, v0_58, v0_59, v0_60, v0_61, v0_62, v0_63])), (a1, .inl (cy 0, 2, .inl zI))] H := hP
          have hD : va_D A [(a0, .inr (9, [v0_0, v0_1, v0_2, v0_3, v0_4, v0_5, v0_6, v0_7, v0_8, v0_9, v0_10, v0_11, v0_12, v0_13, .ref a1, v0_15, v0_16, v0_17, v0_18, v0_19, v0_20, v0_21, v0_22, v0_23, v0_24, v0_25, v0_26, v0_27, v0_28, .int 0, v0_30, v0_31, v0_32, v0_33, v0_34, v0_35, v0_36, v0_37, v0_38, v0_39, v0_40, v0_41, v0_42, v0_43, v0_44, v0_45, v0_46, v0_47, v0_48, v0_49, v0_50, v0_51, v0_52, v0_53, v0_54, v0_55, v0_56, v0_57, v0_58, v0_59, v0_60, v0_61, v0_62, v0_63])), (a1, .inl (cy 0, 2, .inl zI))] := hD
          obtain rfl : r = 1000000 := hw
          refine lv_istore (lv' := [(4, .int 1000000), (3, .int 1000000), (0, .ref a0), (1, .int 3), (2, .int 0)]) hx hb dX9_odds_43 hl (by decide) rfl (fun ls hl => ?_)
          refine lv_iload_n hx hb dX9_odds_45 rfl (lv_at hl 4 rfl) ?_
          refine lv_if_ne (tgt := 53) hx hb dX9_odds_46 (by decide) (fun c => absurd (by decide) c) (fun _ => ?_)
          refine lv_iload_n hx hb dX9_odds_49 rfl (lv_at hl 1 rfl) ?_
          refine lv_goto (tgt := 55) hx hb dX9_odds_50 (by decide) ?_
          refine lv_iload hx hb dX9_odds_55 (lv_at hl 0 rfl) ?_
          refine lv_iload_n hx hb dX9_odds_57 rfl (lv_at hl 1 rfl) ?_
          refine clSI (As := [.int 1000000, .int 1000000]) (rest := [.int 1000000]) (wr := [(a0, .inr (9, [v0_0, v0_1, v0_2, v0_3, v0_4, v0_5, v0_6, v0_7, v0_8, v0_9, v0_10, v0_11, v0_12, v0_13, .ref a1, v0_15, v0_16, v0_17, v0_18, v0_19, v0_20, v0_21, v0_22, v0_23, v0_24, v0_25, v0_26, v0_27, v0_28, .int 0, v0_30, v0_31, v0_32, v0_33, v0_34, v0_35, v0_36, v0_37, v0_38, v0_39, v0_40, v0_41, v0_42, v0_43, v0_44, v0_45, v0_46, v0_47, v0_48, v0_49, v0_50, v0_51, v0_52, v0_53, v0_54, v0_55, v0_56, v0_57, v0_58, v0_59, v0_60, v0_61, v0_62, v0_63])), (a1, .inl (cy 0, 2, .inl zI))]) ⟨hx, hb, hml, hown, hts⟩ hK hP hD hS hA (k_X9_divisor_3 l D cy _) (va_cwS 2 hts gX9_odds_X9_divisor rfl rfl rfl (by decide +kernel) ⟨Nat.le_of_ble_eq_true rfl, Nat.le_of_ble_eq_true rfl⟩) [] [0, 1] rfl rfl rfl rfl (by decide) rfl hl.1 rfl (Nat.le_of_ble_eq_true rfl) dX9_odds_58 ⟨Nat.le_of_ble_eq_true rfl, Nat.le_of_ble_eq_true rfl⟩ rfl rfl (fun r _ H locs hw hP hD hS => ?_)
          have hP : va_P D vwCl [(a0, .inr (9, [v0_0, v0_1, v0_2, v0_3, v0_4, v0_5, v0_6, v0_7, v0_8, v0_9, v0_10, v0_11, v0_12, v0_13, .ref a1, v0_15, v0_16, v0_17, v0_18, v0_19, v0_20, v0_21, v0_22, v0_23, v0_24, v0_25, v0_26, v0_27, v0_28, .int 0, v0_30, v0_31, v0_32, v0_33, v0_34, v0_35, v0_36, v0_37, v0_38, v0_39, v0_40, v0_41, v0_42, v0_43, v0_44, v0_45, v0_46, v0_47, v0_48, v0_49, v0_50, v0_51, v0_52, v0_53, v0_54, v0_55, v0_56, v0_57, v0_58, v0_59, v0_60, v0_61, v0_62, v0_63])), (a1, .inl (cy 0, 2, .inl zI))] H := hP
          have hD : va_D A [(a0, .inr (9, [v0_0, v0_1, v0_2, v0_3, v0_4, v0_5, v0_6, v0_7, v0_8, v0_9, v0_10, v0_11, v0_12, v0_13, .ref a1, v0_15, v0_16, v0_17, v0_18, v0_19, v0_20, v0_21, v0_22, v0_23, v0_24, v0_25, v0_26, v0_27, v0_28, .int 0, v0_30, v0_31, v0_32, v0_33, v0_34, v0_35, v0_36, v0_37, v0_38, v0_39, v0_40, v0_41, v0_42, v0_43, v0_44, v0_45, v0_46, v0_47, v0_48, v0_49, v0_50, v0_51, v0_52, v0_53, v0_54, v0_55, v0_56, v0_57, v0_58, v0_59, v0_60, v0_61, v0_62, v0_63])), (a1, .inl (cy 0, 2, .inl zI))] := hD
          obtain rfl : r = 1000000 := hw
          refine lv_idiv hx hb dX9_odds_61 (by decide) (tpi (v := 1) (by decide) ?_)
          exact rtI hx hb hr hlk rfl hP hD hS () [] rfl rfl (Or.inr ⟨rfl, (Or.inr (Or.inr (Or.inr (Or.inr (Or.inr (Or.inr (Or.inl ⟨c2, c4, rfl, rfl⟩)))))))⟩) dX9_odds_62
        · refine lv_bipush (v := 100) hx hb dX9_odds_20 (by decide) ?_
          refine lv_aload_n hx hb dX9_odds_22 rfl (lv_at hl 0 rfl) ?_
          refine va_get (D := D) (cl := vwCl) (ci := 9) (v := .ref a1) (C := RX9) (T := TX9) (N := 64) hx hb hts in_X9_odds_X9 hown hK hP 0 rfl rfl 14 (by decide) (hts (.fieldLink RX9 30 "EightReasonsModel" "fray" "[I") (List.mem_of_getElem? (i := 1) (by decide +kernel))) (fun _ h9 => h9) rfl dX9_odds_23 ?_
          refine lv_aload_n hx hb dX9_odds_26 rfl (lv_at hl 0 rfl) ?_
          refine va_get (D := D) (cl := vwCl) (ci := 9) (v := .int 0) (C := RX9) (T := TX9) (N := 64) hx hb hts in_X9_odds_X9 hown hK hP 0 rfl rfl 29 (by decide) (hts (.fieldLink RX9 239 "EightReasonsModel" "bank" "I") (List.mem_of_getElem? (i := 2) (by decide +kernel))) (fun _ h9 => h9) rfl dX9_odds_27 ?_
          refine va_iald hx hb hK hP 1 0 rfl rfl (vin (by decide)) dX9_odds_30 (tpi (v := 0) rfl ?_)
          refine lv_isub hx hb dX9_odds_31 (tpi (v := 100) (by decide) ?_)
          refine lv_iload_n hx hb dX9_odds_32 rfl (lv_at hl 1 rfl) ?_
          refine clSI (As := [.int 100, .int 3]) (rest := []) (wr := [(a0, .inr (9, [v0_0, v0_1, v0_2, v0_3, v0_4, v0_5, v0_6, v0_7, v0_8, v0_9, v0_10, v0_11, v0_12, v0_13, .ref a1, v0_15, v0_16, v0_17, v0_18, v0_19, v0_20, v0_21, v0_22, v0_23, v0_24, v0_25, v0_26, v0_27, v0_28, .int 0, v0_30, v0_31, v0_32, v0_33, v0_34, v0_35, v0_36, v0_37, v0_38, v0_39, v0_40, v0_41, v0_42, v0_43, v0_44, v0_45, v0_46, v0_47, v0_48, v0_49, v0_50, v0_51, v0_52, v0_53, v0_54, v0_55, v0_56, v0_57, v0_58, v0_59, v0_60, v0_61, v0_62, v0_63])), (a1, .inl (cy 0, 2, .inl zI))]) ⟨hx, hb, hml, hown, hts⟩ hK hP hD hS hA (k_X9_raised_3 l D cy _) (va_cwS 2 hts gX9_odds_X9_raised rfl rfl rfl (by decide +kernel) ⟨Nat.le_of_ble_eq_true rfl, Nat.le_of_ble_eq_true rfl⟩) [] [0, 1] rfl rfl rfl rfl (by decide) rfl hl.1 rfl (Nat.le_of_ble_eq_true rfl) dX9_odds_33 ⟨Nat.le_of_ble_eq_true rfl, Nat.le_of_ble_eq_true rfl⟩ rfl rfl (fun r _ H locs hw hP hD hS => ?_)
          have hP : va_P D vwCl [(a0, .inr (9, [v0_0, v0_1, v0_2, v0_3, v0_4, v0_5, v0_6, v0_7, v0_8, v0_9, v0_10, v0_11, v0_12, v0_13, .ref a1, v0_15, v0_16, v0_17, v0_18, v0_19, v0_20, v0_21, v0_22, v0_23, v0_24, v0_25, v0_26, v0_27, v0_28, .int 0, v0_30, v0_31, v0_32, v0_33, v0_34, v0_35, v0_36, v0_37, v0_38, v0_39, v0_40, v0_41, v0_42, v0_43, v0_44, v0_45, v0_46, v0_47, v0_48, v0_49, v0_50, v0_51, v0_52, v0_53, v0_54, v0_55, v0_56, v0_57, v0_58, v0_59, v0_60, v0_61, v0_62, v0_63])), (a1, .inl (cy 0, 2, .inl zI))] H := hP
          have hD : va_D A [(a0, .inr (9, [v0_0, v0_1, v0_2, v0_3, v0_4, v0_5, v0_6, v0_7, v0_8, v0_9, v0_10, v0_11, v0_12, v0_13, .ref a1, v0_15, v0_16, v0_17, v0_18, v0_19, v0_20, v0_21, v0_22, v0_23, v0_24, v0_25, v0_26, v0_27, v0_28, .int 0, v0_30, v0_31, v0_32, v0_33, v0_34, v0_35, v0_36, v0_37, v0_38, v0_39, v0_40, v0_41, v0_42, v0_43, v0_44, v0_45, v0_46, v0_47, v0_48, v0_49, v0_50, v0_51, v0_52, v0_53, v0_54, v0_55, v0_56, v0_57, v0_58, v0_59, v0_60, v0_61, v0_62, v0_63])), (a1, .inl (cy 0, 2, .inl zI))] := hD
          obtain rfl : r = 1000000 := hw
          refine lv_istore_n (lv' := [(3, .int 1000000), (0, .ref a0), (1, .int 3), (2, .int 1)]) hx hb dX9_odds_36 rfl hl (by decide) rfl (fun ls hl => ?_)
          refine lv_bipush (v := 100) hx hb dX9_odds_37 (by decide) ?_
          refine lv_iload_n hx hb dX9_odds_39 rfl (lv_at hl 2 rfl) ?_
          refine clSI (As := [.int 100, .int 3]) (rest := []) (wr := [(a0, .inr (9, [v0_0, v0_1, v0_2, v0_3, v0_4, v0_5, v0_6, v0_7, v0_8, v0_9, v0_10, v0_11, v0_12, v0_13, .ref a1, v0_15, v0_16, v0_17, v0_18, v0_19, v0_20, v0_21, v0_22, v0_23, v0_24, v0_25, v0_26, v0_27, v0_28, .int 0, v0_30, v0_31, v0_32, v0_33, v0_34, v0_35, v0_36, v0_37, v0_38, v0_39, v0_40, v0_41, v0_42, v0_43, v0_44, v0_45, v0_46, v0_47, v0_48, v0_49, v0_50, v0_51, v0_52, v0_53, v0_54, v0_55, v0_56, v0_57, v0_58, v0_59, v0_60, v0_61, v0_62, v0_63])), (a1, .inl (cy 0, 2, .inl zI))]) ⟨hx, hb, hml, hown, hts⟩ hK hP hD hS hA (k_X9_raised_3 l D cy _) (va_cwS 2 hts gX9_odds_X9_raised rfl rfl rfl (by decide +kernel) ⟨Nat.le_of_ble_eq_true rfl, Nat.le_of_ble_eq_true rfl⟩) [] [0, 1] rfl rfl rfl rfl (by decide) rfl hl.1 rfl (Nat.le_of_ble_eq_true rfl) dX9_odds_40 ⟨Nat.le_of_ble_eq_true rfl, Nat.le_of_ble_eq_true rfl⟩ rfl rfl (fun r _ H locs hw hP hD hS => ?_)
          have hP : va_P D vwCl [(a0, .inr (9, [v0_0, v0_1, v0_2, v0_3, v0_4, v0_5, v0_6, v0_7, v0_8, v0_9, v0_10, v0_11, v0_12, v0_13, .ref a1, v0_15, v0_16, v0_17, v0_18, v0_19, v0_20, v0_21, v0_22, v0_23, v0_24, v0_25, v0_26, v0_27, v0_28, .int 0, v0_30, v0_31, v0_32, v0_33, v0_34, v0_35, v0_36, v0_37, v0_38, v0_39, v0_40, v0_41, v0_42, v0_43, v0_44, v0_45, v0_46, v0_47, v0_48, v0_49, v0_50, v0_51, v0_52, v0_53, v0_54, v0_55, v0_56, v0_57, v0_58, v0_59, v0_60, v0_61, v0_62, v0_63])), (a1, .inl (cy 0, 2, .inl zI))] H := hP
          have hD : va_D A [(a0, .inr (9, [v0_0, v0_1, v0_2, v0_3, v0_4, v0_5, v0_6, v0_7, v0_8, v0_9, v0_10, v0_11, v0_12, v0_13, .ref a1, v0_15, v0_16, v0_17, v0_18, v0_19, v0_20, v0_21, v0_22, v0_23, v0_24, v0_25, v0_26, v0_27, v0_28, .int 0, v0_30, v0_31, v0_32, v0_33, v0_34, v0_35, v0_36, v0_37, v0_38, v0_39, v0_40, v0_41, v0_42, v0_43, v0_44, v0_45, v0_46, v0_47, v0_48, v0_49, v0_50, v0_51, v0_52, v0_53, v0_54, v0_55, v0_56, v0_57, v0_58, v0_59, v0_60, v0_61, v0_62, v0_63])), (a1, .inl (cy 0, 2, .inl zI))] := hD
          obtain rfl : r = 1000000 := hw
          refine lv_istore (lv' := [(4, .int 1000000), (3, .int 1000000), (0, .ref a0), (1, .int 3), (2, .int 1)]) hx hb dX9_odds_43 hl (by decide) rfl (fun ls hl => ?_)
          refine lv_iload_n hx hb dX9_odds_45 rfl (lv_at hl 4 rfl) ?_
          refine lv_if_ne (tgt := 53) hx hb dX9_odds_46 (by decide) (fun _ => ?_) (fun c => absurd c (by decide))
          refine lv_iload hx hb dX9_odds_53 (lv_at hl 0 rfl) ?_
          refine lv_iload hx hb dX9_odds_55 (lv_at hl 0 rfl) ?_
          refine lv_iload_n hx hb dX9_odds_57 rfl (lv_at hl 1 rfl) ?_
          refine clSI (As := [.int 1000000, .int 1000000]) (rest := [.int 1000000]) (wr := [(a0, .inr (9, [v0_0, v0_1, v0_2, v0_3, v0_4, v0_5, v0_6, v0_7, v0_8, v0_9, v0_10, v0_11, v0_12, v0_13, .ref a1, v0_15, v0_16, v0_17, v0_18, v0_19, v0_20, v0_21, v0_22, v0_23, v0_24, v0_25, v0_26, v0_27, v0_28, .int 0, v0_30, v0_31, v0_32, v0_33, v0_34, v0_35, v0_36, v0_37, v0_38, v0_39, v0_40, v0_41, v0_42, v0_43, v0_44, v0_45, v0_46, v0_47, v0_48, v0_49, v0_50, v0_51, v0_52, v0_53, v0_54, v0_55, v0_56, v0_57, v0_58, v0_59, v0_60, v0_61, v0_62, v0_63])), (a1, .inl (cy 0, 2, .inl zI))]) ⟨hx, hb, hml, hown, hts⟩ hK hP hD hS hA (k_X9_divisor_3 l D cy _) (va_cwS 2 hts gX9_odds_X9_divisor rfl rfl rfl (by decide +kernel) ⟨Nat.le_of_ble_eq_true rfl, Nat.le_of_ble_eq_true rfl⟩) [] [0, 1] rfl rfl rfl rfl (by decide) rfl hl.1 rfl (Nat.le_of_ble_eq_true rfl) dX9_odds_58 ⟨Nat.le_of_ble_eq_true rfl, Nat.le_of_ble_eq_true rfl⟩ rfl rfl (fun r _ H locs hw hP hD hS => ?_)
          have hP : va_P D vwCl [(a0, .inr (9, [v0_0, v0_1, v0_2, v0_3, v0_4, v0_5, v0_6, v0_7, v0_8, v0_9, v0_10, v0_11, v0_12, v0_13, .ref a1, v0_15, v0_16, v0_17, v0_18, v0_19, v0_20, v0_21, v0_22, v0_23, v0_24, v0_25, v0_26, v0_27, v0_28, .int 0, v0_30, v0_31, v0_32, v0_33, v0_34, v0_35, v0_36, v0_37, v0_38, v0_39, v0_40, v0_41, v0_42, v0_43, v0_44, v0_45, v0_46, v0_47, v0_48, v0_49, v0_50, v0_51, v0_52, v0_53, v0_54, v0_55, v0_56, v0_57, v0_58, v0_59, v0_60, v0_61, v0_62, v0_63])), (a1, .inl (cy 0, 2, .inl zI))] H := hP
          have hD : va_D A [(a0, .inr (9, [v0_0, v0_1, v0_2, v0_3, v0_4, v0_5, v0_6, v0_7, v0_8, v0_9, v0_10, v0_11, v0_12, v0_13, .ref a1, v0_15, v0_16, v0_17, v0_18, v0_19, v0_20, v0_21, v0_22, v0_23, v0_24, v0_25, v0_26, v0_27, v0_28, .int 0, v0_30, v0_31, v0_32, v0_33, v0_34, v0_35, v0_36, v0_37, v0_38, v0_39, v0_40, v0_41, v0_42, v0_43, v0_44, v0_45, v0_46, v0_47, v0_48, v0_49, v0_50, v0_51, v0_52, v0_53, v0_54, v0_55, v0_56, v0_57, v0_58, v0_59, v0_60, v0_61, v0_62, v0_63])), (a1, .inl (cy 0, 2, .inl zI))] := hD
          obtain rfl : r = 1000000 := hw
          refine lv_idiv hx hb dX9_odds_61 (by decide) (tpi (v := 1) (by decide) ?_)
          exact rtI hx hb hr hlk rfl hP hD hS () [] rfl rfl (Or.inr ⟨rfl, (Or.inr (Or.inr (Or.inr (Or.inr (Or.inr (Or.inr (Or.inr (Or.inl ⟨c2, c4, rfl, rfl⟩))))))))⟩) dX9_odds_62
      · have hsp34 : p2 = 0 ∨ p2 = 1 := by
          simp only [i_lt, i_le, i_eq, tl_m1, tl_0, tl_1, tl_2, tl_3, tl_4, tl_20, tl_60, tl_99, tl_1000, tl_100000] at c4 ⊢
          omega
        rcases hsp34 with rfl | rfl
        · refine lv_bipush (v := 100) hx hb dX9_odds_20 (by decide) ?_
          refine lv_aload_n hx hb dX9_odds_22 rfl (lv_at hl 0 rfl) ?_
          refine va_get (D := D) (cl := vwCl) (ci := 9) (v := .ref a1) (C := RX9) (T := TX9) (N := 64) hx hb hts in_X9_odds_X9 hown hK hP 0 rfl rfl 14 (by decide) (hts (.fieldLink RX9 30 "EightReasonsModel" "fray" "[I") (List.mem_of_getElem? (i := 1) (by decide +kernel))) (fun _ h9 => h9) rfl dX9_odds_23 ?_
          refine lv_aload_n hx hb dX9_odds_26 rfl (lv_at hl 0 rfl) ?_
          refine va_get (D := D) (cl := vwCl) (ci := 9) (v := .int 0) (C := RX9) (T := TX9) (N := 64) hx hb hts in_X9_odds_X9 hown hK hP 0 rfl rfl 29 (by decide) (hts (.fieldLink RX9 239 "EightReasonsModel" "bank" "I") (List.mem_of_getElem? (i := 2) (by decide +kernel))) (fun _ h9 => h9) rfl dX9_odds_27 ?_
          refine va_iald hx hb hK hP 1 0 rfl rfl (vin (by decide)) dX9_odds_30 (tpi (v := 0) rfl ?_)
          refine lv_isub hx hb dX9_odds_31 (tpi (v := 100) (by decide) ?_)
          refine lv_iload_n hx hb dX9_odds_32 rfl (lv_at hl 1 rfl) ?_
          refine clSI (As := [.int 100, .int 4]) (rest := []) (wr := [(a0, .inr (9, [v0_0, v0_1, v0_2, v0_3, v0_4, v0_5, v0_6, v0_7, v0_8, v0_9, v0_10, v0_11, v0_12, v0_13, .ref a1, v0_15, v0_16, v0_17, v0_18, v0_19, v0_20, v0_21, v0_22, v0_23, v0_24, v0_25, v0_26, v0_27, v0_28, .int 0, v0_30, v0_31, v0_32, v0_33, v0_34, v0_35, v0_36, v0_37, v0_38, v0_39, v0_40, v0_41, v0_42, v0_43, v0_44, v0_45, v0_46, v0_47, v0_48, v0_49, v0_50, v0_51, v0_52, v0_53, v0_54, v0_55, v0_56, v0_57, v0_58, v0_59, v0_60, v0_61, v0_62, v0_63])), (a1, .inl (cy 0, 2, .inl zI))]) ⟨hx, hb, hml, hown, hts⟩ hK hP hD hS hA (k_X9_raised_4 l D cy _) (va_cwS 2 hts gX9_odds_X9_raised rfl rfl rfl (by decide +kernel) ⟨Nat.le_of_ble_eq_true rfl, Nat.le_of_ble_eq_true rfl⟩) [] [0, 1] rfl rfl rfl rfl (by decide) rfl hl.1 rfl (Nat.le_of_ble_eq_true rfl) dX9_odds_33 ⟨Nat.le_of_ble_eq_true rfl, Nat.le_of_ble_eq_true rfl⟩ rfl rfl (fun r _ H locs hw hP hD hS => ?_)
          have hP : va_P D vwCl [(a0, .inr (9, [v0_0, v0_1, v0_2, v0_3, v0_4, v0_5, v0_6, v0_7, v0_8, v0_9, v0_10, v0_11, v0_12, v0_13, .ref a1, v0_15, v0_16, v0_17, v0_18, v0_19, v0_20, v0_21, v0_22, v0_23, v0_24, v0_25, v0_26, v0_27, v0_28, .int 0, v0_30, v0_31, v0_32, v0_33, v0_34, v0_35, v0_36, v0_37, v0_38, v0_39, v0_40, v0_41, v0_42, v0_43, v0_44, v0_45, v0_46, v0_47, v0_48, v0_49, v0_50, v0_51, v0_52, v0_53, v0_54, v0_55, v0_56, v0_57, v0_58, v0_59, v0_60, v0_61, v0_62, v0_63])), (a1, .inl (cy 0, 2, .inl zI))] H := hP
          have hD : va_D A [(a0, .inr (9, [v0_0, v0_1, v0_2, v0_3, v0_4, v0_5, v0_6, v0_7, v0_8, v0_9, v0_10, v0_11, v0_12, v0_13, .ref a1, v0_15, v0_16, v0_17, v0_18, v0_19, v0_20, v0_21, v0_22, v0_23, v0_24, v0_25, v0_26, v0_27, v0_28, .int 0, v0_30, v0_31, v0_32, v0_33, v0_34, v0_35, v0_36, v0_37, v0_38, v0_39, v0_40, v0_41, v0_42, v0_43, v0_44, v0_45, v0_46, v0_47, v0_48, v0_49, v0_50, v0_51, v0_52, v0_53, v0_54, v0_55, v0_56, v0_57, v0_58, v0_59, v0_60, v0_61, v0_62, v0_63])), (a1, .inl (cy 0, 2, .inl zI))] := hD
          obtain rfl : r = 100000000 := hw
          refine lv_istore_n (lv' := [(3, .int 100000000), (0, .ref a0), (1, .int 4), (2, .int 0)]) hx hb dX9_odds_36 rfl hl (by decide) rfl (fun ls hl => ?_)
          refine lv_bipush (v := 100) hx hb dX9_odds_37 (by decide) ?_
          refine lv_iload_n hx hb dX9_odds_39 rfl (lv_at hl 2 rfl) ?_
          refine clSI (As := [.int 100, .int 4]) (rest := []) (wr := [(a0, .inr (9, [v0_0, v0_1, v0_2, v0_3, v0_4, v0_5, v0_6, v0_7, v0_8, v0_9, v0_10, v0_11, v0_12, v0_13, .ref a1, v0_15, v0_16, v0_17, v0_18, v0_19, v0_20, v0_21, v0_22, v0_23, v0_24, v0_25, v0_26, v0_27, v0_28, .int 0, v0_30, v0_31, v0_32, v0_33, v0_34, v0_35, v0_36, v0_37, v0_38, v0_39, v0_40, v0_41, v0_42, v0_43, v0_44, v0_45, v0_46, v0_47, v0_48, v0_49, v0_50, v0_51, v0_52, v0_53, v0_54, v0_55, v0_56, v0_57, v0_58, v0_59, v0_60, v0_61, v0_62, v0_63])), (a1, .inl (cy 0, 2, .inl zI))]) ⟨hx, hb, hml, hown, hts⟩ hK hP hD hS hA (k_X9_raised_4 l D cy _) (va_cwS 2 hts gX9_odds_X9_raised rfl rfl rfl (by decide +kernel) ⟨Nat.le_of_ble_eq_true rfl, Nat.le_of_ble_eq_true rfl⟩) [] [0, 1] rfl rfl rfl rfl (by decide) rfl hl.1 rfl (Nat.le_of_ble_eq_true rfl) dX9_odds_40 ⟨Nat.le_of_ble_eq_true rfl, Nat.le_of_ble_eq_true rfl⟩ rfl rfl (fun r _ H locs hw hP hD hS => ?_)
          have hP : va_P D vwCl [(a0, .inr (9, [v0_0, v0_1, v0_2, v0_3, v0_4, v0_5, v0_6, v0_7, v0_8, v0_9, v0_10, v0_11, v0_12, v0_13, .ref a1, v0_15, v0_16, v0_17, v0_18, v0_19, v0_20, v0_21, v0_22, v0_23, v0_24, v0_25, v0_26, v0_27, v0_28, .int 0, v0_30, v0_31, v0_32, v0_33, v0_34, v0_35, v0_36, v0_37, v0_38, v0_39, v0_40, v0_41, v0_42, v0_43, v0_44, v0_45, v0_46, v0_47, v0_48, v0_49, v0_50, v0_51, v0_52, v0_53, v0_54, v0_55, v0_56, v0_57, v0_58, v0_59, v0_60, v0_61, v0_62, v0_63])), (a1, .inl (cy 0, 2, .inl zI))] H := hP
          have hD : va_D A [(a0, .inr (9, [v0_0, v0_1, v0_2, v0_3, v0_4, v0_5, v0_6, v0_7, v0_8, v0_9, v0_10, v0_11, v0_12, v0_13, .ref a1, v0_15, v0_16, v0_17, v0_18, v0_19, v0_20, v0_21, v0_22, v0_23, v0_24, v0_25, v0_26, v0_27, v0_28, .int 0, v0_30, v0_31, v0_32, v0_33, v0_34, v0_35, v0_36, v0_37, v0_38, v0_39, v0_40, v0_41, v0_42, v0_43, v0_44, v0_45, v0_46, v0_47, v0_48, v0_49, v0_50, v0_51, v0_52, v0_53, v0_54, v0_55, v0_56, v0_57, v0_58, v0_59, v0_60, v0_61, v0_62, v0_63])), (a1, .inl (cy 0, 2, .inl zI))] := hD
          obtain rfl : r = 100000000 := hw
          refine lv_istore (lv' := [(4, .int 100000000), (3, .int 100000000), (0, .ref a0), (1, .int 4), (2, .int 0)]) hx hb dX9_odds_43 hl (by decide) rfl (fun ls hl => ?_)
          refine lv_iload_n hx hb dX9_odds_45 rfl (lv_at hl 4 rfl) ?_
          refine lv_if_ne (tgt := 53) hx hb dX9_odds_46 (by decide) (fun c => absurd (by decide) c) (fun _ => ?_)
          refine lv_iload_n hx hb dX9_odds_49 rfl (lv_at hl 1 rfl) ?_
          refine lv_goto (tgt := 55) hx hb dX9_odds_50 (by decide) ?_
          refine lv_iload hx hb dX9_odds_55 (lv_at hl 0 rfl) ?_
          refine lv_iload_n hx hb dX9_odds_57 rfl (lv_at hl 1 rfl) ?_
          refine clSI (As := [.int 100000000, .int 100000000]) (rest := [.int 100000000]) (wr := [(a0, .inr (9, [v0_0, v0_1, v0_2, v0_3, v0_4, v0_5, v0_6, v0_7, v0_8, v0_9, v0_10, v0_11, v0_12, v0_13, .ref a1, v0_15, v0_16, v0_17, v0_18, v0_19, v0_20, v0_21, v0_22, v0_23, v0_24, v0_25, v0_26, v0_27, v0_28, .int 0, v0_30, v0_31, v0_32, v0_33, v0_34, v0_35, v0_36, v0_37, v0_38, v0_39, v0_40, v0_41, v0_42, v0_43, v0_44, v0_45, v0_46, v0_47, v0_48, v0_49, v0_50, v0_51, v0_52, v0_53, v0_54, v0_55, v0_56, v0_57, v0_58, v0_59, v0_60, v0_61, v0_62, v0_63])), (a1, .inl (cy 0, 2, .inl zI))]) ⟨hx, hb, hml, hown, hts⟩ hK hP hD hS hA (k_X9_divisor_4 l D cy _) (va_cwS 2 hts gX9_odds_X9_divisor rfl rfl rfl (by decide +kernel) ⟨Nat.le_of_ble_eq_true rfl, Nat.le_of_ble_eq_true rfl⟩) [] [0, 1] rfl rfl rfl rfl (by decide) rfl hl.1 rfl (Nat.le_of_ble_eq_true rfl) dX9_odds_58 ⟨Nat.le_of_ble_eq_true rfl, Nat.le_of_ble_eq_true rfl⟩ rfl rfl (fun r _ H locs hw hP hD hS => ?_)
          have hP : va_P D vwCl [(a0, .inr (9, [v0_0, v0_1, v0_2, v0_3, v0_4, v0_5, v0_6, v0_7, v0_8, v0_9, v0_10, v0_11, v0_12, v0_13, .ref a1, v0_15, v0_16, v0_17, v0_18, v0_19, v0_20, v0_21, v0_22, v0_23, v0_24, v0_25, v0_26, v0_27, v0_28, .int 0, v0_30, v0_31, v0_32, v0_33, v0_34, v0_35, v0_36, v0_37, v0_38, v0_39, v0_40, v0_41, v0_42, v0_43, v0_44, v0_45, v0_46, v0_47, v0_48, v0_49, v0_50, v0_51, v0_52, v0_53, v0_54, v0_55, v0_56, v0_57, v0_58, v0_59, v0_60, v0_61, v0_62, v0_63])), (a1, .inl (cy 0, 2, .inl zI))] H := hP
          have hD : va_D A [(a0, .inr (9, [v0_0, v0_1, v0_2, v0_3, v0_4, v0_5, v0_6, v0_7, v0_8, v0_9, v0_10, v0_11, v0_12, v0_13, .ref a1, v0_15, v0_16, v0_17, v0_18, v0_19, v0_20, v0_21, v0_22, v0_23, v0_24, v0_25, v0_26, v0_27, v0_28, .int 0, v0_30, v0_31, v0_32, v0_33, v0_34, v0_35, v0_36, v0_37, v0_38, v0_39, v0_40, v0_41, v0_42, v0_43, v0_44, v0_45, v0_46, v0_47, v0_48, v0_49, v0_50, v0_51, v0_52, v0_53, v0_54, v0_55, v0_56, v0_57, v0_58, v0_59, v0_60, v0_61, v0_62, v0_63])), (a1, .inl (cy 0, 2, .inl zI))] := hD
          obtain rfl : r = 100000000 := hw
          refine lv_idiv hx hb dX9_odds_61 (by decide) (tpi (v := 1) (by decide) ?_)
          exact rtI hx hb hr hlk rfl hP hD hS () [] rfl rfl (Or.inr ⟨rfl, (Or.inr (Or.inr (Or.inr (Or.inr (Or.inr (Or.inr (Or.inr (Or.inr (Or.inl ⟨c2, c4, rfl, rfl⟩)))))))))⟩) dX9_odds_62
        · refine lv_bipush (v := 100) hx hb dX9_odds_20 (by decide) ?_
          refine lv_aload_n hx hb dX9_odds_22 rfl (lv_at hl 0 rfl) ?_
          refine va_get (D := D) (cl := vwCl) (ci := 9) (v := .ref a1) (C := RX9) (T := TX9) (N := 64) hx hb hts in_X9_odds_X9 hown hK hP 0 rfl rfl 14 (by decide) (hts (.fieldLink RX9 30 "EightReasonsModel" "fray" "[I") (List.mem_of_getElem? (i := 1) (by decide +kernel))) (fun _ h9 => h9) rfl dX9_odds_23 ?_
          refine lv_aload_n hx hb dX9_odds_26 rfl (lv_at hl 0 rfl) ?_
          refine va_get (D := D) (cl := vwCl) (ci := 9) (v := .int 0) (C := RX9) (T := TX9) (N := 64) hx hb hts in_X9_odds_X9 hown hK hP 0 rfl rfl 29 (by decide) (hts (.fieldLink RX9 239 "EightReasonsModel" "bank" "I") (List.mem_of_getElem? (i := 2) (by decide +kernel))) (fun _ h9 => h9) rfl dX9_odds_27 ?_
          refine va_iald hx hb hK hP 1 0 rfl rfl (vin (by decide)) dX9_odds_30 (tpi (v := 0) rfl ?_)
          refine lv_isub hx hb dX9_odds_31 (tpi (v := 100) (by decide) ?_)
          refine lv_iload_n hx hb dX9_odds_32 rfl (lv_at hl 1 rfl) ?_
          refine clSI (As := [.int 100, .int 4]) (rest := []) (wr := [(a0, .inr (9, [v0_0, v0_1, v0_2, v0_3, v0_4, v0_5, v0_6, v0_7, v0_8, v0_9, v0_10, v0_11, v0_12, v0_13, .ref a1, v0_15, v0_16, v0_17, v0_18, v0_19, v0_20, v0_21, v0_22, v0_23, v0_24, v0_25, v0_26, v0_27, v0_28, .int 0, v0_30, v0_31, v0_32, v0_33, v0_34, v0_35, v0_36, v0_37, v0_38, v0_39, v0_40, v0_41, v0_42, v0_43, v0_44, v0_45, v0_46, v0_47, v0_48, v0_49, v0_50, v0_51, v0_52, v0_53, v0_54, v0_55, v0_56, v0_57, v0_58, v0_59, v0_60, v0_61, v0_62, v0_63])), (a1, .inl (cy 0, 2, .inl zI))]) ⟨hx, hb, hml, hown, hts⟩ hK hP hD hS hA (k_X9_raised_4 l D cy _) (va_cwS 2 hts gX9_odds_X9_raised rfl rfl rfl (by decide +kernel) ⟨Nat.le_of_ble_eq_true rfl, Nat.le_of_ble_eq_true rfl⟩) [] [0, 1] rfl rfl rfl rfl (by decide) rfl hl.1 rfl (Nat.le_of_ble_eq_true rfl) dX9_odds_33 ⟨Nat.le_of_ble_eq_true rfl, Nat.le_of_ble_eq_true rfl⟩ rfl rfl (fun r _ H locs hw hP hD hS => ?_)
          have hP : va_P D vwCl [(a0, .inr (9, [v0_0, v0_1, v0_2, v0_3, v0_4, v0_5, v0_6, v0_7, v0_8, v0_9, v0_10, v0_11, v0_12, v0_13, .ref a1, v0_15, v0_16, v0_17, v0_18, v0_19, v0_20, v0_21, v0_22, v0_23, v0_24, v0_25, v0_26, v0_27, v0_28, .int 0, v0_30, v0_31, v0_32, v0_33, v0_34, v0_35, v0_36, v0_37, v0_38, v0_39, v0_40, v0_41, v0_42, v0_43, v0_44, v0_45, v0_46, v0_47, v0_48, v0_49, v0_50, v0_51, v0_52, v0_53, v0_54, v0_55, v0_56, v0_57, v0_58, v0_59, v0_60, v0_61, v0_62, v0_63])), (a1, .inl (cy 0, 2, .inl zI))] H := hP
          have hD : va_D A [(a0, .inr (9, [v0_0, v0_1, v0_2, v0_3, v0_4, v0_5, v0_6, v0_7, v0_8, v0_9, v0_10, v0_11, v0_12, v0_13, .ref a1, v0_15, v0_16, v0_17, v0_18, v0_19, v0_20, v0_21, v0_22, v0_23, v0_24, v0_25, v0_26, v0_27, v0_28, .int 0, v0_30, v0_31, v0_32, v0_33, v0_34, v0_35, v0_36, v0_37, v0_38, v0_39, v0_40, v0_41, v0_42, v0_43, v0_44, v0_45, v0_46, v0_47, v0_48, v0_49, v0_50, v0_51, v0_52, v0_53, v0_54, v0_55, v0_56, v0_57, v0_58, v0_59, v0_60, v0_61, v0_62, v0_63])), (a1, .inl (cy 0, 2, .inl zI))] := hD
          obtain rfl : r = 100000000 := hw
          refine lv_istore_n (lv' := [(3, .int 100000000), (0, .ref a0), (1, .int 4), (2, .int 1)]) hx hb dX9_odds_36 rfl hl (by decide) rfl (fun ls hl => ?_)
          refine lv_bipush (v := 100) hx hb dX9_odds_37 (by decide) ?_
          refine lv_iload_n hx hb dX9_odds_39 rfl (lv_at hl 2 rfl) ?_
          refine clSI (As := [.int 100, .int 4]) (rest := []) (wr := [(a0, .inr (9, [v0_0, v0_1, v0_2, v0_3, v0_4, v0_5, v0_6, v0_7, v0_8, v0_9, v0_10, v0_11, v0_12, v0_13, .ref a1, v0_15, v0_16, v0_17, v0_18, v0_19, v0_20, v0_21, v0_22, v0_23, v0_24, v0_25, v0_26, v0_27, v0_28, .int 0, v0_30, v0_31, v0_32, v0_33, v0_34, v0_35, v0_36, v0_37, v0_38, v0_39, v0_40, v0_41, v0_42, v0_43, v0_44, v0_45, v0_46, v0_47, v0_48, v0_49, v0_50, v0_51, v0_52, v0_53, v0_54, v0_55, v0_56, v0_57, v0_58, v0_59, v0_60, v0_61, v0_62, v0_63])), (a1, .inl (cy 0, 2, .inl zI))]) ⟨hx, hb, hml, hown, hts⟩ hK hP hD hS hA (k_X9_raised_4 l D cy _) (va_cwS 2 hts gX9_odds_X9_raised rfl rfl rfl (by decide +kernel) ⟨Nat.le_of_ble_eq_true rfl, Nat.le_of_ble_eq_true rfl⟩) [] [0, 1] rfl rfl rfl rfl (by decide) rfl hl.1 rfl (Nat.le_of_ble_eq_true rfl) dX9_odds_40 ⟨Nat.le_of_ble_eq_true rfl, Nat.le_of_ble_eq_true rfl⟩ rfl rfl (fun r _ H locs hw hP hD hS => ?_)
          have hP : va_P D vwCl [(a0, .inr (9, [v0_0, v0_1, v0_2, v0_3, v0_4, v0_5, v0_6, v0_7, v0_8, v0_9, v0_10, v0_11, v0_12, v0_13, .ref a1, v0_15, v0_16, v0_17, v0_18, v0_19, v0_20, v0_21, v0_22, v0_23, v0_24, v0_25, v0_26, v0_27, v0_28, .int 0, v0_30, v0_31, v0_32, v0_33, v0_34, v0_35, v0_36, v0_37, v0_38, v0_39, v0_40, v0_41, v0_42, v0_43, v0_44, v0_45, v0_46, v0_47, v0_48, v0_49, v0_50, v0_51, v0_52, v0_53, v0_54, v0_55, v0_56, v0_57, v0_58, v0_59, v0_60, v0_61, v0_62, v0_63])), (a1, .inl (cy 0, 2, .inl zI))] H := hP
          have hD : va_D A [(a0, .inr (9, [v0_0, v0_1, v0_2, v0_3, v0_4, v0_5, v0_6, v0_7, v0_8, v0_9, v0_10, v0_11, v0_12, v0_13, .ref a1, v0_15, v0_16, v0_17, v0_18, v0_19, v0_20, v0_21, v0_22, v0_23, v0_24, v0_25, v0_26, v0_27, v0_28, .int 0, v0_30, v0_31, v0_32, v0_33, v0_34, v0_35, v0_36, v0_37, v0_38, v0_39, v0_40, v0_41, v0_42, v0_43, v0_44, v0_45, v0_46, v0_47, v0_48, v0_49, v0_50, v0_51, v0_52, v0_53, v0_54, v0_55, v0_56, v0_57, v0_58, v0_59, v0_60, v0_61, v0_62, v0_63])), (a1, .inl (cy 0, 2, .inl zI))] := hD
          obtain rfl : r = 100000000 := hw
          refine lv_istore (lv' := [(4, .int 100000000), (3, .int 100000000), (0, .ref a0), (1, .int 4), (2, .int 1)]) hx hb dX9_odds_43 hl (by decide) rfl (fun ls hl => ?_)
          refine lv_iload_n hx hb dX9_odds_45 rfl (lv_at hl 4 rfl) ?_
          refine lv_if_ne (tgt := 53) hx hb dX9_odds_46 (by decide) (fun _ => ?_) (fun c => absurd c (by decide))
          refine lv_iload hx hb dX9_odds_53 (lv_at hl 0 rfl) ?_
          refine lv_iload hx hb dX9_odds_55 (lv_at hl 0 rfl) ?_
          refine lv_iload_n hx hb dX9_odds_57 rfl (lv_at hl 1 rfl) ?_
          refine clSI (As := [.int 100000000, .int 100000000]) (rest := [.int 100000000]) (wr := [(a0, .inr (9, [v0_0, v0_1, v0_2, v0_3, v0_4, v0_5, v0_6, v0_7, v0_8, v0_9, v0_10, v0_11, v0_12, v0_13, .ref a1, v0_15, v0_16, v0_17, v0_18, v0_19, v0_20, v0_21, v0_22, v0_23, v0_24, v0_25, v0_26, v0_27, v0_28, .int 0, v0_30, v0_31, v0_32, v0_33, v0_34, v0_35, v0_36, v0_37, v0_38, v0_39, v0_40, v0_41, v0_42, v0_43, v0_44, v0_45, v0_46, v0_47, v0_48, v0_49, v0_50, v0_51, v0_52, v0_53, v0_54, v0_55, v0_56, v0_57, v0_58, v0_59, v0_60, v0_61, v0_62, v0_63])), (a1, .inl (cy 0, 2, .inl zI))]) ⟨hx, hb, hml, hown, hts⟩ hK hP hD hS hA (k_X9_divisor_4 l D cy _) (va_cwS 2 hts gX9_odds_X9_divisor rfl rfl rfl (by decide +kernel) ⟨Nat.le_of_ble_eq_true rfl, Nat.le_of_ble_eq_true rfl⟩) [] [0, 1] rfl rfl rfl rfl (by decide) rfl hl.1 rfl (Nat.le_of_ble_eq_true rfl) dX9_odds_58 ⟨Nat.le_of_ble_eq_true rfl, Nat.le_of_ble_eq_true rfl⟩ rfl rfl (fun r _ H locs hw hP hD hS => ?_)
          have hP : va_P D vwCl [(a0, .inr (9, [v0_0, v0_1, v0_2, v0_3, v0_4, v0_5, v0_6, v0_7, v0_8, v0_9, v0_10, v0_11, v0_12, v0_13, .ref a1, v0_15, v0_16, v0_17, v0_18, v0_19, v0_20, v0_21, v0_22, v0_23, v0_24, v0_25, v0_26, v0_27, v0_28, .int 0, v0_30, v0_31, v0_32, v0_33, v0_34, v0_35, v0_36, v0_37, v0_38, v0_39, v0_40, v0_41, v0_42, v0_43, v0_44, v0_45, v0_46, v0_47, v0_48, v0_49, v0_50, v0_51, v0_52, v0_53, v0_54, v0_55, v0_56, v0_57, v0_58, v0_59, v0_60, v0_61, v0_62, v0_63])), (a1, .inl (cy 0, 2, .inl zI))] H := hP
          have hD : va_D A [(a0, .inr (9, [v0_0, v0_1, v0_2, v0_3, v0_4, v0_5, v0_6, v0_7, v0_8, v0_9, v0_10, v0_11, v0_12, v0_13, .ref a1, v0_15, v0_16, v0_17, v0_18, v0_19, v0_20, v0_21, v0_22, v0_23, v0_24, v0_25, v0_26, v0_27, v0_28, .int 0, v0_30, v0_31, v0_32, v0_33, v0_34, v0_35, v0_36, v0_37, v0_38, v0_39, v0_40, v0_41, v0_42, v0_43, v0_44, v0_45, v0_46, v0_47, v0_48, v0_49, v0_50, v0_51, v0_52, v0_53, v0_54, v0_55, v0_56, v0_57, v0_58, v0_59, v0_60, v0_61, v0_62, v0_63])), (a1, .inl (cy 0, 2, .inl zI))] := hD
          obtain rfl : r = 100000000 := hw
          refine lv_idiv hx hb dX9_odds_61 (by decide) (tpi (v := 1) (by decide) ?_)
          exact rtI hx hb hr hlk rfl hP hD hS () [] rfl rfl (Or.inr ⟨rfl, (Or.inr (Or.inr (Or.inr (Or.inr (Or.inr (Or.inr (Or.inr (Or.inr (Or.inr ⟨c2, c4, rfl, rfl⟩)))))))))⟩) dX9_odds_62
