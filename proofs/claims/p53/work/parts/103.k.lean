
set_option maxHeartbeats 4000000 in
set_option maxRecDepth 100000 in
theorem s_X3_readTerm_3 (l : Launch) (B0 : Nat) (adK adV : Nat → Nat) (D : va_G) (cy : Nat → ClassId) (ad : Nat → Nat) (fr0 : Nat → va_E) (tx : Int32) (rby : Int32) (rnx : Int32) (f : Nat → va_E) (hT : TYx ad cy fr0 tx rby rnx f) (sz : Nat) : TtV l yX3_readTerm wsX3_readTerm 25 584 [.ref (ad 1), .int 4] B0 adK adV D cy ad f sz (fun (g : Nat → va_E) => True ∧ (∃ (rnx' : Int32), TYx ad cy fr0 tx rby rnx' g)) := by
  refine TtV.of (cc := cX3_readTerm) (maxL := 4) (own := RX3) (by decide) rfl (Nat.le_of_ble_eq_true rfl) rfl ?_
  intro p e s m below meth c A ls hx hb hr hml hts hown hlk hK hE hP hD hS hA hAB hl
  have hl : lv_has ls 4 [(0, .ref (ad 1)), (1, .int 4)] := hl
  refine st0 (fun H locs hP hS => ?_) hP hS
  have j7 : ∀ (N : Nat) (f : Nat → va_E) (H : Heap) (locs : List Loc) (ls : Array Slot) (v7_l2 : Int32) (v7_p_rnx : Int32), (1601 - v7_l2.toInt ≤ (N : Int)) → (0 ≤ v7_l2.toInt ∧ v7_l2.toInt ≤ 1600) → (TYx ad cy fr0 tx rby v7_p_rnx f) → (va_P D vwCl (wl ad f) H) → (va_D A (wl ad f)) → (va_S A s.heap H locs) → (lv_has ls 4 [(2, .int v7_l2), (0, .ref (ad 1)), (1, .int 4)]) → W p l e (rmO 25 584 0 0) s m ([.ref (ad 1), .int 4] : List Value).toArray below meth c H locs 0 0 (MQ below (va_Qv (fun (g : Nat → va_E) => True ∧ (∃ (rnx' : Int32), TYx ad cy fr0 tx rby rnx' g)) (fun g t => PstT D ad g t) A) ([.ref (ad 1), .int 4] : List Value).toArray s 0 0 A) (F0 m 7 ls []) := by
    intro N
    induction N with
    | zero => intro f H locs ls v7_l2 v7_p_rnx hN hv7_l2 hT hP hD hS hl; exact absurd hN (by omega)
    | succ N ih7 =>
      intro f H locs ls v7_l2 v7_p_rnx hN hv7_l2 hT hP hD hS hl
      have j48 : ∀ (f : Nat → va_E) (H : Heap) (locs : List Loc) (ls : Array Slot), (0 ≤ v7_l2.toInt ∧ v7_l2.toInt ≤ 1599) → (TYx ad cy fr0 tx rby v7_p_rnx f) → (va_P D vwCl (wl ad f) H) → (va_D A (wl ad f)) → (va_S A s.heap H locs) → (lv_has ls 4 [(2, .int v7_l2), (0, .ref (ad 1)), (1, .int 4)]) → W p l e (rmO 25 584 0 0) s m ([.ref (ad 1), .int 4] : List Value).toArray below meth c H locs 0 0 (MQ below (va_Qv (fun (g : Nat → va_E) => True ∧ (∃ (rnx' : Int32), TYx ad cy fr0 tx rby rnx' g)) (fun g t => PstT D ad g t) A) ([.ref (ad 1), .int 4] : List Value).toArray s 0 0 A) (F0 m 48 ls []) := by
        intro f H locs ls hv48_l2 hT hP hD hS hl
        refine lv_aload_n hx hb dX3_readTerm_48 rfl (lv_at hl 1 rfl) ?_
        obtain ⟨x1, x2, t4, x6, x8, x9, x10, y11, e12, h3, h5, h7⟩ := (show okX3 ad rby v7_p_rnx 1 (f 1) from hT.1 1 (by decide))
        refine va_get (D := D) (cl := vwCl) (ci := 3) (v := .int x9) (C := RX3) (T := TX3) (N := 13) hx hb hts in_X3_readTerm_X3 hown hK hP 1 (wl_at (by decide) e12) rfl 10 (by decide) (hts (.fieldLink RX3 67 "EightReasons$Reader" "kind" "I") (List.mem_of_getElem? (i := 2) rfl)) (fun _ h9 => h9) rfl dX3_readTerm_49 ?_
        refine lv_istore_n (lv' := [(3, .int x9), (2, .int v7_l2), (0, .ref (ad 1)), (1, .int 4)]) hx hb dX3_readTerm_52 rfl hl (by decide) rfl (fun ls hl => ?_)
        refine lv_aload_n hx hb dX3_readTerm_53 rfl (lv_at hl 2 rfl) ?_
        refine tVV (As := []) (rest := []) (i := 1) ⟨hx, hb, hml, hown, hts⟩ hK hE hP hD hS hA hAB (s_X3_advance_0 l B0 adK adV D cy ad fr0 tx rby v7_p_rnx f hT _) (cwV 0 hts gX3_readTerm_X3_advance rfl rfl rfl (by decide +kernel) ⟨Nat.le_of_ble_eq_true rfl, Nat.le_of_ble_eq_true rfl⟩) (by decide) 3 e12 rfl rfl hl.1 rfl (Nat.le_of_ble_eq_true rfl) dX3_readTerm_54 ⟨Nat.le_of_ble_eq_true rfl, Nat.le_of_ble_eq_true rfl⟩ (fun f H locs hw hP hD hS => ?_)
        obtain ⟨hrs, x13, hT⟩ := hw
        refine lv_aload_n hx hb dX3_readTerm_57 rfl (lv_at hl 2 rfl) ?_
        refine lv_iload_n hx hb dX3_readTerm_58 rfl (lv_at hl 3 rfl) ?_
        have ttl_4 := tl_4
        obtain ⟨x14, x15, t17, x19, x21, x22, x23, y24, e25, h16, h18, h20⟩ := (show okX3 ad rby x13 1 (f 1) from hT.1 1 (by decide))
        refine tVV (As := [.int 4]) (rest := []) (i := 1) ⟨hx, hb, hml, hown, hts⟩ hK hE hP hD hS hA hAB (s_X3_readUnit_3 l B0 adK adV D cy ad fr0 tx rby x13 f hT _) (cwV 1 hts gX3_readTerm_X3_readUnit rfl rfl rfl (by decide +kernel) ⟨Nat.le_of_ble_eq_true rfl, Nat.le_of_ble_eq_true rfl⟩) (by decide) 3 e25 rfl rfl hl.1 rfl (Nat.le_of_ble_eq_true rfl) dX3_readTerm_59 ⟨Nat.le_of_ble_eq_true rfl, Nat.le_of_ble_eq_true rfl⟩ (fun f H locs hw hP hD hS => ?_)
        obtain ⟨hrs, x26, hT⟩ := hw
        refine lv_aload_n hx hb dX3_readTerm_62 rfl (lv_at hl 2 rfl) ?_
        obtain ⟨x27, x28, t30, x32, x34, x35, x36, y37, e38, h29, h31, h33⟩ := (show okX3 ad rby x26 1 (f 1) from hT.1 1 (by decide))
        refine va_get (D := D) (cl := vwCl) (ci := 3) (v := .ref (ad t30)) (C := RX3) (T := TX3) (N := 13) hx hb hts in_X3_readTerm_X3 hown hK hP 1 (wl_at (by decide) e38) rfl 4 (by decide) (hts (.fieldLink RX3 22 "EightReasons$Reader" "suit" "LEightReasons$Suit;") (List.mem_of_getElem? (i := 3) rfl)) (fun _ h9 => h9) rfl dX3_readTerm_63 ?_
        obtain ⟨x39, x41, x42, x44, x45, e46, h40, h43⟩ := (ty_suit hT h31)
        refine va_get (D := D) (cl := vwCl) (ci := 5) (v := .ref (ad (t30 + 7))) (C := RX5) (T := TX5) (N := 12) hx hb hts in_X3_readTerm_X5 hown hK hP t30 (wl_at (x_lt (x_suit0 h31)) e46) rfl 11 (by decide) (hts (.fieldLink RX3 191 "EightReasons$Suit" "formula" "LEightReasons$Formula;") (List.mem_of_getElem? (i := 4) rfl)) (fun _ h9 => h9) rfl dX3_readTerm_66 ?_
        refine lv_iload_n hx hb dX3_readTerm_69 rfl (lv_at hl 0 rfl) ?_
        obtain ⟨x47, x49, x50, e52, h48, h51⟩ := (ty_suit7 hT h31)
        refine tVV (As := [.int x9]) (rest := []) (i := (t30 + 7)) ⟨hx, hb, hml, hown, hts⟩ hK hE hP hD hS hA hAB (s_X1_add_0 l B0 adK adV D cy ad fr0 tx rby x26 f hT t30 h31 x9 _) (cwV 1 hts gX3_readTerm_X1_add rfl rfl rfl (by decide +kernel) ⟨Nat.le_of_ble_eq_true rfl, Nat.le_of_ble_eq_true rfl⟩) (x_lt (x_suit h31 (by decide))) 1 e52 rfl rfl hl.1 rfl (Nat.le_of_ble_eq_true rfl) dX3_readTerm_70 ⟨Nat.le_of_ble_eq_true rfl, Nat.le_of_ble_eq_true rfl⟩ (fun f H locs hw hP hD hS => ?_)
        obtain ⟨hrs, hT⟩ := hw
        obtain ⟨x53, ex53⟩ : ∃ q : Int32, q = v7_l2 + Int32.ofInt (1) := ⟨_, rfl⟩
        refine lv_iinc (v := x53) (lv' := [(2, .int x53), (3, .int x9), (0, .ref (ad 1)), (1, .int 4)]) hx hb dX3_readTerm_73 hl (k := 1) rfl ex53.symm (by decide) rfl (fun ls hl => ?_)
        have hx53 := r_inc ex53 (by decide) (by omega) (by omega)
        refine lv_goto (tgt := 7) hx hb dX3_readTerm_76 (by decide) ?_
        exact ih7 f H locs ls x53 x26 (by omega) (by omega) hT hP hD hS (lv_sub hl [0, 2, 3] rfl)
      refine lv_iload_n hx hb dX3_readTerm_7 rfl (lv_at hl 0 rfl) ?_
      refine lv_sipush (v := 1600) hx hb dX3_readTerm_8 (by decide) ?_
      have ttl_1600 := tl_1600
      refine lv_icmp_ge (tgt := 79) hx hb dX3_readTerm_11 (by decide) (fun c54 => ?_) (fun c54 => ?_)
      · have kc54 := c_le c54
        exact tV hx hb hr hlk hP hS ⟨trivial, ⟨v7_p_rnx, hT⟩⟩ dX3_readTerm_79
      · have kc54 := c_nle c54
        refine lv_aload_n hx hb dX3_readTerm_14 rfl (lv_at hl 1 rfl) ?_
        obtain ⟨x55, x56, t58, x60, x62, x63, x64, y65, e66, h57, h59, h61⟩ := (show okX3 ad rby v7_p_rnx 1 (f 1) from hT.1 1 (by decide))
        refine va_get (D := D) (cl := vwCl) (ci := 3) (v := .int x55) (C := RX3) (T := TX3) (N := 13) hx hb hts in_X3_readTerm_X3 hown hK hP 1 (wl_at (by decide) e66) rfl 0 (by decide) (hts (.fieldLink RX3 55 "EightReasons$Reader" "fault" "I") (List.mem_of_getElem? (i := 1) rfl)) (fun _ h9 => h9) rfl dX3_readTerm_15 ?_
        have ttl_0 := tl_0
        refine lv_if_ne (tgt := 79) hx hb dX3_readTerm_18 (by decide) (fun c67 => ?_) (fun c67 => ?_)
        · have kc67 := c_ne c67
          exact tV hx hb hr hlk hP hS ⟨trivial, ⟨v7_p_rnx, hT⟩⟩ dX3_readTerm_79
        · have kc67 := c_eq c67
          refine lv_aload_n hx hb dX3_readTerm_21 rfl (lv_at hl 1 rfl) ?_
          refine va_get (D := D) (cl := vwCl) (ci := 3) (v := .int x63) (C := RX3) (T := TX3) (N := 13) hx hb hts in_X3_readTerm_X3 hown hK hP 1 (wl_at (by decide) e66) rfl 10 (by decide) (hts (.fieldLink RX3 67 "EightReasons$Reader" "kind" "I") (List.mem_of_getElem? (i := 2) rfl)) (fun _ h9 => h9) rfl dX3_readTerm_22 ?_
          refine lv_bipush (v := 42) hx hb dX3_readTerm_25 (by decide) ?_
          have ttl_42 := tl_42
          refine lv_icmp_eq (tgt := 48) hx hb dX3_readTerm_27 (by decide) (fun c68 => ?_) (fun c68 => ?_)
          · have kc68 := c_eq c68
            have ttl_4 := tl_4
            exact j48 f H locs ls (by omega) hT hP hD hS (lv_sub hl [0, 1, 2] rfl)
          · have kc68 := c_ne c68
            refine lv_aload_n hx hb dX3_readTerm_30 rfl (lv_at hl 1 rfl) ?_
            refine va_get (D := D) (cl := vwCl) (ci := 3) (v := .int x63) (C := RX3) (T := TX3) (N := 13) hx hb hts in_X3_readTerm_X3 hown hK hP 1 (wl_at (by decide) e66) rfl 10 (by decide) (hts (.fieldLink RX3 67 "EightReasons$Reader" "kind" "I") (List.mem_of_getElem? (i := 2) rfl)) (fun _ h9 => h9) rfl dX3_readTerm_31 ?_
            refine lv_bipush (v := 47) hx hb dX3_readTerm_34 (by decide) ?_
            have ttl_47 := tl_47
            refine lv_icmp_eq (tgt := 48) hx hb dX3_readTerm_36 (by decide) (fun c69 => ?_) (fun c69 => ?_)
            · have kc69 := c_eq c69
              have ttl_4 := tl_4
              exact j48 f H locs ls (by omega) hT hP hD hS (lv_sub hl [0, 1, 2] rfl)
            · have kc69 := c_ne c69
              refine lv_aload_n hx hb dX3_readTerm_39 rfl (lv_at hl 1 rfl) ?_
              refine va_get (D := D) (cl := vwCl) (ci := 3) (v := .int x63) (C := RX3) (T := TX3) (N := 13) hx hb hts in_X3_readTerm_X3 hown hK hP 1 (wl_at (by decide) e66) rfl 10 (by decide) (hts (.fieldLink RX3 67 "EightReasons$Reader" "kind" "I") (List.mem_of_getElem? (i := 2) rfl)) (fun _ h9 => h9) rfl dX3_readTerm_40 ?_
              refine lv_bipush (v := 37) hx hb dX3_readTerm_43 (by decide) ?_
              have ttl_37 := tl_37
              refine lv_icmp_ne (tgt := 79) hx hb dX3_readTerm_45 (by decide) (fun c70 => ?_) (fun c70 => ?_)
              · have kc70 := c_ne c70
                exact tV hx hb hr hlk hP hS ⟨trivial, ⟨v7_p_rnx, hT⟩⟩ dX3_readTerm_79
              · have kc70 := c_eq c70
                have ttl_4 := tl_4
                exact j48 f H locs ls (by omega) hT hP hD hS (lv_sub hl [0, 1, 2] rfl)
  refine lv_aload_n hx hb dX3_readTerm_0 rfl (lv_at hl 0 rfl) ?_
  refine lv_iload_n hx hb dX3_readTerm_1 rfl (lv_at hl 1 rfl) ?_
  have ttl_4 := tl_4
  obtain ⟨x71, x72, t74, x76, x78, x79, x80, y81, e82, h73, h75, h77⟩ := (show okX3 ad rby rnx 1 (f 1) from hT.1 1 (by decide))
  refine tVV (As := [.int 4]) (rest := []) (i := 1) ⟨hx, hb, hml, hown, hts⟩ hK hE hP hD hS hA hAB (s_X3_readUnit_3 l B0 adK adV D cy ad fr0 tx rby rnx f hT _) (cwV 1 hts gX3_readTerm_X3_readUnit rfl rfl rfl (by decide +kernel) ⟨Nat.le_of_ble_eq_true rfl, Nat.le_of_ble_eq_true rfl⟩) (by decide) 3 e82 rfl rfl hl.1 rfl (Nat.le_of_ble_eq_true rfl) dX3_readTerm_2 ⟨Nat.le_of_ble_eq_true rfl, Nat.le_of_ble_eq_true rfl⟩ (fun f H locs hw hP hD hS => ?_)
  obtain ⟨hrs, x83, hT⟩ := hw
  refine lv_iconst (v := 0) hx hb dX3_readTerm_5 (by decide) ?_
  refine lv_istore_n (lv' := [(2, .int 0), (0, .ref (ad 1)), (1, .int 4)]) hx hb dX3_readTerm_6 rfl hl (by decide) rfl (fun ls hl => ?_)
  have ttl_0 := tl_0
  exact j7 (Int.toNat (1601 - (0 : Int32).toInt)) f H locs ls (0 : Int32) x83 (by omega) (by omega) hT hP hD hS (lv_sub hl [0, 1, 2] rfl)
set_option maxHeartbeats 4000000 in
set_option maxRecDepth 100000 in
theorem s_X3_readSum_3 (l : Launch) (B0 : Nat) (adK adV : Nat → Nat) (D : va_G) (cy : Nat → ClassId) (ad : Nat → Nat) (fr0 : Nat → va_E) (tx : Int32) (rby : Int32) (rnx : Int32) (f : Nat → va_E) (hT : TYx ad cy fr0 tx rby rnx f) (sz : Nat) : TtV l yX3_readSum wsX3_readSum 26 607 [.ref (ad 1), .int 4] B0 adK adV D cy ad f sz (fun (g : Nat → va_E) => True ∧ (∃ (rnx' : Int32), TYx ad cy fr0 tx rby rnx' g)) := by
  refine TtV.of (cc := cX3_readSum) (maxL := 4) (own := RX3) (by decide) rfl (Nat.le_of_ble_eq_true rfl) rfl ?_
  intro p e s m below meth c A ls hx hb hr hml hts hown hlk hK hE hP hD hS hA hAB hl
  have hl : lv_has ls 4 [(0, .ref (ad 1)), (1, .int 4)] := hl
  refine st0 (fun H locs hP hS => ?_) hP hS
  have j7 : ∀ (N : Nat) (f : Nat → va_E) (H : Heap) (locs : List Loc) (ls : Array Slot) (v7_l2 : Int32) (v7_p_rnx : Int32), (1601 - v7_l2.toInt ≤ (N : Int)) → (0 ≤ v7_l2.toInt ∧ v7_l2.toInt ≤ 1600) → (TYx ad cy fr0 tx rby v7_p_rnx f) → (va_P D vwCl (wl ad f) H) → (va_D A (wl ad f)) → (va_S A s.heap H locs) → (lv_has ls 4 [(2, .int v7_l2), (0, .ref (ad 1)), (1, .int 4)]) → W p l e (rmO 26 607 0 0) s m ([.ref (ad 1), .int 4] : List Value).toArray below meth c H locs 0 0 (MQ below (va_Qv (fun (g : Nat → va_E) => True ∧ (∃ (rnx' : Int32), TYx ad cy fr0 tx rby rnx' g)) (fun g t => PstT D ad g t) A) ([.ref (ad 1), .int 4] : List Value).toArray s 0 0 A) (F0 m 7 ls []) := by
    intro N
    induction N with
    | zero => intro f H locs ls v7_l2 v7_p_rnx hN hv7_l2 hT hP hD hS hl; exact absurd hN (by omega)
    | succ N ih7 =>
      intro f H locs ls v7_l2 v7_p_rnx hN hv7_l2 hT hP hD hS hl
      have j39 : ∀ (f : Nat → va_E) (H : Heap) (locs : List Loc) (ls : Array Slot), (0 ≤ v7_l2.toInt ∧ v7_l2.toInt ≤ 1599) → (TYx ad cy fr0 tx rby v7_p_rnx f) → (va_P D vwCl (wl ad f) H) → (va_D A (wl ad f)) → (va_S A s.heap H locs) → (lv_has ls 4 [(2, .int v7_l2), (0, .ref (ad 1)), (1, .int 4)]) → W p l e (rmO 26 607 0 0) s m ([.ref (ad 1), .int 4] : List Value).toArray below meth c H locs 0 0 (MQ below (va_Qv (fun (g : Nat → va_E) => True ∧ (∃ (rnx' : Int32), TYx ad cy fr0 tx rby rnx' g)) (fun g t => PstT D ad g t) A) ([.ref (ad 1), .int 4] : List Value).toArray s 0 0 A) (F0 m 39 ls []) := by
        intro f H locs ls hv39_l2 hT hP hD hS hl
        refine lv_aload_n hx hb dX3_readSum_39 rfl (lv_at hl 1 rfl) ?_
        obtain ⟨x1, x2, t4, x6, x8, x9, x10, y11, e12, h3, h5, h7⟩ := (show okX3 ad rby v7_p_rnx 1 (f 1) from hT.1 1 (by decide))
        refine va_get (D := D) (cl := vwCl) (ci := 3) (v := .int x9) (C := RX3) (T := TX3) (N := 13) hx hb hts in_X3_readSum_X3 hown hK hP 1 (wl_at (by decide) e12) rfl 10 (by decide) (hts (.fieldLink RX3 67 "EightReasons$Reader" "kind" "I") (List.mem_of_getElem? (i := 2) rfl)) (fun _ h9 => h9) rfl dX3_readSum_40 ?_
        refine lv_istore_n (lv' := [(3, .int x9), (2, .int v7_l2), (0, .ref (ad 1)), (1, .int 4)]) hx hb dX3_readSum_43 rfl hl (by decide) rfl (fun ls hl => ?_)
        refine lv_aload_n hx hb dX3_readSum_44 rfl (lv_at hl 2 rfl) ?_
        refine tVV (As := []) (rest := []) (i := 1) ⟨hx, hb, hml, hown, hts⟩ hK hE hP hD hS hA hAB (s_X3_advance_0 l B0 adK adV D cy ad fr0 tx rby v7_p_rnx f hT _) (cwV 0 hts gX3_readSum_X3_advance rfl rfl rfl (by decide +kernel) ⟨Nat.le_of_ble_eq_true rfl, Nat.le_of_ble_eq_true rfl⟩) (by decide) 3 e12 rfl rfl hl.1 rfl (Nat.le_of_ble_eq_true rfl) dX3_readSum_45 ⟨Nat.le_of_ble_eq_true rfl, Nat.le_of_ble_eq_true rfl⟩ (fun f H locs hw hP hD hS => ?_)
        obtain ⟨hrs, x13, hT⟩ := hw
        refine lv_aload_n hx hb dX3_readSum_48 rfl (lv_at hl 2 rfl) ?_
        refine lv_iload_n hx hb dX3_readSum_49 rfl (lv_at hl 3 rfl) ?_
        have ttl_4 := tl_4
        obtain ⟨x14, x15, t17, x19, x21, x22, x23, y24, e25, h16, h18, h20⟩ := (show okX3 ad rby x13 1 (f 1) from hT.1 1 (by decide))
        refine tVV (As := [.int 4]) (rest := []) (i := 1) ⟨hx, hb, hml, hown, hts⟩ hK hE hP hD hS hA hAB (s_X3_readTerm_3 l B0 adK adV D cy ad fr0 tx rby x13 f hT _) (cwV 1 hts gX3_readSum_X3_readTerm rfl rfl rfl (by decide +kernel) ⟨Nat.le_of_ble_eq_true rfl, Nat.le_of_ble_eq_true rfl⟩) (by decide) 3 e25 rfl rfl hl.1 rfl (Nat.le_of_ble_eq_true rfl) dX3_readSum_50 ⟨Nat.le_of_ble_eq_true rfl, Nat.le_of_ble_eq_true rfl⟩ (fun f H locs hw hP hD hS => ?_)
        obtain ⟨hrs, x26, hT⟩ := hw
        refine lv_aload_n hx hb dX3_readSum_53 rfl (lv_at hl 2 rfl) ?_
        obtain ⟨x27, x28, t30, x32, x34, x35, x36, y37, e38, h29, h31, h33⟩ := (show okX3 ad rby x26 1 (f 1) from hT.1 1 (by decide))
        refine va_get (D := D) (cl := vwCl) (ci := 3) (v := .ref (ad t30)) (C := RX3) (T := TX3) (N := 13) hx hb hts in_X3_readSum_X3 hown hK hP 1 (wl_at (by decide) e38) rfl 4 (by decide) (hts (.fieldLink RX3 22 "EightReasons$Reader" "suit" "LEightReasons$Suit;") (List.mem_of_getElem? (i := 3) rfl)) (fun _ h9 => h9) rfl dX3_readSum_54 ?_
        obtain ⟨x39, x41, x42, x44, x45, e46, h40, h43⟩ := (ty_suit hT h31)
        refine va_get (D := D) (cl := vwCl) (ci := 5) (v := .ref (ad (t30 + 7))) (C := RX5) (T := TX5) (N := 12) hx hb hts in_X3_readSum_X5 hown hK hP t30 (wl_at (x_lt (x_suit0 h31)) e46) rfl 11 (by decide) (hts (.fieldLink RX3 191 "EightReasons$Suit" "formula" "LEightReasons$Formula;") (List.mem_of_getElem? (i := 4) rfl)) (fun _ h9 => h9) rfl dX3_readSum_57 ?_
        refine lv_iload_n hx hb dX3_readSum_60 rfl (lv_at hl 0 rfl) ?_
        obtain ⟨x47, x49, x50, e52, h48, h51⟩ := (ty_suit7 hT h31)
        refine tVV (As := [.int x9]) (rest := []) (i := (t30 + 7)) ⟨hx, hb, hml, hown, hts⟩ hK hE hP hD hS hA hAB (s_X1_add_0 l B0 adK adV D cy ad fr0 tx rby x26 f hT t30 h31 x9 _) (cwV 1 hts gX3_readSum_X1_add rfl rfl rfl (by decide +kernel) ⟨Nat.le_of_ble_eq_true rfl, Nat.le_of_ble_eq_true rfl⟩) (x_lt (x_suit h31 (by decide))) 1 e52 rfl rfl hl.1 rfl (Nat.le_of_ble_eq_true rfl) dX3_readSum_61 ⟨Nat.le_of_ble_eq_true rfl, Nat.le_of_ble_eq_true rfl⟩ (fun f H locs hw hP hD hS => ?_)
        obtain ⟨hrs, hT⟩ := hw
        obtain ⟨x53, ex53⟩ : ∃ q : Int32, q = v7_l2 + Int32.ofInt (1) := ⟨_, rfl⟩
        refine lv_iinc (v := x53) (lv' := [(2, .int x53), (3, .int x9), (0, .ref (ad 1)), (1, .int 4)]) hx hb dX3_readSum_64 hl (k := 1) rfl ex53.symm (by decide) rfl (fun ls hl => ?_)
        have hx53 := r_inc ex53 (by decide) (by omega) (by omega)
        refine lv_goto (tgt := 7) hx hb dX3_readSum_67 (by decide) ?_
        exact ih7 f H locs ls x53 x26 (by omega) (by omega) hT hP hD hS (lv_sub hl [0, 2, 3] rfl)
      refine lv_iload_n hx hb dX3_readSum_7 rfl (lv_at hl 0 rfl) ?_
      refine lv_sipush (v := 1600) hx hb dX3_readSum_8 (by decide) ?_
      have ttl_1600 := tl_1600
      refine lv_icmp_ge (tgt := 70) hx hb dX3_readSum_11 (by decide) (fun c54 => ?_) (fun c54 => ?_)
      · have kc54 := c_le c54
        exact tV hx hb hr hlk hP hS ⟨trivial, ⟨v7_p_rnx, hT⟩⟩ dX3_readSum_70
      · have kc54 := c_nle c54
        refine lv_aload_n hx hb dX3_readSum_14 rfl (lv_at hl 1 rfl) ?_
        obtain ⟨x55, x56, t58, x60, x62, x63, x64, y65, e66, h57, h59, h61⟩ := (show okX3 ad rby v7_p_rnx 1 (f 1) from hT.1 1 (by decide))
        refine va_get (D := D) (cl := vwCl) (ci := 3) (v := .int x55) (C := RX3) (T := TX3) (N := 13) hx hb hts in_X3_readSum_X3 hown hK hP 1 (wl_at (by decide) e66) rfl 0 (by decide) (hts (.fieldLink RX3 55 "EightReasons$Reader" "fault" "I") (List.mem_of_getElem? (i := 1) rfl)) (fun _ h9 => h9) rfl dX3_readSum_15 ?_
        have ttl_0 := tl_0
        refine lv_if_ne (tgt := 70) hx hb dX3_readSum_18 (by decide) (fun c67 => ?_) (fun c67 => ?_)
        · have kc67 := c_ne c67
          exact tV hx hb hr hlk hP hS ⟨trivial, ⟨v7_p_rnx, hT⟩⟩ dX3_readSum_70
        · have kc67 := c_eq c67
          refine lv_aload_n hx hb dX3_readSum_21 rfl (lv_at hl 1 rfl) ?_
          refine va_get (D := D) (cl := vwCl) (ci := 3) (v := .int x63) (C := RX3) (T := TX3) (N := 13) hx hb hts in_X3_readSum_X3 hown hK hP 1 (wl_at (by decide) e66) rfl 10 (by decide) (hts (.fieldLink RX3 67 "EightReasons$Reader" "kind" "I") (List.mem_of_getElem? (i := 2) rfl)) (fun _ h9 => h9) rfl dX3_readSum_22 ?_
          refine lv_bipush (v := 43) hx hb dX3_readSum_25 (by decide) ?_
          have ttl_43 := tl_43
          refine lv_icmp_eq (tgt := 39) hx hb dX3_readSum_27 (by decide) (fun c68 => ?_) (fun c68 => ?_)
          · have kc68 := c_eq c68
            have ttl_4 := tl_4
            exact j39 f H locs ls (by omega) hT hP hD hS (lv_sub hl [0, 1, 2] rfl)
          · have kc68 := c_ne c68
            refine lv_aload_n hx hb dX3_readSum_30 rfl (lv_at hl 1 rfl) ?_
            refine va_get (D := D) (cl := vwCl) (ci := 3) (v := .int x63) (C := RX3) (T := TX3) (N := 13) hx hb hts in_X3_readSum_X3 hown hK hP 1 (wl_at (by decide) e66) rfl 10 (by decide) (hts (.fieldLink RX3 67 "EightReasons$Reader" "kind" "I") (List.mem_of_getElem? (i := 2) rfl)) (fun _ h9 => h9) rfl dX3_readSum_31 ?_
            refine lv_bipush (v := 45) hx hb dX3_readSum_34 (by decide) ?_
            have ttl_45 := tl_45
            refine lv_icmp_ne (tgt := 70) hx hb dX3_readSum_36 (by decide) (fun c69 => ?_) (fun c69 => ?_)
            · have kc69 := c_ne c69
              exact tV hx hb hr hlk hP hS ⟨trivial, ⟨v7_p_rnx, hT⟩⟩ dX3_readSum_70
            · have kc69 := c_eq c69
              have ttl_4 := tl_4
              exact j39 f H locs ls (by omega) hT hP hD hS (lv_sub hl [0, 1, 2] rfl)
  refine lv_aload_n hx hb dX3_readSum_0 rfl (lv_at hl 0 rfl) ?_
  refine lv_iload_n hx hb dX3_readSum_1 rfl (lv_at hl 1 rfl) ?_
  have ttl_4 := tl_4
  obtain ⟨x70, x71, t73, x75, x77, x78, x79, y80, e81, h72, h74, h76⟩ := (show okX3 ad rby rnx 1 (f 1) from hT.1 1 (by decide))
  refine tVV (As := [.int 4]) (rest := []) (i := 1) ⟨hx, hb, hml, hown, hts⟩ hK hE hP hD hS hA hAB (s_X3_readTerm_3 l B0 adK adV D cy ad fr0 tx rby rnx f hT _) (cwV 1 hts gX3_readSum_X3_readTerm rfl rfl rfl (by decide +kernel) ⟨Nat.le_of_ble_eq_true rfl, Nat.le_of_ble_eq_true rfl⟩) (by decide) 3 e81 rfl rfl hl.1 rfl (Nat.le_of_ble_eq_true rfl) dX3_readSum_2 ⟨Nat.le_of_ble_eq_true rfl, Nat.le_of_ble_eq_true rfl⟩ (fun f H locs hw hP hD hS => ?_)
  obtain ⟨hrs, x82, hT⟩ := hw
  refine lv_iconst (v := 0) hx hb dX3_readSum_5 (by decide) ?_
  refine lv_istore_n (lv' := [(2, .int 0), (0, .ref (ad 1)), (1, .int 4)]) hx hb dX3_readSum_6 rfl hl (by decide) rfl (fun ls hl => ?_)
  have ttl_0 := tl_0
  exact j7 (Int.toNat (1601 - (0 : Int32).toInt)) f H locs ls (0 : Int32) x82 (by omega) (by omega) hT hP hD hS (lv_sub hl [0, 1, 2] rfl)
set_option maxHeartbeats 4000000 in
set_option maxRecDepth 100000 in
theorem s_X3_readOne_3 (l : Launch) (B0 : Nat) (adK adV : Nat → Nat) (D : va_G) (cy : Nat → ClassId) (ad : Nat → Nat) (fr0 : Nat → va_E) (tx : Int32) (rby : Int32) (rnx : Int32) (f : Nat → va_E) (hT : TYx ad cy fr0 tx rby rnx f) (sz : Nat) : TtV l yX3_readOne wsX3_readOne 27 630 [.ref (ad 1), .int 4] B0 adK adV D cy ad f sz (fun (g : Nat → va_E) => True ∧ (∃ (rnx' : Int32), TYx ad cy fr0 tx rby rnx' g)) := by
  refine TtV.of (cc := cX3_readOne) (maxL := 3) (own := RX3) (by decide) rfl (Nat.le_of_ble_eq_true rfl) rfl ?_
  intro p e s m below meth c A ls hx hb hr hml hts hown hlk hK hE hP hD hS hA hAB hl
  have hl : lv_has ls 3 [(0, .ref (ad 1)), (1, .int 4)] := hl
  refine st0 (fun H locs hP hS => ?_) hP hS
  have j86 : ∀ (f : Nat → va_E) (H : Heap) (locs : List Loc) (ls : Array Slot) (v86_p_rnx : Int32), (TYx ad cy fr0 tx rby v86_p_rnx f) → (va_P D vwCl (wl ad f) H) → (va_D A (wl ad f)) → (va_S A s.heap H locs) → (lv_has ls 3 [(0, .ref (ad 1)), (1, .int 4)]) → W p l e (rmO 27 630 0 0) s m ([.ref (ad 1), .int 4] : List Value).toArray below meth c H locs 0 0 (MQ below (va_Qv (fun (g : Nat → va_E) => True ∧ (∃ (rnx' : Int32), TYx ad cy fr0 tx rby rnx' g)) (fun g t => PstT D ad g t) A) ([.ref (ad 1), .int 4] : List Value).toArray s 0 0 A) (F0 m 86 ls []) := by
    intro f H locs ls v86_p_rnx hT hP hD hS hl
    refine lv_aload_n hx hb dX3_readOne_86 rfl (lv_at hl 0 rfl) ?_
    obtain ⟨x1, x2, t4, x6, x8, x9, x10, y11, e12, h3, h5, h7⟩ := (show okX3 ad rby v86_p_rnx 1 (f 1) from hT.1 1 (by decide))
    refine va_get (D := D) (cl := vwCl) (ci := 3) (v := .int x9) (C := RX3) (T := TX3) (N := 13) hx hb hts in_X3_readOne_X3 hown hK hP 1 (wl_at (by decide) e12) rfl 10 (by decide) (hts (.fieldLink RX3 67 "EightReasons$Reader" "kind" "I") (List.mem_of_getElem? (i := 1) rfl)) (fun _ h9 => h9) rfl dX3_readOne_87 ?_
    refine lv_istore_n (lv' := [(2, .int x9), (0, .ref (ad 1)), (1, .int 4)]) hx hb dX3_readOne_90 rfl hl (by decide) rfl (fun ls hl => ?_)
    refine lv_aload_n hx hb dX3_readOne_91 rfl (lv_at hl 1 rfl) ?_
    refine tVV (As := []) (rest := []) (i := 1) ⟨hx, hb, hml, hown, hts⟩ hK hE hP hD hS hA hAB (s_X3_advance_0 l B0 adK adV D cy ad fr0 tx rby v86_p_rnx f hT _) (cwV 0 hts gX3_readOne_X3_advance rfl rfl rfl (by decide +kernel) ⟨Nat.le_of_ble_eq_true rfl, Nat.le_of_ble_eq_true rfl⟩) (by decide) 3 e12 rfl rfl hl.1 rfl (Nat.le_of_ble_eq_true rfl) dX3_readOne_92 ⟨Nat.le_of_ble_eq_true rfl, Nat.le_of_ble_eq_true rfl⟩ (fun f H locs hw hP hD hS => ?_)
    obtain ⟨hrs, x13, hT⟩ := hw
    refine lv_aload_n hx hb dX3_readOne_95 rfl (lv_at hl 1 rfl) ?_
    refine lv_iload_n hx hb dX3_readOne_96 rfl (lv_at hl 2 rfl) ?_
    have ttl_4 := tl_4
    obtain ⟨x14, x15, t17, x19, x21, x22, x23, y24, e25, h16, h18, h20⟩ := (show okX3 ad rby x13 1 (f 1) from hT.1 1 (by decide))
    refine tVV (As := [.int 4]) (rest := []) (i := 1) ⟨hx, hb, hml, hown, hts⟩ hK hE hP hD hS hA hAB (s_X3_readSum_3 l B0 adK adV D cy ad fr0 tx rby x13 f hT _) (cwV 1 hts gX3_readOne_X3_readSum rfl rfl rfl (by decide +kernel) ⟨Nat.le_of_ble_eq_true rfl, Nat.le_of_ble_eq_true rfl⟩) (by decide) 3 e25 rfl rfl hl.1 rfl (Nat.le_of_ble_eq_true rfl) dX3_readOne_97 ⟨Nat.le_of_ble_eq_true rfl, Nat.le_of_ble_eq_true rfl⟩ (fun f H locs hw hP hD hS => ?_)
    obtain ⟨hrs, x26, hT⟩ := hw
    refine lv_aload_n hx hb dX3_readOne_100 rfl (lv_at hl 1 rfl) ?_
    obtain ⟨x27, x28, t30, x32, x34, x35, x36, y37, e38, h29, h31, h33⟩ := (show okX3 ad rby x26 1 (f 1) from hT.1 1 (by decide))
    refine va_get (D := D) (cl := vwCl) (ci := 3) (v := .ref (ad t30)) (C := RX3) (T := TX3) (N := 13) hx hb hts in_X3_readOne_X3 hown hK hP 1 (wl_at (by decide) e38) rfl 4 (by decide) (hts (.fieldLink RX3 22 "EightReasons$Reader" "suit" "LEightReasons$Suit;") (List.mem_of_getElem? (i := 2) rfl)) (fun _ h9 => h9) rfl dX3_readOne_101 ?_
    obtain ⟨x39, x41, x42, x44, x45, e46, h40, h43⟩ := (ty_suit hT h31)
    refine va_get (D := D) (cl := vwCl) (ci := 5) (v := .ref (ad (t30 + 7))) (C := RX5) (T := TX5) (N := 12) hx hb hts in_X3_readOne_X5 hown hK hP t30 (wl_at (x_lt (x_suit0 h31)) e46) rfl 11 (by decide) (hts (.fieldLink RX3 191 "EightReasons$Suit" "formula" "LEightReasons$Formula;") (List.mem_of_getElem? (i := 3) rfl)) (fun _ h9 => h9) rfl dX3_readOne_104 ?_
    refine lv_iload_n hx hb dX3_readOne_107 rfl (lv_at hl 0 rfl) ?_
    obtain ⟨x47, x49, x50, e52, h48, h51⟩ := (ty_suit7 hT h31)
    refine tVV (As := [.int x9]) (rest := []) (i := (t30 + 7)) ⟨hx, hb, hml, hown, hts⟩ hK hE hP hD hS hA hAB (s_X1_add_0 l B0 adK adV D cy ad fr0 tx rby x26 f hT t30 h31 x9 _) (cwV 1 hts gX3_readOne_X1_add rfl rfl rfl (by decide +kernel) ⟨Nat.le_of_ble_eq_true rfl, Nat.le_of_ble_eq_true rfl⟩) (x_lt (x_suit h31 (by decide))) 1 e52 rfl rfl hl.1 rfl (Nat.le_of_ble_eq_true rfl) dX3_readOne_108 ⟨Nat.le_of_ble_eq_true rfl, Nat.le_of_ble_eq_true rfl⟩ (fun f H locs hw hP hD hS => ?_)
    obtain ⟨hrs, hT⟩ := hw
    exact tV hx hb hr hlk hP hS ⟨trivial, ⟨x26, hT⟩⟩ dX3_readOne_111
  refine lv_aload_n hx hb dX3_readOne_0 rfl (lv_at hl 0 rfl) ?_
  obtain ⟨x53, x54, t56, x58, x60, x61, x62, y63, e64, h55, h57, h59⟩ := (show okX3 ad rby rnx 1 (f 1) from hT.1 1 (by decide))
  refine va_get (D := D) (cl := vwCl) (ci := 3) (v := .int x61) (C := RX3) (T := TX3) (N := 13) hx hb hts in_X3_readOne_X3 hown hK hP 1 (wl_at (by decide) e64) rfl 10 (by decide) (hts (.fieldLink RX3 67 "EightReasons$Reader" "kind" "I") (List.mem_of_getElem? (i := 1) rfl)) (fun _ h9 => h9) rfl dX3_readOne_1 ?_
  refine lv_bipush (v := 10) hx hb dX3_readOne_4 (by decide) ?_
  have ttl_10 := tl_10
  refine lv_icmp_ne (tgt := 47) hx hb dX3_readOne_6 (by decide) (fun c65 => ?_) (fun c65 => ?_)
  · have kc65 := c_ne c65
    refine lv_aload_n hx hb dX3_readOne_47 rfl (lv_at hl 0 rfl) ?_
    refine lv_iload_n hx hb dX3_readOne_48 rfl (lv_at hl 1 rfl) ?_
    have ttl_4 := tl_4
    refine tVV (As := [.int 4]) (rest := []) (i := 1) ⟨hx, hb, hml, hown, hts⟩ hK hE hP hD hS hA hAB (s_X3_readSum_3 l B0 adK adV D cy ad fr0 tx rby rnx f hT _) (cwV 1 hts gX3_readOne_X3_readSum rfl rfl rfl (by decide +kernel) ⟨Nat.le_of_ble_eq_true rfl, Nat.le_of_ble_eq_true rfl⟩) (by decide) 3 e64 rfl rfl hl.1 rfl (Nat.le_of_ble_eq_true rfl) dX3_readOne_49 ⟨Nat.le_of_ble_eq_true rfl, Nat.le_of_ble_eq_true rfl⟩ (fun f H locs hw hP hD hS => ?_)
    obtain ⟨hrs, x66, hT⟩ := hw
    refine lv_aload_n hx hb dX3_readOne_52 rfl (lv_at hl 0 rfl) ?_
    obtain ⟨x67, x68, t70, x72, x74, x75, x76, y77, e78, h69, h71, h73⟩ := (show okX3 ad rby x66 1 (f 1) from hT.1 1 (by decide))
    refine va_get (D := D) (cl := vwCl) (ci := 3) (v := .int x67) (C := RX3) (T := TX3) (N := 13) hx hb hts in_X3_readOne_X3 hown hK hP 1 (wl_at (by decide) e78) rfl 0 (by decide) (hts (.fieldLink RX3 55 "EightReasons$Reader" "fault" "I") (List.mem_of_getElem? (i := 4) rfl)) (fun _ h9 => h9) rfl dX3_readOne_53 ?_
    have ttl_0 := tl_0
    refine lv_if_ne (tgt := 111) hx hb dX3_readOne_56 (by decide) (fun c79 => ?_) (fun c79 => ?_)
    · have kc79 := c_ne c79
      exact tV hx hb hr hlk hP hS ⟨trivial, ⟨x66, hT⟩⟩ dX3_readOne_111
    · have kc79 := c_eq c79
      refine lv_aload_n hx hb dX3_readOne_59 rfl (lv_at hl 0 rfl) ?_
      refine va_get (D := D) (cl := vwCl) (ci := 3) (v := .int x75) (C := RX3) (T := TX3) (N := 13) hx hb hts in_X3_readOne_X3 hown hK hP 1 (wl_at (by decide) e78) rfl 10 (by decide) (hts (.fieldLink RX3 67 "EightReasons$Reader" "kind" "I") (List.mem_of_getElem? (i := 1) rfl)) (fun _ h9 => h9) rfl dX3_readOne_60 ?_
      refine lv_bipush (v := 60) hx hb dX3_readOne_63 (by decide) ?_
      have ttl_60 := tl_60
      refine lv_icmp_eq (tgt := 86) hx hb dX3_readOne_65 (by decide) (fun c80 => ?_) (fun c80 => ?_)
      · have kc80 := c_eq c80
        exact j86 f H locs ls x66 hT hP hD hS (lv_sub hl [0, 1] rfl)
      · have kc80 := c_ne c80
        refine lv_aload_n hx hb dX3_readOne_68 rfl (lv_at hl 0 rfl) ?_
        refine va_get (D := D) (cl := vwCl) (ci := 3) (v := .int x75) (C := RX3) (T := TX3) (N := 13) hx hb hts in_X3_readOne_X3 hown hK hP 1 (wl_at (by decide) e78) rfl 10 (by decide) (hts (.fieldLink RX3 67 "EightReasons$Reader" "kind" "I") (List.mem_of_getElem? (i := 1) rfl)) (fun _ h9 => h9) rfl dX3_readOne_69 ?_
        refine lv_bipush (v := 62) hx hb dX3_readOne_72 (by decide) ?_
        have ttl_62 := tl_62
        refine lv_icmp_eq (tgt := 86) hx hb dX3_readOne_74 (by decide) (fun c81 => ?_) (fun c81 => ?_)
        · have kc81 := c_eq c81
          exact j86 f H locs ls x66 hT hP hD hS (lv_sub hl [0, 1] rfl)
        · have kc81 := c_ne c81
          refine lv_aload_n hx hb dX3_readOne_77 rfl (lv_at hl 0 rfl) ?_
          refine va_get (D := D) (cl := vwCl) (ci := 3) (v := .int x75) (C := RX3) (T := TX3) (N := 13) hx hb hts in_X3_readOne_X3 hown hK hP 1 (wl_at (by decide) e78) rfl 10 (by decide) (hts (.fieldLink RX3 67 "EightReasons$Reader" "kind" "I") (List.mem_of_getElem? (i := 1) rfl)) (fun _ h9 => h9) rfl dX3_readOne_78 ?_
          refine lv_bipush (v := 61) hx hb dX3_readOne_81 (by decide) ?_
          have ttl_61 := tl_61
          refine lv_icmp_ne (tgt := 111) hx hb dX3_readOne_83 (by decide) (fun c82 => ?_) (fun c82 => ?_)
          · have kc82 := c_ne c82
            exact tV hx hb hr hlk hP hS ⟨trivial, ⟨x66, hT⟩⟩ dX3_readOne_111
          · have kc82 := c_eq c82
            exact j86 f H locs ls x66 hT hP hD hS (lv_sub hl [0, 1] rfl)
  · have kc65 := c_eq c65
    refine lv_aload_n hx hb dX3_readOne_9 rfl (lv_at hl 0 rfl) ?_
    refine lv_iload_n hx hb dX3_readOne_10 rfl (lv_at hl 1 rfl) ?_
    refine lv_bipush (v := 7) hx hb dX3_readOne_11 (by decide) ?_
    refine lv_icmp_ge (tgt := 20) hx hb dX3_readOne_13 (by decide) (fun c => absurd c (by decide)) (fun _ => ?_)
    refine lv_iconst (v := 1) hx hb dX3_readOne_16 (by decide) ?_
    refine lv_goto (tgt := 21) hx hb dX3_readOne_17 (by decide) ?_
    have ttl_1 := tl_1
    refine tVI (As := [.int 1]) (rest := []) (i := 1) ⟨hx, hb, hml, hown, hts⟩ hK hE hP hD hS hA hAB (s_X3_begin_0 l B0 adK adV D cy ad fr0 tx rby rnx f hT (1 : Int32) (by omega) _) (cwV 1 hts gX3_readOne_X3_begin rfl rfl rfl (by decide +kernel) ⟨Nat.le_of_ble_eq_true rfl, Nat.le_of_ble_eq_true rfl⟩) (by decide) 3 e64 rfl rfl hl.1 rfl (Nat.le_of_ble_eq_true rfl) dX3_readOne_21 ⟨Nat.le_of_ble_eq_true rfl, Nat.le_of_ble_eq_true rfl⟩ (fun r f H locs hw hP hD hS => ?_)
    obtain ⟨hrs, x83, hT⟩ := hw
    obtain ⟨x84, rfl⟩ : ∃ q, q = r := ⟨_, rfl⟩
    rcases hrs with ⟨rfl, h85⟩ | ⟨rfl, h86⟩
    · refine lv_if_eq (tgt := 46) hx hb dX3_readOne_24 (by decide) (fun c => absurd c (by decide)) (fun _ => ?_)
      refine lv_aload_n hx hb dX3_readOne_27 rfl (lv_at hl 0 rfl) ?_
      refine lv_iload_n hx hb dX3_readOne_28 rfl (lv_at hl 1 rfl) ?_
      refine lv_iconst (v := 1) hx hb dX3_readOne_29 (by decide) ?_
      refine lv_iadd hx hb dX3_readOne_30 (tpi (v := 5) (by decide) ?_)
      have ttl_5 := tl_5
      obtain ⟨x87, x88, t90, x92, x94, x95, x96, y97, e98, h89, h91, h93⟩ := (show okX3 ad rby x83 1 (f 1) from hT.1 1 (by decide))
      refine tVV (As := [.int 5]) (rest := []) (i := 1) ⟨hx, hb, hml, hown, hts⟩ hK hE hP hD hS hA hAB (s_X3_readOne_2 l B0 adK adV D cy ad fr0 tx rby x83 f hT _) (cwV 1 hts gX3_readOne_X3_readOne rfl rfl rfl (by decide +kernel) ⟨Nat.le_of_ble_eq_true rfl, Nat.le_of_ble_eq_true rfl⟩) (by decide) 3 e98 rfl rfl hl.1 rfl (Nat.le_of_ble_eq_true rfl) dX3_readOne_31 ⟨Nat.le_of_ble_eq_true rfl, Nat.le_of_ble_eq_true rfl⟩ (fun f H locs hw hP hD hS => ?_)
      obtain ⟨hrs, x99, hT⟩ := hw
      refine lv_aload_n hx hb dX3_readOne_34 rfl (lv_at hl 0 rfl) ?_
      obtain ⟨x100, x101, t103, x105, x107, x108, x109, y110, e111, h102, h104, h106⟩ := (show okX3 ad rby x99 1 (f 1) from hT.1 1 (by decide))
      refine va_get (D := D) (cl := vwCl) (ci := 3) (v := .ref (ad t103)) (C := RX3) (T := TX3) (N := 13) hx hb hts in_X3_readOne_X3 hown hK hP 1 (wl_at (by decide) e111) rfl 4 (by decide) (hts (.fieldLink RX3 22 "EightReasons$Reader" "suit" "LEightReasons$Suit;") (List.mem_of_getElem? (i := 2) rfl)) (fun _ h9 => h9) rfl dX3_readOne_35 ?_
      obtain ⟨x112, x114, x115, x117, x118, e119, h113, h116⟩ := (ty_suit hT h104)
      refine va_get (D := D) (cl := vwCl) (ci := 5) (v := .ref (ad (t103 + 7))) (C := RX5) (T := TX5) (N := 12) hx hb hts in_X3_readOne_X5 hown hK hP t103 (wl_at (x_lt (x_suit0 h104)) e119) rfl 11 (by decide) (hts (.fieldLink RX3 191 "EightReasons$Suit" "formula" "LEightReasons$Formula;") (List.mem_of_getElem? (i := 3) rfl)) (fun _ h9 => h9) rfl dX3_readOne_38 ?_
      refine lv_bipush (v := 10) hx hb dX3_readOne_41 (by decide) ?_
      obtain ⟨x120, x122, x123, e125, h121, h124⟩ := (ty_suit7 hT h104)
      refine tVV (As := [.int 10]) (rest := []) (i := (t103 + 7)) ⟨hx, hb, hml, hown, hts⟩ hK hE hP hD hS hA hAB (s_X1_add_0 l B0 adK adV D cy ad fr0 tx rby x99 f hT t103 h104 (10 : Int32) _) (cwV 1 hts gX3_readOne_X1_add rfl rfl rfl (by decide +kernel) ⟨Nat.le_of_ble_eq_true rfl, Nat.le_of_ble_eq_true rfl⟩) (x_lt (x_suit h104 (by decide))) 1 e125 rfl rfl hl.1 rfl (Nat.le_of_ble_eq_true rfl) dX3_readOne_43 ⟨Nat.le_of_ble_eq_true rfl, Nat.le_of_ble_eq_true rfl⟩ (fun f H locs hw hP hD hS => ?_)
      obtain ⟨hrs, hT⟩ := hw
      exact tV hx hb hr hlk hP hS ⟨trivial, ⟨x99, hT⟩⟩ dX3_readOne_46
    · exact False.elim (by omega)
set_option maxHeartbeats 4000000 in
set_option maxRecDepth 100000 in
theorem s_X3_readBoth_3 (l : Launch) (B0 : Nat) (adK adV : Nat → Nat) (D : va_G) (cy : Nat → ClassId) (ad : Nat → Nat) (fr0 : Nat → va_E) (tx : Int32) (rby : Int32) (rnx : Int32) (f : Nat → va_E) (hT : TYx ad cy fr0 tx rby rnx f) (sz : Nat) : TtV l yX3_readBoth wsX3_readBoth 28 652 [.ref (ad 1), .int 4] B0 adK adV D cy ad f sz (fun (g : Nat → va_E) => True ∧ (∃ (rnx' : Int32), TYx ad cy fr0 tx rby rnx' g)) := by
  refine TtV.of (cc := cX3_readBoth) (maxL := 3) (own := RX3) (by decide) rfl (Nat.le_of_ble_eq_true rfl) rfl ?_
  intro p e s m below meth c A ls hx hb hr hml hts hown hlk hK hE hP hD hS hA hAB hl
  have hl : lv_has ls 3 [(0, .ref (ad 1)), (1, .int 4)] := hl
  refine st0 (fun H locs hP hS => ?_) hP hS
  have j7 : ∀ (N : Nat) (f : Nat → va_E) (H : Heap) (locs : List Loc) (ls : Array Slot) (v7_l2 : Int32) (v7_p_rnx : Int32), (1601 - v7_l2.toInt ≤ (N : Int)) → (0 ≤ v7_l2.toInt ∧ v7_l2.toInt ≤ 1600) → (TYx ad cy fr0 tx rby v7_p_rnx f) → (va_P D vwCl (wl ad f) H) → (va_D A (wl ad f)) → (va_S A s.heap H locs) → (lv_has ls 3 [(2, .int v7_l2), (0, .ref (ad 1)), (1, .int 4)]) → W p l e (rmO 28 652 0 0) s m ([.ref (ad 1), .int 4] : List Value).toArray below meth c H locs 0 0 (MQ below (va_Qv (fun (g : Nat → va_E) => True ∧ (∃ (rnx' : Int32), TYx ad cy fr0 tx rby rnx' g)) (fun g t => PstT D ad g t) A) ([.ref (ad 1), .int 4] : List Value).toArray s 0 0 A) (F0 m 7 ls []) := by
    intro N
    induction N with
    | zero => intro f H locs ls v7_l2 v7_p_rnx hN hv7_l2 hT hP hD hS hl; exact absurd hN (by omega)
    | succ N ih7 =>
      intro f H locs ls v7_l2 v7_p_rnx hN hv7_l2 hT hP hD hS hl
      refine lv_iload_n hx hb dX3_readBoth_7 rfl (lv_at hl 0 rfl) ?_
      refine lv_sipush (v := 1600) hx hb dX3_readBoth_8 (by decide) ?_
      have ttl_1600 := tl_1600
      refine lv_icmp_ge (tgt := 57) hx hb dX3_readBoth_11 (by decide) (fun c1 => ?_) (fun c1 => ?_)
      · have kc1 := c_le c1
        exact tV hx hb hr hlk hP hS ⟨trivial, ⟨v7_p_rnx, hT⟩⟩ dX3_readBoth_57
      · have kc1 := c_nle c1
        refine lv_aload_n hx hb dX3_readBoth_14 rfl (lv_at hl 1 rfl) ?_
        obtain ⟨x2, x3, t5, x7, x9, x10, x11, y12, e13, h4, h6, h8⟩ := (show okX3 ad rby v7_p_rnx 1 (f 1) from hT.1 1 (by decide))
        refine va_get (D := D) (cl := vwCl) (ci := 3) (v := .int x2) (C := RX3) (T := TX3) (N := 13) hx hb hts in_X3_readBoth_X3 hown hK hP 1 (wl_at (by decide) e13) rfl 0 (by decide) (hts (.fieldLink RX3 55 "EightReasons$Reader" "fault" "I") (List.mem_of_getElem? (i := 1) rfl)) (fun _ h9 => h9) rfl dX3_readBoth_15 ?_
        have ttl_0 := tl_0
        refine lv_if_ne (tgt := 57) hx hb dX3_readBoth_18 (by decide) (fun c14 => ?_) (fun c14 => ?_)
        · have kc14 := c_ne c14
          exact tV hx hb hr hlk hP hS ⟨trivial, ⟨v7_p_rnx, hT⟩⟩ dX3_readBoth_57
        · have kc14 := c_eq c14
          refine lv_aload_n hx hb dX3_readBoth_21 rfl (lv_at hl 1 rfl) ?_
          refine va_get (D := D) (cl := vwCl) (ci := 3) (v := .int x10) (C := RX3) (T := TX3) (N := 13) hx hb hts in_X3_readBoth_X3 hown hK hP 1 (wl_at (by decide) e13) rfl 10 (by decide) (hts (.fieldLink RX3 67 "EightReasons$Reader" "kind" "I") (List.mem_of_getElem? (i := 2) rfl)) (fun _ h9 => h9) rfl dX3_readBoth_22 ?_
          refine lv_bipush (v := 9) hx hb dX3_readBoth_25 (by decide) ?_
          have ttl_9 := tl_9
          refine lv_icmp_ne (tgt := 57) hx hb dX3_readBoth_27 (by decide) (fun c15 => ?_) (fun c15 => ?_)
          · have kc15 := c_ne c15
            exact tV hx hb hr hlk hP hS ⟨trivial, ⟨v7_p_rnx, hT⟩⟩ dX3_readBoth_57
          · have kc15 := c_eq c15
            refine lv_aload_n hx hb dX3_readBoth_30 rfl (lv_at hl 1 rfl) ?_
            refine tVV (As := []) (rest := []) (i := 1) ⟨hx, hb, hml, hown, hts⟩ hK hE hP hD hS hA hAB (s_X3_advance_0 l B0 adK adV D cy ad fr0 tx rby v7_p_rnx f hT _) (cwV 0 hts gX3_readBoth_X3_advance rfl rfl rfl (by decide +kernel) ⟨Nat.le_of_ble_eq_true rfl, Nat.le_of_ble_eq_true rfl⟩) (by decide) 3 e13 rfl rfl hl.1 rfl (Nat.le_of_ble_eq_true rfl) dX3_readBoth_31 ⟨Nat.le_of_ble_eq_true rfl, Nat.le_of_ble_eq_true rfl⟩ (fun f H locs hw hP hD hS => ?_)
            obtain ⟨hrs, x16, hT⟩ := hw
            refine lv_aload_n hx hb dX3_readBoth_34 rfl (lv_at hl 1 rfl) ?_
            refine lv_iload_n hx hb dX3_readBoth_35 rfl (lv_at hl 2 rfl) ?_
            have ttl_4 := tl_4
            obtain ⟨x17, x18, t20, x22, x24, x25, x26, y27, e28, h19, h21, h23⟩ := (show okX3 ad rby x16 1 (f 1) from hT.1 1 (by decide))
            refine tVV (As := [.int 4]) (rest := []) (i := 1) ⟨hx, hb, hml, hown, hts⟩ hK hE hP hD hS hA hAB (s_X3_readOne_3 l B0 adK adV D cy ad fr0 tx rby x16 f hT _) (cwV 1 hts gX3_readBoth_X3_readOne rfl rfl rfl (by decide +kernel) ⟨Nat.le_of_ble_eq_true rfl, Nat.le_of_ble_eq_true rfl⟩) (by decide) 3 e28 rfl rfl hl.1 rfl (Nat.le_of_ble_eq_true rfl) dX3_readBoth_36 ⟨Nat.le_of_ble_eq_true rfl, Nat.le_of_ble_eq_true rfl⟩ (fun f H locs hw hP hD hS => ?_)
            obtain ⟨hrs, x29, hT⟩ := hw
            refine lv_aload_n hx hb dX3_readBoth_39 rfl (lv_at hl 1 rfl) ?_
            obtain ⟨x30, x31, t33, x35, x37, x38, x39, y40, e41, h32, h34, h36⟩ := (show okX3 ad rby x29 1 (f 1) from hT.1 1 (by decide))
            refine va_get (D := D) (cl := vwCl) (ci := 3) (v := .ref (ad t33)) (C := RX3) (T := TX3) (N := 13) hx hb hts in_X3_readBoth_X3 hown hK hP 1 (wl_at (by decide) e41) rfl 4 (by decide) (hts (.fieldLink RX3 22 "EightReasons$Reader" "suit" "LEightReasons$Suit;") (List.mem_of_getElem? (i := 3) rfl)) (fun _ h9 => h9) rfl dX3_readBoth_40 ?_
            obtain ⟨x42, x44, x45, x47, x48, e49, h43, h46⟩ := (ty_suit hT h34)
            refine va_get (D := D) (cl := vwCl) (ci := 5) (v := .ref (ad (t33 + 7))) (C := RX5) (T := TX5) (N := 12) hx hb hts in_X3_readBoth_X5 hown hK hP t33 (wl_at (x_lt (x_suit0 h34)) e49) rfl 11 (by decide) (hts (.fieldLink RX3 191 "EightReasons$Suit" "formula" "LEightReasons$Formula;") (List.mem_of_getElem? (i := 4) rfl)) (fun _ h9 => h9) rfl dX3_readBoth_43 ?_
            refine lv_bipush (v := 9) hx hb dX3_readBoth_46 (by decide) ?_
            obtain ⟨x50, x52, x53, e55, h51, h54⟩ := (ty_suit7 hT h34)
            refine tVV (As := [.int 9]) (rest := []) (i := (t33 + 7)) ⟨hx, hb, hml, hown, hts⟩ hK hE hP hD hS hA hAB (s_X1_add_0 l B0 adK adV D cy ad fr0 tx rby x29 f hT t33 h34 (9 : Int32) _) (cwV 1 hts gX3_readBoth_X1_add rfl rfl rfl (by decide +kernel) ⟨Nat.le_of_ble_eq_true rfl, Nat.le_of_ble_eq_true rfl⟩) (x_lt (x_suit h34 (by decide))) 1 e55 rfl rfl hl.1 rfl (Nat.le_of_ble_eq_true rfl) dX3_readBoth_48 ⟨Nat.le_of_ble_eq_true rfl, Nat.le_of_ble_eq_true rfl⟩ (fun f H locs hw hP hD hS => ?_)
            obtain ⟨hrs, hT⟩ := hw
            obtain ⟨x56, ex56⟩ : ∃ q : Int32, q = v7_l2 + Int32.ofInt (1) := ⟨_, rfl⟩
            refine lv_iinc (v := x56) (lv' := [(2, .int x56), (0, .ref (ad 1)), (1, .int 4)]) hx hb dX3_readBoth_51 hl (k := 0) rfl ex56.symm (by decide) rfl (fun ls hl => ?_)
            have hx56 := r_inc ex56 (by decide) (by omega) (by omega)
            refine lv_goto (tgt := 7) hx hb dX3_readBoth_54 (by decide) ?_
            exact ih7 f H locs ls x56 x29 (by omega) (by omega) hT hP hD hS (lv_sub hl [0, 1, 2] rfl)
  refine lv_aload_n hx hb dX3_readBoth_0 rfl (lv_at hl 0 rfl) ?_
  refine lv_iload_n hx hb dX3_readBoth_1 rfl (lv_at hl 1 rfl) ?_
  have ttl_4 := tl_4
  obtain ⟨x57, x58, t60, x62, x64, x65, x66, y67, e68, h59, h61, h63⟩ := (show okX3 ad rby rnx 1 (f 1) from hT.1 1 (by decide))
  refine tVV (As := [.int 4]) (rest := []) (i := 1) ⟨hx, hb, hml, hown, hts⟩ hK hE hP hD hS hA hAB (s_X3_readOne_3 l B0 adK adV D cy ad fr0 tx rby rnx f hT _) (cwV 1 hts gX3_readBoth_X3_readOne rfl rfl rfl (by decide +kernel) ⟨Nat.le_of_ble_eq_true rfl, Nat.le_of_ble_eq_true rfl⟩) (by decide) 3 e68 rfl rfl hl.1 rfl (Nat.le_of_ble_eq_true rfl) dX3_readBoth_2 ⟨Nat.le_of_ble_eq_true rfl, Nat.le_of_ble_eq_true rfl⟩ (fun f H locs hw hP hD hS => ?_)
  obtain ⟨hrs, x69, hT⟩ := hw
  refine lv_iconst (v := 0) hx hb dX3_readBoth_5 (by decide) ?_
  refine lv_istore_n (lv' := [(2, .int 0), (0, .ref (ad 1)), (1, .int 4)]) hx hb dX3_readBoth_6 rfl hl (by decide) rfl (fun ls hl => ?_)
  have ttl_0 := tl_0
  exact j7 (Int.toNat (1601 - (0 : Int32).toInt)) f H locs ls (0 : Int32) x69 (by omega) (by omega) hT hP hD hS (lv_sub hl [0, 1, 2] rfl)
set_option maxHeartbeats 4000000 in
set_option maxRecDepth 100000 in
theorem s_X3_readEither_3 (l : Launch) (B0 : Nat) (adK adV : Nat → Nat) (D : va_G) (cy : Nat → ClassId) (ad : Nat → Nat) (fr0 : Nat → va_E) (tx : Int32) (rby : Int32) (rnx : Int32) (f : Nat → va_E) (hT : TYx ad cy fr0 tx rby rnx f) (sz : Nat) : TtV l yX3_readEither wsX3_readEither 29 674 [.ref (ad 1), .int 4] B0 adK adV D cy ad f sz (fun (g : Nat → va_E) => True ∧ (∃ (rnx' : Int32), TYx ad cy fr0 tx rby rnx' g)) := by
  refine TtV.of (cc := cX3_readEither) (maxL := 3) (own := RX3) (by decide) rfl (Nat.le_of_ble_eq_true rfl) rfl ?_
  intro p e s m below meth c A ls hx hb hr hml hts hown hlk hK hE hP hD hS hA hAB hl
  have hl : lv_has ls 3 [(0, .ref (ad 1)), (1, .int 4)] := hl
  refine st0 (fun H locs hP hS => ?_) hP hS
  have j7 : ∀ (N : Nat) (f : Nat → va_E) (H : Heap) (locs : List Loc) (ls : Array Slot) (v7_l2 : Int32) (v7_p_rnx : Int32), (1601 - v7_l2.toInt ≤ (N : Int)) → (0 ≤ v7_l2.toInt ∧ v7_l2.toInt ≤ 1600) → (TYx ad cy fr0 tx rby v7_p_rnx f) → (va_P D vwCl (wl ad f) H) → (va_D A (wl ad f)) → (va_S A s.heap H locs) → (lv_has ls 3 [(2, .int v7_l2), (0, .ref (ad 1)), (1, .int 4)]) → W p l e (rmO 29 674 0 0) s m ([.ref (ad 1), .int 4] : List Value).toArray below meth c H locs 0 0 (MQ below (va_Qv (fun (g : Nat → va_E) => True ∧ (∃ (rnx' : Int32), TYx ad cy fr0 tx rby rnx' g)) (fun g t => PstT D ad g t) A) ([.ref (ad 1), .int 4] : List Value).toArray s 0 0 A) (F0 m 7 ls []) := by
    intro N
    induction N with
    | zero => intro f H locs ls v7_l2 v7_p_rnx hN hv7_l2 hT hP hD hS hl; exact absurd hN (by omega)
    | succ N ih7 =>
      intro f H locs ls v7_l2 v7_p_rnx hN hv7_l2 hT hP hD hS hl
      refine lv_iload_n hx hb dX3_readEither_7 rfl (lv_at hl 0 rfl) ?_
      refine lv_sipush (v := 1600) hx hb dX3_readEither_8 (by decide) ?_
      have ttl_1600 := tl_1600
      refine lv_icmp_ge (tgt := 57) hx hb dX3_readEither_11 (by decide) (fun c1 => ?_) (fun c1 => ?_)
      · have kc1 := c_le c1
        exact tV hx hb hr hlk hP hS ⟨trivial, ⟨v7_p_rnx, hT⟩⟩ dX3_readEither_57
      · have kc1 := c_nle c1
        refine lv_aload_n hx hb dX3_readEither_14 rfl (lv_at hl 1 rfl) ?_
        obtain ⟨x2, x3, t5, x7, x9, x10, x11, y12, e13, h4, h6, h8⟩ := (show okX3 ad rby v7_p_rnx 1 (f 1) from hT.1 1 (by decide))
        refine va_get (D := D) (cl := vwCl) (ci := 3) (v := .int x2) (C := RX3) (T := TX3) (N := 13) hx hb hts in_X3_readEither_X3 hown hK hP 1 (wl_at (by decide) e13) rfl 0 (by decide) (hts (.fieldLink RX3 55 "EightReasons$Reader" "fault" "I") (List.mem_of_getElem? (i := 1) rfl)) (fun _ h9 => h9) rfl dX3_readEither_15 ?_
        have ttl_0 := tl_0
        refine lv_if_ne (tgt := 57) hx hb dX3_readEither_18 (by decide) (fun c14 => ?_) (fun c14 => ?_)
        · have kc14 := c_ne c14
          exact tV hx hb hr hlk hP hS ⟨trivial, ⟨v7_p_rnx, hT⟩⟩ dX3_readEither_57
        · have kc14 := c_eq c14
          refine lv_aload_n hx hb dX3_readEither_21 rfl (lv_at hl 1 rfl) ?_
          refine va_get (D := D) (cl := vwCl) (ci := 3) (v := .int x10) (C := RX3) (T := TX3) (N := 13) hx hb hts in_X3_readEither_X3 hown hK hP 1 (wl_at (by decide) e13) rfl 10 (by decide) (hts (.fieldLink RX3 67 "EightReasons$Reader" "kind" "I") (List.mem_of_getElem? (i := 2) rfl)) (fun _ h9 => h9) rfl dX3_readEither_22 ?_
          refine lv_bipush (v := 8) hx hb dX3_readEither_25 (by decide) ?_
          have ttl_8 := tl_8
          refine lv_icmp_ne (tgt := 57) hx hb dX3_readEither_27 (by decide) (fun c15 => ?_) (fun c15 => ?_)
          · have kc15 := c_ne c15
            exact tV hx hb hr hlk hP hS ⟨trivial, ⟨v7_p_rnx, hT⟩⟩ dX3_readEither_57
          · have kc15 := c_eq c15
            refine lv_aload_n hx hb dX3_readEither_30 rfl (lv_at hl 1 rfl) ?_
            refine tVV (As := []) (rest := []) (i := 1) ⟨hx, hb, hml, hown, hts⟩ hK hE hP hD hS hA hAB (s_X3_advance_0 l B0 adK adV D cy ad fr0 tx rby v7_p_rnx f hT _) (cwV 0 hts gX3_readEither_X3_advance rfl rfl rfl (by decide +kernel) ⟨Nat.le_of_ble_eq_true rfl, Nat.le_of_ble_eq_true rfl⟩) (by decide) 3 e13 rfl rfl hl.1 rfl (Nat.le_of_ble_eq_true rfl) dX3_readEither_31 ⟨Nat.le_of_ble_eq_true rfl, Nat.le_of_ble_eq_true rfl⟩ (fun f H locs hw hP hD hS => ?_)
            obtain ⟨hrs, x16, hT⟩ := hw
            refine lv_aload_n hx hb dX3_readEither_34 rfl (lv_at hl 1 rfl) ?_
            refine lv_iload_n hx hb dX3_readEither_35 rfl (lv_at hl 2 rfl) ?_
            have ttl_4 := tl_4
            obtain ⟨x17, x18, t20, x22, x24, x25, x26, y27, e28, h19, h21, h23⟩ := (show okX3 ad rby x16 1 (f 1) from hT.1 1 (by decide))
            refine tVV (As := [.int 4]) (rest := []) (i := 1) ⟨hx, hb, hml, hown, hts⟩ hK hE hP hD hS hA hAB (s_X3_readBoth_3 l B0 adK adV D cy ad fr0 tx rby x16 f hT _) (cwV 1 hts gX3_readEither_X3_readBoth rfl rfl rfl (by decide +kernel) ⟨Nat.le_of_ble_eq_true rfl, Nat.le_of_ble_eq_true rfl⟩) (by decide) 3 e28 rfl rfl hl.1 rfl (Nat.le_of_ble_eq_true rfl) dX3_readEither_36 ⟨Nat.le_of_ble_eq_true rfl, Nat.le_of_ble_eq_true rfl⟩ (fun f H locs hw hP hD hS => ?_)
            obtain ⟨hrs, x29, hT⟩ := hw
            refine lv_aload_n hx hb dX3_readEither_39 rfl (lv_at hl 1 rfl) ?_
            obtain ⟨x30, x31, t33, x35, x37, x38, x39, y40, e41, h32, h34, h36⟩ := (show okX3 ad rby x29 1 (f 1) from hT.1 1 (by decide))
            refine va_get (D := D) (cl := vwCl) (ci := 3) (v := .ref (ad t33)) (C := RX3) (T := TX3) (N := 13) hx hb hts in_X3_readEither_X3 hown hK hP 1 (wl_at (by decide) e41) rfl 4 (by decide) (hts (.fieldLink RX3 22 "EightReasons$Reader" "suit" "LEightReasons$Suit;") (List.mem_of_getElem? (i := 3) rfl)) (fun _ h9 => h9) rfl dX3_readEither_40 ?_
            obtain ⟨x42, x44, x45, x47, x48, e49, h43, h46⟩ := (ty_suit hT h34)
            refine va_get (D := D) (cl := vwCl) (ci := 5) (v := .ref (ad (t33 + 7))) (C := RX5) (T := TX5) (N := 12) hx hb hts in_X3_readEither_X5 hown hK hP t33 (wl_at (x_lt (x_suit0 h34)) e49) rfl 11 (by decide) (hts (.fieldLink RX3 191 "EightReasons$Suit" "formula" "LEightReasons$Formula;") (List.mem_of_getElem? (i := 4) rfl)) (fun _ h9 => h9) rfl dX3_readEither_43 ?_
            refine lv_bipush (v := 8) hx hb dX3_readEither_46 (by decide) ?_
            obtain ⟨x50, x52, x53, e55, h51, h54⟩ := (ty_suit7 hT h34)
            refine tVV (As := [.int 8]) (rest := []) (i := (t33 + 7)) ⟨hx, hb, hml, hown, hts⟩ hK hE hP hD hS hA hAB (s_X1_add_0 l B0 adK adV D cy ad fr0 tx rby x29 f hT t33 h34 (8 : Int32) _) (cwV 1 hts gX3_readEither_X1_add rfl rfl rfl (by decide +kernel) ⟨Nat.le_of_ble_eq_true rfl, Nat.le_of_ble_eq_true rfl⟩) (x_lt (x_suit h34 (by decide))) 1 e55 rfl rfl hl.1 rfl (Nat.le_of_ble_eq_true rfl) dX3_readEither_48 ⟨Nat.le_of_ble_eq_true rfl, Nat.le_of_ble_eq_true rfl⟩ (fun f H locs hw hP hD hS => ?_)
            obtain ⟨hrs, hT⟩ := hw
            obtain ⟨x56, ex56⟩ : ∃ q : Int32, q = v7_l2 + Int32.ofInt (1) := ⟨_, rfl⟩
            refine lv_iinc (v := x56) (lv' := [(2, .int x56), (0, .ref (ad 1)), (1, .int 4)]) hx hb dX3_readEither_51 hl (k := 0) rfl ex56.symm (by decide) rfl (fun ls hl => ?_)
            have hx56 := r_inc ex56 (by decide) (by omega) (by omega)
            refine lv_goto (tgt := 7) hx hb dX3_readEither_54 (by decide) ?_
            exact ih7 f H locs ls x56 x29 (by omega) (by omega) hT hP hD hS (lv_sub hl [0, 1, 2] rfl)
  refine lv_aload_n hx hb dX3_readEither_0 rfl (lv_at hl 0 rfl) ?_
  refine lv_iload_n hx hb dX3_readEither_1 rfl (lv_at hl 1 rfl) ?_
  have ttl_4 := tl_4
  obtain ⟨x57, x58, t60, x62, x64, x65, x66, y67, e68, h59, h61, h63⟩ := (show okX3 ad rby rnx 1 (f 1) from hT.1 1 (by decide))
  refine tVV (As := [.int 4]) (rest := []) (i := 1) ⟨hx, hb, hml, hown, hts⟩ hK hE hP hD hS hA hAB (s_X3_readBoth_3 l B0 adK adV D cy ad fr0 tx rby rnx f hT _) (cwV 1 hts gX3_readEither_X3_readBoth rfl rfl rfl (by decide +kernel) ⟨Nat.le_of_ble_eq_true rfl, Nat.le_of_ble_eq_true rfl⟩) (by decide) 3 e68 rfl rfl hl.1 rfl (Nat.le_of_ble_eq_true rfl) dX3_readEither_2 ⟨Nat.le_of_ble_eq_true rfl, Nat.le_of_ble_eq_true rfl⟩ (fun f H locs hw hP hD hS => ?_)
  obtain ⟨hrs, x69, hT⟩ := hw
  refine lv_iconst (v := 0) hx hb dX3_readEither_5 (by decide) ?_
  refine lv_istore_n (lv' := [(2, .int 0), (0, .ref (ad 1)), (1, .int 4)]) hx hb dX3_readEither_6 rfl hl (by decide) rfl (fun ls hl => ?_)
  have ttl_0 := tl_0
  exact j7 (Int.toNat (1601 - (0 : Int32).toInt)) f H locs ls (0 : Int32) x69 (by omega) (by omega) hT hP hD hS (lv_sub hl [0, 1, 2] rfl)
set_option maxHeartbeats 4000000 in
set_option maxRecDepth 100000 in
theorem s_X3_readUnit_4 (l : Launch) (B0 : Nat) (adK adV : Nat → Nat) (D : va_G) (cy : Nat → ClassId) (ad : Nat → Nat) (fr0 : Nat → va_E) (tx : Int32) (rby : Int32) (rnx : Int32) (f : Nat → va_E) (hT : TYx ad cy fr0 tx rby rnx f) (sz : Nat) : TtV l yX3_readUnit wsX3_readUnit 30 696 [.ref (ad 1), .int 3] B0 adK adV D cy ad f sz (fun (g : Nat → va_E) => True ∧ (∃ (rnx' : Int32), TYx ad cy fr0 tx rby rnx' g)) := by
  refine TtV.of (cc := cX3_readUnit) (maxL := 6) (own := RX3) (by decide) rfl (Nat.le_of_ble_eq_true rfl) rfl ?_
  intro p e s m below meth c A ls hx hb hr hml hts hown hlk hK hE hP hD hS hA hAB hl
  have hl : lv_has ls 6 [(0, .ref (ad 1)), (1, .int 3)] := hl
  refine st0 (fun H locs hP hS => ?_) hP hS
  refine lv_aload_n hx hb dX3_readUnit_0 rfl (lv_at hl 0 rfl) ?_
  obtain ⟨x1, x2, t4, x6, x8, x9, x10, y11, e12, h3, h5, h7⟩ := (show okX3 ad rby rnx 1 (f 1) from hT.1 1 (by decide))
  refine va_get (D := D) (cl := vwCl) (ci := 3) (v := .int x9) (C := RX3) (T := TX3) (N := 13) hx hb hts in_X3_readUnit_X3 hown hK hP 1 (wl_at (by decide) e12) rfl 10 (by decide) (hts (.fieldLink RX3 67 "EightReasons$Reader" "kind" "I") (List.mem_of_getElem? (i := 1) rfl)) (fun _ h9 => h9) rfl dX3_readUnit_1 ?_
  refine lv_bipush (v := 40) hx hb dX3_readUnit_4 (by decide) ?_
  have ttl_40 := tl_40
  refine lv_icmp_ne (tgt := 13) hx hb dX3_readUnit_6 (by decide) (fun c13 => ?_) (fun c13 => ?_)
  · have kc13 := c_ne c13
    refine lv_iconst (v := 0) hx hb dX3_readUnit_13 (by decide) ?_
    refine lv_istore_n (lv' := [(2, .int 0), (0, .ref (ad 1)), (1, .int 3)]) hx hb dX3_readUnit_14 rfl hl (by decide) rfl (fun ls hl => ?_)
    refine lv_aload_n hx hb dX3_readUnit_15 rfl (lv_at hl 1 rfl) ?_
    refine va_get (D := D) (cl := vwCl) (ci := 3) (v := .int x9) (C := RX3) (T := TX3) (N := 13) hx hb hts in_X3_readUnit_X3 hown hK hP 1 (wl_at (by decide) e12) rfl 10 (by decide) (hts (.fieldLink RX3 67 "EightReasons$Reader" "kind" "I") (List.mem_of_getElem? (i := 1) rfl)) (fun _ h9 => h9) rfl dX3_readUnit_16 ?_
    refine lv_bipush (v := 15) hx hb dX3_readUnit_19 (by decide) ?_
    have ttl_15 := tl_15
    refine lv_icmp_eq (tgt := 34) hx hb dX3_readUnit_21 (by decide) (fun c14 => ?_) (fun c14 => ?_)
    · have kc14 := c_eq c14
      refine lv_iconst (v := 1) hx hb dX3_readUnit_34 (by decide) ?_
      refine lv_goto (tgt := 39) hx hb dX3_readUnit_35 (by decide) ?_
      refine lv_istore_n (lv' := [(3, .int 1), (2, .int 0), (0, .ref (ad 1)), (1, .int 3)]) hx hb dX3_readUnit_39 rfl hl (by decide) rfl (fun ls hl => ?_)
      refine lv_aload_n hx hb dX3_readUnit_40 rfl (lv_at hl 2 rfl) ?_
      refine va_get (D := D) (cl := vwCl) (ci := 3) (v := .int x1) (C := RX3) (T := TX3) (N := 13) hx hb hts in_X3_readUnit_X3 hown hK hP 1 (wl_at (by decide) e12) rfl 0 (by decide) (hts (.fieldLink RX3 55 "EightReasons$Reader" "fault" "I") (List.mem_of_getElem? (i := 2) rfl)) (fun _ h9 => h9) rfl dX3_readUnit_41 ?_
      have ttl_0 := tl_0
      refine lv_if_ne (tgt := 55) hx hb dX3_readUnit_44 (by decide) (fun c15 => ?_) (fun c15 => ?_)
      · have kc15 := c_ne c15
        refine lv_aload_n hx hb dX3_readUnit_55 rfl (lv_at hl 2 rfl) ?_
        refine tVV (As := []) (rest := []) (i := 1) ⟨hx, hb, hml, hown, hts⟩ hK hE hP hD hS hA hAB (s_X3_refuse_0 l B0 adK adV D cy ad fr0 tx rby rnx f hT _) (cwV 0 hts gX3_readUnit_X3_refuse rfl rfl rfl (by decide +kernel) ⟨Nat.le_of_ble_eq_true rfl, Nat.le_of_ble_eq_true rfl⟩) (by decide) 3 e12 rfl rfl hl.1 rfl (Nat.le_of_ble_eq_true rfl) dX3_readUnit_56 ⟨Nat.le_of_ble_eq_true rfl, Nat.le_of_ble_eq_true rfl⟩ (fun f H locs hw hP hD hS => ?_)
        obtain ⟨hrs, hT⟩ := hw
        exact tV hx hb hr hlk hP hS ⟨trivial, ⟨rnx, hT⟩⟩ dX3_readUnit_59
      · have kc15 := c_eq c15
        refine lv_iload_n hx hb dX3_readUnit_47 rfl (lv_at hl 1 rfl) ?_
        refine lv_if_ne (tgt := 60) hx hb dX3_readUnit_48 (by decide) (fun c => absurd (by decide) c) (fun _ => ?_)
        refine lv_iload_n hx hb dX3_readUnit_51 rfl (lv_at hl 0 rfl) ?_
        refine lv_if_ne (tgt := 60) hx hb dX3_readUnit_52 (by decide) (fun _ => ?_) (fun c => absurd c (by decide))
        refine lv_aload_n hx hb dX3_readUnit_60 rfl (lv_at hl 2 rfl) ?_
        refine va_get (D := D) (cl := vwCl) (ci := 3) (v := .int x9) (C := RX3) (T := TX3) (N := 13) hx hb hts in_X3_readUnit_X3 hown hK hP 1 (wl_at (by decide) e12) rfl 10 (by decide) (hts (.fieldLink RX3 67 "EightReasons$Reader" "kind" "I") (List.mem_of_getElem? (i := 1) rfl)) (fun _ h9 => h9) rfl dX3_readUnit_61 ?_
        refine lv_bipush (v := 15) hx hb dX3_readUnit_64 (by decide) ?_
        refine lv_icmp_ne (tgt := 80) hx hb dX3_readUnit_66 (by decide) (fun c16 => ?_) (fun c16 => ?_)
        · have kc16 := c_ne c16
          exact absurd kc16 (by omega)
        · have kc16 := c_eq c16
          refine lv_sipush (v := 1000) hx hb dX3_readUnit_69 (by decide) ?_
          refine lv_aload_n hx hb dX3_readUnit_72 rfl (lv_at hl 2 rfl) ?_
          refine va_get (D := D) (cl := vwCl) (ci := 3) (v := .int x10) (C := RX3) (T := TX3) (N := 13) hx hb hts in_X3_readUnit_X3 hown hK hP 1 (wl_at (by decide) e12) rfl 11 (by decide) (hts (.fieldLink RX3 102 "EightReasons$Reader" "number" "I") (List.mem_of_getElem? (i := 3) rfl)) (fun _ h9 => h9) rfl dX3_readUnit_73 ?_
          refine lv_iadd hx hb dX3_readUnit_76 ?_
          refine lv_topi (fun x17 ex17 => ?_)
          refine lv_goto (tgt := 84) hx hb dX3_readUnit_77 (by decide) ?_
          refine lv_istore (lv' := [(4, .int x17), (3, .int 1), (2, .int 0), (0, .ref (ad 1)), (1, .int 3)]) hx hb dX3_readUnit_84 hl (by decide) rfl (fun ls hl => ?_)
          refine lv_iload_n hx hb dX3_readUnit_86 rfl (lv_at hl 2 rfl) ?_
          refine lv_if_eq (tgt := 100) hx hb dX3_readUnit_87 (by decide) (fun _ => ?_) (fun c => absurd (by decide) c)
          refine lv_iconst (v := 0) hx hb dX3_readUnit_100 (by decide) ?_
          refine lv_istore (lv' := [(5, .int 0), (4, .int x17), (3, .int 1), (2, .int 0), (0, .ref (ad 1)), (1, .int 3)]) hx hb dX3_readUnit_101 hl (by decide) rfl (fun ls hl => ?_)
          refine lv_aload_n hx hb dX3_readUnit_103 rfl (lv_at hl 4 rfl) ?_
          refine lv_aload_n hx hb dX3_readUnit_104 rfl (lv_at hl 4 rfl) ?_
          refine va_get (D := D) (cl := vwCl) (ci := 3) (v := .ref (ad t4)) (C := RX3) (T := TX3) (N := 13) hx hb hts in_X3_readUnit_X3 hown hK hP 1 (wl_at (by decide) e12) rfl 4 (by decide) (hts (.fieldLink RX3 22 "EightReasons$Reader" "suit" "LEightReasons$Suit;") (List.mem_of_getElem? (i := 4) rfl)) (fun _ h9 => h9) rfl dX3_readUnit_105 ?_
          obtain ⟨x18, x20, x21, x23, x24, e25, h19, h22⟩ := (ty_suit hT h5)
          refine va_get (D := D) (cl := vwCl) (ci := 5) (v := .ref (ad (t4 + 7))) (C := RX5) (T := TX5) (N := 12) hx hb hts in_X3_readUnit_X5 hown hK hP t4 (wl_at (x_lt (x_suit0 h5)) e25) rfl 11 (by decide) (hts (.fieldLink RX3 191 "EightReasons$Suit" "formula" "LEightReasons$Formula;") (List.mem_of_getElem? (i := 5) rfl)) (fun _ h9 => h9) rfl dX3_readUnit_108 ?_
          obtain ⟨x26, x28, x29, e31, h27, h30⟩ := (ty_suit7 hT h5)
          refine va_get (D := D) (cl := vwCl) (ci := 1) (v := .int x28) (C := RX1) (T := TX1) (N := 6) hx hb hts in_X3_readUnit_X1 hown hK hP (t4 + 7) (wl_at (x_lt (x_suit h5 (by decide))) e31) rfl 2 (by decide) (hts (.fieldLink RX3 215 "EightReasons$Formula" "units" "I") (List.mem_of_getElem? (i := 6) rfl)) (fun _ h9 => h9) rfl dX3_readUnit_111 ?_
          refine lv_bipush (v := 30) hx hb dX3_readUnit_114 (by decide) ?_
          have ttl_30 := tl_30
          refine lv_icmp_ge (tgt := 128) hx hb dX3_readUnit_116 (by decide) (fun c32 => ?_) (fun c32 => ?_)
          · have kc32 := c_le c32
            refine lv_iconst (v := 0) hx hb dX3_readUnit_128 (by decide) ?_
            refine tVI (As := [.int 0]) (rest := []) (i := 1) ⟨hx, hb, hml, hown, hts⟩ hK hE hP hD hS hA hAB (s_X3_begin_0 l B0 adK adV D cy ad fr0 tx rby rnx f hT (0 : Int32) (by omega) _) (cwV 1 hts gX3_readUnit_X3_begin rfl rfl rfl (by decide +kernel) ⟨Nat.le_of_ble_eq_true rfl, Nat.le_of_ble_eq_true rfl⟩) (by decide) 3 e12 rfl rfl hl.1 rfl (Nat.le_of_ble_eq_true rfl) dX3_readUnit_129 ⟨Nat.le_of_ble_eq_true rfl, Nat.le_of_ble_eq_true rfl⟩ (fun r f H locs hw hP hD hS => ?_)
            obtain ⟨hrs, x33, hT⟩ := hw
            obtain ⟨x34, rfl⟩ : ∃ q, q = r := ⟨_, rfl⟩
            rcases hrs with ⟨rfl, h35⟩ | ⟨rfl, h36⟩
            · exact False.elim (by omega)
            · refine lv_if_ne (tgt := 136) hx hb dX3_readUnit_132 (by decide) (fun c => absurd (by decide) c) (fun _ => ?_)
              exact tV hx hb hr hlk hP hS ⟨trivial, ⟨x33, hT⟩⟩ dX3_readUnit_135
          · have kc32 := c_nle c32
            refine lv_iload hx hb dX3_readUnit_119 (lv_at hl 0 rfl) ?_
            refine lv_if_ne (tgt := 128) hx hb dX3_readUnit_121 (by decide) (fun c => absurd (by decide) c) (fun _ => ?_)
            refine lv_iconst (v := 1) hx hb dX3_readUnit_124 (by decide) ?_
            refine lv_goto (tgt := 129) hx hb dX3_readUnit_125 (by decide) ?_
            have ttl_1 := tl_1
            refine tVI (As := [.int 1]) (rest := []) (i := 1) ⟨hx, hb, hml, hown, hts⟩ hK hE hP hD hS hA hAB (s_X3_begin_0 l B0 adK adV D cy ad fr0 tx rby rnx f hT (1 : Int32) (by omega) _) (cwV 1 hts gX3_readUnit_X3_begin rfl rfl rfl (by decide +kernel) ⟨Nat.le_of_ble_eq_true rfl, Nat.le_of_ble_eq_true rfl⟩) (by decide) 3 e12 rfl rfl hl.1 rfl (Nat.le_of_ble_eq_true rfl) dX3_readUnit_129 ⟨Nat.le_of_ble_eq_true rfl, Nat.le_of_ble_eq_true rfl⟩ (fun r f H locs hw hP hD hS => ?_)
            obtain ⟨hrs, x37, hT⟩ := hw
            obtain ⟨x38, rfl⟩ : ∃ q, q = r := ⟨_, rfl⟩
            rcases hrs with ⟨rfl, h39⟩ | ⟨rfl, h40⟩
            · refine lv_if_ne (tgt := 136) hx hb dX3_readUnit_132 (by decide) (fun _ => ?_) (fun c => absurd c (by decide))
              refine lv_aload_n hx hb dX3_readUnit_136 rfl (lv_at hl 4 rfl) ?_
              obtain ⟨x41, x42, t44, x46, x48, x49, x50, y51, e52, h43, h45, h47⟩ := (show okX3 ad rby x37 1 (f 1) from hT.1 1 (by decide))
              refine va_get (D := D) (cl := vwCl) (ci := 3) (v := .ref (ad t44)) (C := RX3) (T := TX3) (N := 13) hx hb hts in_X3_readUnit_X3 hown hK hP 1 (wl_at (by decide) e52) rfl 4 (by decide) (hts (.fieldLink RX3 22 "EightReasons$Reader" "suit" "LEightReasons$Suit;") (List.mem_of_getElem? (i := 4) rfl)) (fun _ h9 => h9) rfl dX3_readUnit_137 ?_
              obtain ⟨x53, x55, x56, x58, x59, e60, h54, h57⟩ := (ty_suit hT h45)
              refine va_get (D := D) (cl := vwCl) (ci := 5) (v := .ref (ad (t44 + 7))) (C := RX5) (T := TX5) (N := 12) hx hb hts in_X3_readUnit_X5 hown hK hP t44 (wl_at (x_lt (x_suit0 h45)) e60) rfl 11 (by decide) (hts (.fieldLink RX3 191 "EightReasons$Suit" "formula" "LEightReasons$Formula;") (List.mem_of_getElem? (i := 5) rfl)) (fun _ h9 => h9) rfl dX3_readUnit_140 ?_
              refine lv_dup hx hb dX3_readUnit_143 rfl ?_
              obtain ⟨x61, x63, x64, e66, h62, h65⟩ := (ty_suit7 hT h45)
              refine va_get (D := D) (cl := vwCl) (ci := 1) (v := .int x63) (C := RX1) (T := TX1) (N := 6) hx hb hts in_X3_readUnit_X1 hown hK hP (t44 + 7) (wl_at (x_lt (x_suit h45 (by decide))) e66) rfl 2 (by decide) (hts (.fieldLink RX3 215 "EightReasons$Formula" "units" "I") (List.mem_of_getElem? (i := 6) rfl)) (fun _ h9 => h9) rfl dX3_readUnit_144 ?_
              refine lv_iconst (v := 1) hx hb dX3_readUnit_147 (by decide) ?_
              refine lv_iadd hx hb dX3_readUnit_148 ?_
              refine lv_topi (fun x67 ex67 => ?_)
              refine va_put (D := D) (cl := vwCl) (ci := 1) (v := .int x67) (ty := tyX1 2) (C := RX1) (T := TX1) (N := 6) hx hb hts in_X3_readUnit_X1 tyX1 tyX1_ok nmX1 hown hK hP hD hS (t44 + 7) (wl_at (x_lt (x_suit h45 (by decide))) e66) rfl 2 (by decide) (hts (.fieldLink RX3 215 "EightReasons$Formula" "units" "I") (List.mem_of_getElem? (i := 6) rfl)) (fun _ h9 => h9) rfl (tyX1_ok 2 (by decide)) rfl rfl (Nat.le_of_ble_eq_true rfl) dX3_readUnit_149 (fun H locs hP hD hS => ?_)
              obtain ⟨f, hT, hP, hD, e68, hj69⟩ := stU (x_lt (x_suit h45 (by decide))) (TYx.up hT (x_suit h45 (by decide)) (ok_suit7 h45 ⟨x61, x67, x64, rfl, by omega, by omega⟩)) hP hD
              have e70 := (hj69 t44 (by omega)).trans e60
              refine lv_iload_n hx hb dX3_readUnit_152 rfl (lv_at hl 3 rfl) ?_
              refine lv_if_eq (tgt := 172) hx hb dX3_readUnit_153 (by decide) (fun _ => ?_) (fun c => absurd (by decide) c)
              refine lv_aload_n hx hb dX3_readUnit_172 rfl (lv_at hl 4 rfl) ?_
              obtain ⟨x71, x72, t74, x76, x78, x79, x80, y81, e82, h73, h75, h77⟩ := (show okX3 ad rby x37 1 (f 1) from hT.1 1 (by decide))
              refine va_get (D := D) (cl := vwCl) (ci := 3) (v := .ref (ad t74)) (C := RX3) (T := TX3) (N := 13) hx hb hts in_X3_readUnit_X3 hown hK hP 1 (wl_at (by decide) e82) rfl 4 (by decide) (hts (.fieldLink RX3 22 "EightReasons$Reader" "suit" "LEightReasons$Suit;") (List.mem_of_getElem? (i := 4) rfl)) (fun _ h9 => h9) rfl dX3_readUnit_173 ?_
              obtain ⟨x83, x85, x86, x88, x89, e90, h84, h87⟩ := (ty_suit hT h75)
              refine va_get (D := D) (cl := vwCl) (ci := 5) (v := .ref (ad (t74 + 7))) (C := RX5) (T := TX5) (N := 12) hx hb hts in_X3_readUnit_X5 hown hK hP t74 (wl_at (x_lt (x_suit0 h75)) e90) rfl 11 (by decide) (hts (.fieldLink RX3 191 "EightReasons$Suit" "formula" "LEightReasons$Formula;") (List.mem_of_getElem? (i := 5) rfl)) (fun _ h9 => h9) rfl dX3_readUnit_176 ?_
              refine lv_iload hx hb dX3_readUnit_179 (lv_at hl 1 rfl) ?_
              obtain ⟨x91, x93, x94, e96, h92, h95⟩ := (ty_suit7 hT h75)
              refine tVV (As := [.int x17]) (rest := []) (i := (t74 + 7)) ⟨hx, hb, hml, hown, hts⟩ hK hE hP hD hS hA hAB (s_X1_add_0 l B0 adK adV D cy ad fr0 tx rby x37 f hT t74 h75 x17 _) (cwV 1 hts gX3_readUnit_X1_add rfl rfl rfl (by decide +kernel) ⟨Nat.le_of_ble_eq_true rfl, Nat.le_of_ble_eq_true rfl⟩) (x_lt (x_suit h75 (by decide))) 1 e96 rfl rfl hl.1 rfl (Nat.le_of_ble_eq_true rfl) dX3_readUnit_181 ⟨Nat.le_of_ble_eq_true rfl, Nat.le_of_ble_eq_true rfl⟩ (fun f H locs hw hP hD hS => ?_)
              obtain ⟨hrs, hT⟩ := hw
              exact tV hx hb hr hlk hP hS ⟨trivial, ⟨x37, hT⟩⟩ dX3_readUnit_184
            · exact False.elim (by omega)
    · have kc14 := c_ne c14
      refine lv_aload_n hx hb dX3_readUnit_24 rfl (lv_at hl 1 rfl) ?_
      refine va_get (D := D) (cl := vwCl) (ci := 3) (v := .int x9) (C := RX3) (T := TX3) (N := 13) hx hb hts in_X3_readUnit_X3 hown hK hP 1 (wl_at (by decide) e12) rfl 10 (by decide) (hts (.fieldLink RX3 67 "EightReasons$Reader" "kind" "I") (List.mem_of_getElem? (i := 1) rfl)) (fun _ h9 => h9) rfl dX3_readUnit_25 ?_
      refine tSI (As := [.int x9]) (rest := []) ⟨hx, hb, hml, hown, hts⟩ hK hE hP hD hS hA hAB (s_X1_isUnitWord_0 l B0 adK adV D cy ad f x9 _) (va_cwS 1 hts gX3_readUnit_X1_isUnitWord rfl rfl rfl (by decide +kernel) ⟨Nat.le_of_ble_eq_true rfl, Nat.le_of_ble_eq_true rfl⟩) rfl hl.1 rfl (Nat.le_of_ble_eq_true rfl) dX3_readUnit_28 ⟨Nat.le_of_ble_eq_true rfl, Nat.le_of_ble_eq_true rfl⟩ (fun r g H locs hw hP hD hS => ?_)
      obtain ⟨hrs, rfl⟩ := hw
      obtain ⟨x97, rfl⟩ : ∃ q, q = r := ⟨_, rfl⟩
      rcases hrs with ⟨rfl, h98, h99⟩ | rfl
      · refine lv_if_eq (tgt := 38) hx hb dX3_readUnit_31 (by decide) (fun c => absurd c (by decide)) (fun _ => ?_)
        refine lv_iconst (v := 1) hx hb dX3_readUnit_34 (by decide) ?_
        refine lv_goto (tgt := 39) hx hb dX3_readUnit_35 (by decide) ?_
        refine lv_istore_n (lv' := [(3, .int 1), (2, .int 0), (0, .ref (ad 1)), (1, .int 3)]) hx hb dX3_readUnit_39 rfl hl (by decide) rfl (fun ls hl => ?_)
        refine lv_aload_n hx hb dX3_readUnit_40 rfl (lv_at hl 2 rfl) ?_
        refine va_get (D := D) (cl := vwCl) (ci := 3) (v := .int x1) (C := RX3) (T := TX3) (N := 13) hx hb hts in_X3_readUnit_X3 hown hK hP 1 (wl_at (by decide) e12) rfl 0 (by decide) (hts (.fieldLink RX3 55 "EightReasons$Reader" "fault" "I") (List.mem_of_getElem? (i := 2) rfl)) (fun _ h9 => h9) rfl dX3_readUnit_41 ?_
        have ttl_0 := tl_0
        refine lv_if_ne (tgt := 55) hx hb dX3_readUnit_44 (by decide) (fun c100 => ?_) (fun c100 => ?_)
        · have kc100 := c_ne c100
          refine lv_aload_n hx hb dX3_readUnit_55 rfl (lv_at hl 2 rfl) ?_
          refine tVV (As := []) (rest := []) (i := 1) ⟨hx, hb, hml, hown, hts⟩ hK hE hP hD hS hA hAB (s_X3_refuse_0 l B0 adK adV D cy ad fr0 tx rby rnx f hT _) (cwV 0 hts gX3_readUnit_X3_refuse rfl rfl rfl (by decide +kernel) ⟨Nat.le_of_ble_eq_true rfl, Nat.le_of_ble_eq_true rfl⟩) (by decide) 3 e12 rfl rfl hl.1 rfl (Nat.le_of_ble_eq_true rfl) dX3_readUnit_56 ⟨Nat.le_of_ble_eq_true rfl, Nat.le_of_ble_eq_true rfl⟩ (fun f H locs hw hP hD hS => ?_)
          obtain ⟨hrs, hT⟩ := hw
          exact tV hx hb hr hlk hP hS ⟨trivial, ⟨rnx, hT⟩⟩ dX3_readUnit_59
        · have kc100 := c_eq c100
          refine lv_iload_n hx hb dX3_readUnit_47 rfl (lv_at hl 1 rfl) ?_
          refine lv_if_ne (tgt := 60) hx hb dX3_readUnit_48 (by decide) (fun c => absurd (by decide) c) (fun _ => ?_)
          refine lv_iload_n hx hb dX3_readUnit_51 rfl (lv_at hl 0 rfl) ?_
          refine lv_if_ne (tgt := 60) hx hb dX3_readUnit_52 (by decide) (fun _ => ?_) (fun c => absurd c (by decide))
          refine lv_aload_n hx hb dX3_readUnit_60 rfl (lv_at hl 2 rfl) ?_
          refine va_get (D := D) (cl := vwCl) (ci := 3) (v := .int x9) (C := RX3) (T := TX3) (N := 13) hx hb hts in_X3_readUnit_X3 hown hK hP 1 (wl_at (by decide) e12) rfl 10 (by decide) (hts (.fieldLink RX3 67 "EightReasons$Reader" "kind" "I") (List.mem_of_getElem? (i := 1) rfl)) (fun _ h9 => h9) rfl dX3_readUnit_61 ?_
          refine lv_bipush (v := 15) hx hb dX3_readUnit_64 (by decide) ?_
          refine lv_icmp_ne (tgt := 80) hx hb dX3_readUnit_66 (by decide) (fun c101 => ?_) (fun c101 => ?_)
          · have kc101 := c_ne c101
            refine lv_aload_n hx hb dX3_readUnit_80 rfl (lv_at hl 2 rfl) ?_
            refine va_get (D := D) (cl := vwCl) (ci := 3) (v := .int x9) (C := RX3) (T := TX3) (N := 13) hx hb hts in_X3_readUnit_X3 hown hK hP 1 (wl_at (by decide) e12) rfl 10 (by decide) (hts (.fieldLink RX3 67 "EightReasons$Reader" "kind" "I") (List.mem_of_getElem? (i := 1) rfl)) (fun _ h9 => h9) rfl dX3_readUnit_81 ?_
            refine lv_istore (lv' := [(4, .int x9), (3, .int 1), (2, .int 0), (0, .ref (ad 1)), (1, .int 3)]) hx hb dX3_readUnit_84 hl (by decide) rfl (fun ls hl => ?_)
            refine lv_iload_n hx hb dX3_readUnit_86 rfl (lv_at hl 2 rfl) ?_
            refine lv_if_eq (tgt := 100) hx hb dX3_readUnit_87 (by decide) (fun _ => ?_) (fun c => absurd (by decide) c)
            refine lv_iconst (v := 0) hx hb dX3_readUnit_100 (by decide) ?_
            refine lv_istore (lv' := [(5, .int 0), (4, .int x9), (3, .int 1), (2, .int 0), (0, .ref (ad 1)), (1, .int 3)]) hx hb dX3_readUnit_101 hl (by decide) rfl (fun ls hl => ?_)
            refine lv_aload_n hx hb dX3_readUnit_103 rfl (lv_at hl 4 rfl) ?_
            refine lv_aload_n hx hb dX3_readUnit_104 rfl (lv_at hl 4 rfl) ?_
            refine va_get (D := D) (cl := vwCl) (ci := 3) (v := .ref (ad t4)) (C := RX3) (T := TX3) (N := 13) hx hb hts in_X3_readUnit_X3 hown hK hP 1 (wl_at (by decide) e12) rfl 4 (by decide) (hts (.fieldLink RX3 22 "EightReasons$Reader" "suit" "LEightReasons$Suit;") (List.mem_of_getElem? (i := 4) rfl)) (fun _ h9 => h9) rfl dX3_readUnit_105 ?_
            obtain ⟨x102, x104, x105, x107, x108, e109, h103, h106⟩ := (ty_suit hT h5)
            refine va_get (D := D) (cl := vwCl) (ci := 5) (v := .ref (ad (t4 + 7))) (C := RX5) (T := TX5) (N := 12) hx hb hts in_X3_readUnit_X5 hown hK hP t4 (wl_at (x_lt (x_suit0 h5)) e109) rfl 11 (by decide) (hts (.fieldLink RX3 191 "EightReasons$Suit" "formula" "LEightReasons$Formula;") (List.mem_of_getElem? (i := 5) rfl)) (fun _ h9 => h9) rfl dX3_readUnit_108 ?_
            obtain ⟨x110, x112, x113, e115, h111, h114⟩ := (ty_suit7 hT h5)
            refine va_get (D := D) (cl := vwCl) (ci := 1) (v := .int x112) (C := RX1) (T := TX1) (N := 6) hx hb hts in_X3_readUnit_X1 hown hK hP (t4 + 7) (wl_at (x_lt (x_suit h5 (by decide))) e115) rfl 2 (by decide) (hts (.fieldLink RX3 215 "EightReasons$Formula" "units" "I") (List.mem_of_getElem? (i := 6) rfl)) (fun _ h9 => h9) rfl dX3_readUnit_111 ?_
            refine lv_bipush (v := 30) hx hb dX3_readUnit_114 (by decide) ?_
            have ttl_30 := tl_30
            refine lv_icmp_ge (tgt := 128) hx hb dX3_readUnit_116 (by decide) (fun c116 => ?_) (fun c116 => ?_)
            · have kc116 := c_le c116
              refine lv_iconst (v := 0) hx hb dX3_readUnit_128 (by decide) ?_
              refine tVI (As := [.int 0]) (rest := []) (i := 1) ⟨hx, hb, hml, hown, hts⟩ hK hE hP hD hS hA hAB (s_X3_begin_0 l B0 adK adV D cy ad fr0 tx rby rnx f hT (0 : Int32) (by omega) _) (cwV 1 hts gX3_readUnit_X3_begin rfl rfl rfl (by decide +kernel) ⟨Nat.le_of_ble_eq_true rfl, Nat.le_of_ble_eq_true rfl⟩) (by decide) 3 e12 rfl rfl hl.1 rfl (Nat.le_of_ble_eq_true rfl) dX3_readUnit_129 ⟨Nat.le_of_ble_eq_true rfl, Nat.le_of_ble_eq_true rfl⟩ (fun r f H locs hw hP hD hS => ?_)
              obtain ⟨hrs, x117, hT⟩ := hw
              obtain ⟨x118, rfl⟩ : ∃ q, q = r := ⟨_, rfl⟩
              rcases hrs with ⟨rfl, h119⟩ | ⟨rfl, h120⟩
              · exact False.elim (by omega)
              · refine lv_if_ne (tgt := 136) hx hb dX3_readUnit_132 (by decide) (fun c => absurd (by decide) c) (fun _ => ?_)
                exact tV hx hb hr hlk hP hS ⟨trivial, ⟨x117, hT⟩⟩ dX3_readUnit_135
            · have kc116 := c_nle c116
              refine lv_iload hx hb dX3_readUnit_119 (lv_at hl 0 rfl) ?_
              refine lv_if_ne (tgt := 128) hx hb dX3_readUnit_121 (by decide) (fun c => absurd (by decide) c) (fun _ => ?_)
              refine lv_iconst (v := 1) hx hb dX3_readUnit_124 (by decide) ?_
              refine lv_goto (tgt := 129) hx hb dX3_readUnit_125 (by decide) ?_
              have ttl_1 := tl_1
              refine tVI (As := [.int 1]) (rest := []) (i := 1) ⟨hx, hb, hml, hown, hts⟩ hK hE hP hD hS hA hAB (s_X3_begin_0 l B0 adK adV D cy ad fr0 tx rby rnx f hT (1 : Int32) (by omega) _) (cwV 1 hts gX3_readUnit_X3_begin rfl rfl rfl (by decide +kernel) ⟨Nat.le_of_ble_eq_true rfl, Nat.le_of_ble_eq_true rfl⟩) (by decide) 3 e12 rfl rfl hl.1 rfl (Nat.le_of_ble_eq_true rfl) dX3_readUnit_129 ⟨Nat.le_of_ble_eq_true rfl, Nat.le_of_ble_eq_true rfl⟩ (fun r f H locs hw hP hD hS => ?_)
              obtain ⟨hrs, x121, hT⟩ := hw
              obtain ⟨x122, rfl⟩ : ∃ q, q = r := ⟨_, rfl⟩
              rcases hrs with ⟨rfl, h123⟩ | ⟨rfl, h124⟩
              · refine lv_if_ne (tgt := 136) hx hb dX3_readUnit_132 (by decide) (fun _ => ?_) (fun c => absurd c (by decide))
                refine lv_aload_n hx hb dX3_readUnit_136 rfl (lv_at hl 4 rfl) ?_
                obtain ⟨x125, x126, t128, x130, x132, x133, x134, y135, e136, h127, h129, h131⟩ := (show okX3 ad rby x121 1 (f 1) from hT.1 1 (by decide))
                refine va_get (D := D) (cl := vwCl) (ci := 3) (v := .ref (ad t128)) (C := RX3) (T := TX3) (N := 13) hx hb hts in_X3_readUnit_X3 hown hK hP 1 (wl_at (by decide) e136) rfl 4 (by decide) (hts (.fieldLink RX3 22 "EightReasons$Reader" "suit" "LEightReasons$Suit;") (List.mem_of_getElem? (i := 4) rfl)) (fun _ h9 => h9) rfl dX3_readUnit_137 ?_
                obtain ⟨x137, x139, x140, x142, x143, e144, h138, h141⟩ := (ty_suit hT h129)
                refine va_get (D := D) (cl := vwCl) (ci := 5) (v := .ref (ad (t128 + 7))) (C := RX5) (T := TX5) (N := 12) hx hb hts in_X3_readUnit_X5 hown hK hP t128 (wl_at (x_lt (x_suit0 h129)) e144) rfl 11 (by decide) (hts (.fieldLink RX3 191 "EightReasons$Suit" "formula" "LEightReasons$Formula;") (List.mem_of_getElem? (i := 5) rfl)) (fun _ h9 => h9) rfl dX3_readUnit_140 ?_
                refine lv_dup hx hb dX3_readUnit_143 rfl ?_
                obtain ⟨x145, x147, x148, e150, h146, h149⟩ := (ty_suit7 hT h129)
                refine va_get (D := D) (cl := vwCl) (ci := 1) (v := .int x147) (C := RX1) (T := TX1) (N := 6) hx hb hts in_X3_readUnit_X1 hown hK hP (t128 + 7) (wl_at (x_lt (x_suit h129 (by decide))) e150) rfl 2 (by decide) (hts (.fieldLink RX3 215 "EightReasons$Formula" "units" "I") (List.mem_of_getElem? (i := 6) rfl)) (fun _ h9 => h9) rfl dX3_readUnit_144 ?_
                refine lv_iconst (v := 1) hx hb dX3_readUnit_147 (by decide) ?_
                refine lv_iadd hx hb dX3_readUnit_148 ?_
                refine lv_topi (fun x151 ex151 => ?_)
                refine va_put (D := D) (cl := vwCl) (ci := 1) (v := .int x151) (ty := tyX1 2) (C := RX1) (T := TX1) (N := 6) hx hb hts in_X3_readUnit_X1 tyX1 tyX1_ok nmX1 hown hK hP hD hS (t128 + 7) (wl_at (x_lt (x_suit h129 (by decide))) e150) rfl 2 (by decide) (hts (.fieldLink RX3 215 "EightReasons$Formula" "units" "I") (List.mem_of_getElem? (i := 6) rfl)) (fun _ h9 => h9) rfl (tyX1_ok 2 (by decide)) rfl rfl (Nat.le_of_ble_eq_true rfl) dX3_readUnit_149 (fun H locs hP hD hS => ?_)
                obtain ⟨f, hT, hP, hD, e152, hj153⟩ := stU (x_lt (x_suit h129 (by decide))) (TYx.up hT (x_suit h129 (by decide)) (ok_suit7 h129 ⟨x145, x151, x148, rfl, by omega, by omega⟩)) hP hD
                have e154 := (hj153 t128 (by omega)).trans e144
                refine lv_iload_n hx hb dX3_readUnit_152 rfl (lv_at hl 3 rfl) ?_
                refine lv_if_eq (tgt := 172) hx hb dX3_readUnit_153 (by decide) (fun _ => ?_) (fun c => absurd (by decide) c)
                refine lv_aload_n hx hb dX3_readUnit_172 rfl (lv_at hl 4 rfl) ?_
                obtain ⟨x155, x156, t158, x160, x162, x163, x164, y165, e166, h157, h159, h161⟩ := (show okX3 ad rby x121 1 (f 1) from hT.1 1 (by decide))
                refine va_get (D := D) (cl := vwCl) (ci := 3) (v := .ref (ad t158)) (C := RX3) (T := TX3) (N := 13) hx hb hts in_X3_readUnit_X3 hown hK hP 1 (wl_at (by decide) e166) rfl 4 (by decide) (hts (.fieldLink RX3 22 "EightReasons$Reader" "suit" "LEightReasons$Suit;") (List.mem_of_getElem? (i := 4) rfl)) (fun _ h9 => h9) rfl dX3_readUnit_173 ?_
                obtain ⟨x167, x169, x170, x172, x173, e174, h168, h171⟩ := (ty_suit hT h159)
                refine va_get (D := D) (cl := vwCl) (ci := 5) (v := .ref (ad (t158 + 7))) (C := RX5) (T := TX5) (N := 12) hx hb hts in_X3_readUnit_X5 hown hK hP t158 (wl_at (x_lt (x_suit0 h159)) e174) rfl 11 (by decide) (hts (.fieldLink RX3 191 "EightReasons$Suit" "formula" "LEightReasons$Formula;") (List.mem_of_getElem? (i := 5) rfl)) (fun _ h9 => h9) rfl dX3_readUnit_176 ?_
                refine lv_iload hx hb dX3_readUnit_179 (lv_at hl 1 rfl) ?_
                obtain ⟨x175, x177, x178, e180, h176, h179⟩ := (ty_suit7 hT h159)
                refine tVV (As := [.int x9]) (rest := []) (i := (t158 + 7)) ⟨hx, hb, hml, hown, hts⟩ hK hE hP hD hS hA hAB (s_X1_add_0 l B0 adK adV D cy ad fr0 tx rby x121 f hT t158 h159 x9 _) (cwV 1 hts gX3_readUnit_X1_add rfl rfl rfl (by decide +kernel) ⟨Nat.le_of_ble_eq_true rfl, Nat.le_of_ble_eq_true rfl⟩) (x_lt (x_suit h159 (by decide))) 1 e180 rfl rfl hl.1 rfl (Nat.le_of_ble_eq_true rfl) dX3_readUnit_181 ⟨Nat.le_of_ble_eq_true rfl, Nat.le_of_ble_eq_true rfl⟩ (fun f H locs hw hP hD hS => ?_)
                obtain ⟨hrs, hT⟩ := hw
                exact tV hx hb hr hlk hP hS ⟨trivial, ⟨x121, hT⟩⟩ dX3_readUnit_184
              · exact False.elim (by omega)
          · have kc101 := c_eq c101
            exact absurd kc101 (by omega)
      · refine lv_if_eq (tgt := 38) hx hb dX3_readUnit_31 (by decide) (fun _ => ?_) (fun c => absurd (by decide) c)
        refine lv_iconst (v := 0) hx hb dX3_readUnit_38 (by decide) ?_
        refine lv_istore_n (lv' := [(3, .int 0), (2, .int 0), (0, .ref (ad 1)), (1, .int 3)]) hx hb dX3_readUnit_39 rfl hl (by decide) rfl (fun ls hl => ?_)
        refine lv_aload_n hx hb dX3_readUnit_40 rfl (lv_at hl 2 rfl) ?_
        refine va_get (D := D) (cl := vwCl) (ci := 3) (v := .int x1) (C := RX3) (T := TX3) (N := 13) hx hb hts in_X3_readUnit_X3 hown hK hP 1 (wl_at (by decide) e12) rfl 0 (by decide) (hts (.fieldLink RX3 55 "EightReasons$Reader" "fault" "I") (List.mem_of_getElem? (i := 2) rfl)) (fun _ h9 => h9) rfl dX3_readUnit_41 ?_
        have ttl_0 := tl_0
        refine lv_if_ne (tgt := 55) hx hb dX3_readUnit_44 (by decide) (fun c181 => ?_) (fun c181 => ?_)
        · have kc181 := c_ne c181
          refine lv_aload_n hx hb dX3_readUnit_55 rfl (lv_at hl 2 rfl) ?_
          refine tVV (As := []) (rest := []) (i := 1) ⟨hx, hb, hml, hown, hts⟩ hK hE hP hD hS hA hAB (s_X3_refuse_0 l B0 adK adV D cy ad fr0 tx rby rnx f hT _) (cwV 0 hts gX3_readUnit_X3_refuse rfl rfl rfl (by decide +kernel) ⟨Nat.le_of_ble_eq_true rfl, Nat.le_of_ble_eq_true rfl⟩) (by decide) 3 e12 rfl rfl hl.1 rfl (Nat.le_of_ble_eq_true rfl) dX3_readUnit_56 ⟨Nat.le_of_ble_eq_true rfl, Nat.le_of_ble_eq_true rfl⟩ (fun f H locs hw hP hD hS => ?_)
          obtain ⟨hrs, hT⟩ := hw
          exact tV hx hb hr hlk hP hS ⟨trivial, ⟨rnx, hT⟩⟩ dX3_readUnit_59
        · have kc181 := c_eq c181
          refine lv_iload_n hx hb dX3_readUnit_47 rfl (lv_at hl 1 rfl) ?_
          refine lv_if_ne (tgt := 60) hx hb dX3_readUnit_48 (by decide) (fun c => absurd (by decide) c) (fun _ => ?_)
          refine lv_iload_n hx hb dX3_readUnit_51 rfl (lv_at hl 0 rfl) ?_
          refine lv_if_ne (tgt := 60) hx hb dX3_readUnit_52 (by decide) (fun c => absurd (by decide) c) (fun _ => ?_)
          refine lv_aload_n hx hb dX3_readUnit_55 rfl (lv_at hl 2 rfl) ?_
          refine tVV (As := []) (rest := []) (i := 1) ⟨hx, hb, hml, hown, hts⟩ hK hE hP hD hS hA hAB (s_X3_refuse_0 l B0 adK adV D cy ad fr0 tx rby rnx f hT _) (cwV 0 hts gX3_readUnit_X3_refuse rfl rfl rfl (by decide +kernel) ⟨Nat.le_of_ble_eq_true rfl, Nat.le_of_ble_eq_true rfl⟩) (by decide) 3 e12 rfl rfl hl.1 rfl (Nat.le_of_ble_eq_true rfl) dX3_readUnit_56 ⟨Nat.le_of_ble_eq_true rfl, Nat.le_of_ble_eq_true rfl⟩ (fun f H locs hw hP hD hS => ?_)
          obtain ⟨hrs, hT⟩ := hw
          exact tV hx hb hr hlk hP hS ⟨trivial, ⟨rnx, hT⟩⟩ dX3_readUnit_59
  · have kc13 := c_eq c13
    refine lv_iconst (v := 1) hx hb dX3_readUnit_9 (by decide) ?_
    refine lv_goto (tgt := 14) hx hb dX3_readUnit_10 (by decide) ?_
    refine lv_istore_n (lv' := [(2, .int 1), (0, .ref (ad 1)), (1, .int 3)]) hx hb dX3_readUnit_14 rfl hl (by decide) rfl (fun ls hl => ?_)
    refine lv_aload_n hx hb dX3_readUnit_15 rfl (lv_at hl 1 rfl) ?_
    refine va_get (D := D) (cl := vwCl) (ci := 3) (v := .int x9) (C := RX3) (T := TX3) (N := 13) hx hb hts in_X3_readUnit_X3 hown hK hP 1 (wl_at (by decide) e12) rfl 10 (by decide) (hts (.fieldLink RX3 67 "EightReasons$Reader" "kind" "I") (List.mem_of_getElem? (i := 1) rfl)) (fun _ h9 => h9) rfl dX3_readUnit_16 ?_
    refine lv_bipush (v := 15) hx hb dX3_readUnit_19 (by decide) ?_
    have ttl_15 := tl_15
    refine lv_icmp_eq (tgt := 34) hx hb dX3_readUnit_21 (by decide) (fun c182 => ?_) (fun c182 => ?_)
    · have kc182 := c_eq c182
      exact absurd kc182 (by omega)
    · have kc182 := c_ne c182
      refine lv_aload_n hx hb dX3_readUnit_24 rfl (lv_at hl 1 rfl) ?_
      refine va_get (D := D) (cl := vwCl) (ci := 3) (v := .int x9) (C := RX3) (T := TX3) (N := 13) hx hb hts in_X3_readUnit_X3 hown hK hP 1 (wl_at (by decide) e12) rfl 10 (by decide) (hts (.fieldLink RX3 67 "EightReasons$Reader" "kind" "I") (List.mem_of_getElem? (i := 1) rfl)) (fun _ h9 => h9) rfl dX3_readUnit_25 ?_
      refine tSI (As := [.int x9]) (rest := []) ⟨hx, hb, hml, hown, hts⟩ hK hE hP hD hS hA hAB (s_X1_isUnitWord_0 l B0 adK adV D cy ad f x9 _) (va_cwS 1 hts gX3_readUnit_X1_isUnitWord rfl rfl rfl (by decide +kernel) ⟨Nat.le_of_ble_eq_true rfl, Nat.le_of_ble_eq_true rfl⟩) rfl hl.1 rfl (Nat.le_of_ble_eq_true rfl) dX3_readUnit_28 ⟨Nat.le_of_ble_eq_true rfl, Nat.le_of_ble_eq_true rfl⟩ (fun r g H locs hw hP hD hS => ?_)
      obtain ⟨hrs, rfl⟩ := hw
      obtain ⟨x183, rfl⟩ : ∃ q, q = r := ⟨_, rfl⟩
      rcases hrs with ⟨rfl, h184, h185⟩ | rfl
      · exact False.elim (by omega)
      · refine lv_if_eq (tgt := 38) hx hb dX3_readUnit_31 (by decide) (fun _ => ?_) (fun c => absurd (by decide) c)
        refine lv_iconst (v := 0) hx hb dX3_readUnit_38 (by decide) ?_
        refine lv_istore_n (lv' := [(3, .int 0), (2, .int 1), (0, .ref (ad 1)), (1, .int 3)]) hx hb dX3_readUnit_39 rfl hl (by decide) rfl (fun ls hl => ?_)
        refine lv_aload_n hx hb dX3_readUnit_40 rfl (lv_at hl 2 rfl) ?_
        refine va_get (D := D) (cl := vwCl) (ci := 3) (v := .int x1) (C := RX3) (T := TX3) (N := 13) hx hb hts in_X3_readUnit_X3 hown hK hP 1 (wl_at (by decide) e12) rfl 0 (by decide) (hts (.fieldLink RX3 55 "EightReasons$Reader" "fault" "I") (List.mem_of_getElem? (i := 2) rfl)) (fun _ h9 => h9) rfl dX3_readUnit_41 ?_
        have ttl_0 := tl_0
        refine lv_if_ne (tgt := 55) hx hb dX3_readUnit_44 (by decide) (fun c186 => ?_) (fun c186 => ?_)
        · have kc186 := c_ne c186
          refine lv_aload_n hx hb dX3_readUnit_55 rfl (lv_at hl 2 rfl) ?_
          refine tVV (As := []) (rest := []) (i := 1) ⟨hx, hb, hml, hown, hts⟩ hK hE hP hD hS hA hAB (s_X3_refuse_0 l B0 adK adV D cy ad fr0 tx rby rnx f hT _) (cwV 0 hts gX3_readUnit_X3_refuse rfl rfl rfl (by decide +kernel) ⟨Nat.le_of_ble_eq_true rfl, Nat.le_of_ble_eq_true rfl⟩) (by decide) 3 e12 rfl rfl hl.1 rfl (Nat.le_of_ble_eq_true rfl) dX3_readUnit_56 ⟨Nat.le_of_ble_eq_true rfl, Nat.le_of_ble_eq_true rfl⟩ (fun f H locs hw hP hD hS => ?_)
          obtain ⟨hrs, hT⟩ := hw
          exact tV hx hb hr hlk hP hS ⟨trivial, ⟨rnx, hT⟩⟩ dX3_readUnit_59
        · have kc186 := c_eq c186
          refine lv_iload_n hx hb dX3_readUnit_47 rfl (lv_at hl 1 rfl) ?_
          refine lv_if_ne (tgt := 60) hx hb dX3_readUnit_48 (by decide) (fun _ => ?_) (fun c => absurd c (by decide))
          refine lv_aload_n hx hb dX3_readUnit_60 rfl (lv_at hl 2 rfl) ?_
          refine va_get (D := D) (cl := vwCl) (ci := 3) (v := .int x9) (C := RX3) (T := TX3) (N := 13) hx hb hts in_X3_readUnit_X3 hown hK hP 1 (wl_at (by decide) e12) rfl 10 (by decide) (hts (.fieldLink RX3 67 "EightReasons$Reader" "kind" "I") (List.mem_of_getElem? (i := 1) rfl)) (fun _ h9 => h9) rfl dX3_readUnit_61 ?_
          refine lv_bipush (v := 15) hx hb dX3_readUnit_64 (by decide) ?_
          refine lv_icmp_ne (tgt := 80) hx hb dX3_readUnit_66 (by decide) (fun c187 => ?_) (fun c187 => ?_)
          · have kc187 := c_ne c187
            refine lv_aload_n hx hb dX3_readUnit_80 rfl (lv_at hl 2 rfl) ?_
            refine va_get (D := D) (cl := vwCl) (ci := 3) (v := .int x9) (C := RX3) (T := TX3) (N := 13) hx hb hts in_X3_readUnit_X3 hown hK hP 1 (wl_at (by decide) e12) rfl 10 (by decide) (hts (.fieldLink RX3 67 "EightReasons$Reader" "kind" "I") (List.mem_of_getElem? (i := 1) rfl)) (fun _ h9 => h9) rfl dX3_readUnit_81 ?_
            refine lv_istore (lv' := [(4, .int x9), (3, .int 0), (2, .int 1), (0, .ref (ad 1)), (1, .int 3)]) hx hb dX3_readUnit_84 hl (by decide) rfl (fun ls hl => ?_)
            refine lv_iload_n hx hb dX3_readUnit_86 rfl (lv_at hl 2 rfl) ?_
            refine lv_if_eq (tgt := 100) hx hb dX3_readUnit_87 (by decide) (fun c => absurd c (by decide)) (fun _ => ?_)
            refine lv_iload_n hx hb dX3_readUnit_90 rfl (lv_at hl 4 rfl) ?_
            refine lv_bipush (v := 7) hx hb dX3_readUnit_91 (by decide) ?_
            refine lv_icmp_lt (tgt := 100) hx hb dX3_readUnit_93 (by decide) (fun _ => ?_) (fun c => absurd (by decide) c)
            refine lv_iconst (v := 0) hx hb dX3_readUnit_100 (by decide) ?_
            refine lv_istore (lv' := [(5, .int 0), (4, .int x9), (3, .int 0), (2, .int 1), (0, .ref (ad 1)), (1, .int 3)]) hx hb dX3_readUnit_101 hl (by decide) rfl (fun ls hl => ?_)
            refine lv_aload_n hx hb dX3_readUnit_103 rfl (lv_at hl 4 rfl) ?_
            refine lv_aload_n hx hb dX3_readUnit_104 rfl (lv_at hl 4 rfl) ?_
            refine va_get (D := D) (cl := vwCl) (ci := 3) (v := .ref (ad t4)) (C := RX3) (T := TX3) (N := 13) hx hb hts in_X3_readUnit_X3 hown hK hP 1 (wl_at (by decide) e12) rfl 4 (by decide) (hts (.fieldLink RX3 22 "EightReasons$Reader" "suit" "LEightReasons$Suit;") (List.mem_of_getElem? (i := 4) rfl)) (fun _ h9 => h9) rfl dX3_readUnit_105 ?_
            obtain ⟨x188, x190, x191, x193, x194, e195, h189, h192⟩ := (ty_suit hT h5)
            refine va_get (D := D) (cl := vwCl) (ci := 5) (v := .ref (ad (t4 + 7))) (C := RX5) (T := TX5) (N := 12) hx hb hts in_X3_readUnit_X5 hown hK hP t4 (wl_at (x_lt (x_suit0 h5)) e195) rfl 11 (by decide) (hts (.fieldLink RX3 191 "EightReasons$Suit" "formula" "LEightReasons$Formula;") (List.mem_of_getElem? (i := 5) rfl)) (fun _ h9 => h9) rfl dX3_readUnit_108 ?_
            obtain ⟨x196, x198, x199, e201, h197, h200⟩ := (ty_suit7 hT h5)
            refine va_get (D := D) (cl := vwCl) (ci := 1) (v := .int x198) (C := RX1) (T := TX1) (N := 6) hx hb hts in_X3_readUnit_X1 hown hK hP (t4 + 7) (wl_at (x_lt (x_suit h5 (by decide))) e201) rfl 2 (by decide) (hts (.fieldLink RX3 215 "EightReasons$Formula" "units" "I") (List.mem_of_getElem? (i := 6) rfl)) (fun _ h9 => h9) rfl dX3_readUnit_111 ?_
            refine lv_bipush (v := 30) hx hb dX3_readUnit_114 (by decide) ?_
            have ttl_30 := tl_30
            refine lv_icmp_ge (tgt := 128) hx hb dX3_readUnit_116 (by decide) (fun c202 => ?_) (fun c202 => ?_)
            · have kc202 := c_le c202
              refine lv_iconst (v := 0) hx hb dX3_readUnit_128 (by decide) ?_
              refine tVI (As := [.int 0]) (rest := []) (i := 1) ⟨hx, hb, hml, hown, hts⟩ hK hE hP hD hS hA hAB (s_X3_begin_0 l B0 adK adV D cy ad fr0 tx rby rnx f hT (0 : Int32) (by omega) _) (cwV 1 hts gX3_readUnit_X3_begin rfl rfl rfl (by decide +kernel) ⟨Nat.le_of_ble_eq_true rfl, Nat.le_of_ble_eq_true rfl⟩) (by decide) 3 e12 rfl rfl hl.1 rfl (Nat.le_of_ble_eq_true rfl) dX3_readUnit_129 ⟨Nat.le_of_ble_eq_true rfl, Nat.le_of_ble_eq_true rfl⟩ (fun r f H locs hw hP hD hS => ?_)
              obtain ⟨hrs, x203, hT⟩ := hw
              obtain ⟨x204, rfl⟩ : ∃ q, q = r := ⟨_, rfl⟩
              rcases hrs with ⟨rfl, h205⟩ | ⟨rfl, h206⟩
              · exact False.elim (by omega)
              · refine lv_if_ne (tgt := 136) hx hb dX3_readUnit_132 (by decide) (fun c => absurd (by decide) c) (fun _ => ?_)
                exact tV hx hb hr hlk hP hS ⟨trivial, ⟨x203, hT⟩⟩ dX3_readUnit_135
            · have kc202 := c_nle c202
              refine lv_iload hx hb dX3_readUnit_119 (lv_at hl 0 rfl) ?_
              refine lv_if_ne (tgt := 128) hx hb dX3_readUnit_121 (by decide) (fun c => absurd (by decide) c) (fun _ => ?_)
              refine lv_iconst (v := 1) hx hb dX3_readUnit_124 (by decide) ?_
              refine lv_goto (tgt := 129) hx hb dX3_readUnit_125 (by decide) ?_
              have ttl_1 := tl_1
              refine tVI (As := [.int 1]) (rest := []) (i := 1) ⟨hx, hb, hml, hown, hts⟩ hK hE hP hD hS hA hAB (s_X3_begin_0 l B0 adK adV D cy ad fr0 tx rby rnx f hT (1 : Int32) (by omega) _) (cwV 1 hts gX3_readUnit_X3_begin rfl rfl rfl (by decide +kernel) ⟨Nat.le_of_ble_eq_true rfl, Nat.le_of_ble_eq_true rfl⟩) (by decide) 3 e12 rfl rfl hl.1 rfl (Nat.le_of_ble_eq_true rfl) dX3_readUnit_129 ⟨Nat.le_of_ble_eq_true rfl, Nat.le_of_ble_eq_true rfl⟩ (fun r f H locs hw hP hD hS => ?_)
              obtain ⟨hrs, x207, hT⟩ := hw
              obtain ⟨x208, rfl⟩ : ∃ q, q = r := ⟨_, rfl⟩
              rcases hrs with ⟨rfl, h209⟩ | ⟨rfl, h210⟩
              · refine lv_if_ne (tgt := 136) hx hb dX3_readUnit_132 (by decide) (fun _ => ?_) (fun c => absurd c (by decide))
                refine lv_aload_n hx hb dX3_readUnit_136 rfl (lv_at hl 4 rfl) ?_
                obtain ⟨x211, x212, t214, x216, x218, x219, x220, y221, e222, h213, h215, h217⟩ := (show okX3 ad rby x207 1 (f 1) from hT.1 1 (by decide))
                refine va_get (D := D) (cl := vwCl) (ci := 3) (v := .ref (ad t214)) (C := RX3) (T := TX3) (N := 13) hx hb hts in_X3_readUnit_X3 hown hK hP 1 (wl_at (by decide) e222) rfl 4 (by decide) (hts (.fieldLink RX3 22 "EightReasons$Reader" "suit" "LEightReasons$Suit;") (List.mem_of_getElem? (i := 4) rfl)) (fun _ h9 => h9) rfl dX3_readUnit_137 ?_
                obtain ⟨x223, x225, x226, x228, x229, e230, h224, h227⟩ := (ty_suit hT h215)
                refine va_get (D := D) (cl := vwCl) (ci := 5) (v := .ref (ad (t214 + 7))) (C := RX5) (T := TX5) (N := 12) hx hb hts in_X3_readUnit_X5 hown hK hP t214 (wl_at (x_lt (x_suit0 h215)) e230) rfl 11 (by decide) (hts (.fieldLink RX3 191 "EightReasons$Suit" "formula" "LEightReasons$Formula;") (List.mem_of_getElem? (i := 5) rfl)) (fun _ h9 => h9) rfl dX3_readUnit_140 ?_
                refine lv_dup hx hb dX3_readUnit_143 rfl ?_
                obtain ⟨x231, x233, x234, e236, h232, h235⟩ := (ty_suit7 hT h215)
                refine va_get (D := D) (cl := vwCl) (ci := 1) (v := .int x233) (C := RX1) (T := TX1) (N := 6) hx hb hts in_X3_readUnit_X1 hown hK hP (t214 + 7) (wl_at (x_lt (x_suit h215 (by decide))) e236) rfl 2 (by decide) (hts (.fieldLink RX3 215 "EightReasons$Formula" "units" "I") (List.mem_of_getElem? (i := 6) rfl)) (fun _ h9 => h9) rfl dX3_readUnit_144 ?_
                refine lv_iconst (v := 1) hx hb dX3_readUnit_147 (by decide) ?_
                refine lv_iadd hx hb dX3_readUnit_148 ?_
                refine lv_topi (fun x237 ex237 => ?_)
                refine va_put (D := D) (cl := vwCl) (ci := 1) (v := .int x237) (ty := tyX1 2) (C := RX1) (T := TX1) (N := 6) hx hb hts in_X3_readUnit_X1 tyX1 tyX1_ok nmX1 hown hK hP hD hS (t214 + 7) (wl_at (x_lt (x_suit h215 (by decide))) e236) rfl 2 (by decide) (hts (.fieldLink RX3 215 "EightReasons$Formula" "units" "I") (List.mem_of_getElem? (i := 6) rfl)) (fun _ h9 => h9) rfl (tyX1_ok 2 (by decide)) rfl rfl (Nat.le_of_ble_eq_true rfl) dX3_readUnit_149 (fun H locs hP hD hS => ?_)
                obtain ⟨f, hT, hP, hD, e238, hj239⟩ := stU (x_lt (x_suit h215 (by decide))) (TYx.up hT (x_suit h215 (by decide)) (ok_suit7 h215 ⟨x231, x237, x234, rfl, by omega, by omega⟩)) hP hD
                have e240 := (hj239 t214 (by omega)).trans e230
                refine lv_iload_n hx hb dX3_readUnit_152 rfl (lv_at hl 3 rfl) ?_
                refine lv_if_eq (tgt := 172) hx hb dX3_readUnit_153 (by decide) (fun c => absurd c (by decide)) (fun _ => ?_)
                refine lv_aload_n hx hb dX3_readUnit_156 rfl (lv_at hl 4 rfl) ?_
                refine lv_iload_n hx hb dX3_readUnit_157 rfl (lv_at hl 5 rfl) ?_
                refine lv_iconst (v := 1) hx hb dX3_readUnit_158 (by decide) ?_
                refine lv_iadd hx hb dX3_readUnit_159 (tpi (v := 4) (by decide) ?_)
                have ttl_4 := tl_4
                obtain ⟨x241, x242, t244, x246, x248, x249, x250, y251, e252, h243, h245, h247⟩ := (show okX3 ad rby x207 1 (f 1) from hT.1 1 (by decide))
                refine tVV (As := [.int 4]) (rest := []) (i := 1) ⟨hx, hb, hml, hown, hts⟩ hK hE hP hD hS hA hAB (s_X3_readEither_3 l B0 adK adV D cy ad fr0 tx rby x207 f hT _) (cwV 1 hts gX3_readUnit_X3_readEither rfl rfl rfl (by decide +kernel) ⟨Nat.le_of_ble_eq_true rfl, Nat.le_of_ble_eq_true rfl⟩) (by decide) 3 e252 rfl rfl hl.1 rfl (Nat.le_of_ble_eq_true rfl) dX3_readUnit_160 ⟨Nat.le_of_ble_eq_true rfl, Nat.le_of_ble_eq_true rfl⟩ (fun f H locs hw hP hD hS => ?_)
                obtain ⟨hrs, x253, hT⟩ := hw
                refine lv_aload_n hx hb dX3_readUnit_163 rfl (lv_at hl 4 rfl) ?_
                refine lv_bipush (v := 41) hx hb dX3_readUnit_164 (by decide) ?_
                have ttl_41 := tl_41
                obtain ⟨x254, x255, t257, x259, x261, x262, x263, y264, e265, h256, h258, h260⟩ := (show okX3 ad rby x253 1 (f 1) from hT.1 1 (by decide))
                refine tVV (As := [.int 41]) (rest := []) (i := 1) ⟨hx, hb, hml, hown, hts⟩ hK hE hP hD hS hA hAB (s_X3_expect_0 l B0 adK adV D cy ad fr0 tx rby x253 f hT (41 : Int32) (by omega) _) (cwV 1 hts gX3_readUnit_X3_expect rfl rfl rfl (by decide +kernel) ⟨Nat.le_of_ble_eq_true rfl, Nat.le_of_ble_eq_true rfl⟩) (by decide) 3 e265 rfl rfl hl.1 rfl (Nat.le_of_ble_eq_true rfl) dX3_readUnit_166 ⟨Nat.le_of_ble_eq_true rfl, Nat.le_of_ble_eq_true rfl⟩ (fun f H locs hw hP hD hS => ?_)
                obtain ⟨hrs, x266, hT⟩ := hw
                refine lv_goto (tgt := 184) hx hb dX3_readUnit_169 (by decide) ?_
                exact tV hx hb hr hlk hP hS ⟨trivial, ⟨x266, hT⟩⟩ dX3_readUnit_184
              · exact False.elim (by omega)
          · have kc187 := c_eq c187
            exact absurd kc187 (by omega)
set_option maxHeartbeats 4000000 in
set_option maxRecDepth 100000 in
theorem s_X3_readTerm_4 (l : Launch) (B0 : Nat) (adK adV : Nat → Nat) (D : va_G) (cy : Nat → ClassId) (ad : Nat → Nat) (fr0 : Nat → va_E) (tx : Int32) (rby : Int32) (rnx : Int32) (f : Nat → va_E) (hT : TYx ad cy fr0 tx rby rnx f) (sz : Nat) : TtV l yX3_readTerm wsX3_readTerm 31 721 [.ref (ad 1), .int 3] B0 adK adV D cy ad f sz (fun (g : Nat → va_E) => True ∧ (∃ (rnx' : Int32), TYx ad cy fr0 tx rby rnx' g)) := by
  refine TtV.of (cc := cX3_readTerm) (maxL := 4) (own := RX3) (by decide) rfl (Nat.le_of_ble_eq_true rfl) rfl ?_
  intro p e s m below meth c A ls hx hb hr hml hts hown hlk hK hE hP hD hS hA hAB hl
  have hl : lv_has ls 4 [(0, .ref (ad 1)), (1, .int 3)] := hl
  refine st0 (fun H locs hP hS => ?_) hP hS
  have j7 : ∀ (N : Nat) (f : Nat → va_E) (H : Heap) (locs : List Loc) (ls : Array Slot) (v7_l2 : Int32) (v7_p_rnx : Int32), (1601 - v7_l2.toInt ≤ (N : Int)) → (0 ≤ v7_l2.toInt ∧ v7_l2.toInt ≤ 1600) → (TYx ad cy fr0 tx rby v7_p_rnx f) → (va_P D vwCl (wl ad f) H) → (va_D A (wl ad f)) → (va_S A s.heap H locs) → (lv_has ls 4 [(2, .int v7_l2), (0, .ref (ad 1)), (1, .int 3)]) → W p l e (rmO 31 721 0 0) s m ([.ref (ad 1), .int 3] : List Value).toArray below meth c H locs 0 0 (MQ below (va_Qv (fun (g : Nat → va_E) => True ∧ (∃ (rnx' : Int32), TYx ad cy fr0 tx rby rnx' g)) (fun g t => PstT D ad g t) A) ([.ref (ad 1), .int 3] : List Value).toArray s 0 0 A) (F0 m 7 ls []) := by
    intro N
    induction N with
    | zero => intro f H locs ls v7_l2 v7_p_rnx hN hv7_l2 hT hP hD hS hl; exact absurd hN (by omega)
    | succ N ih7 =>
      intro f H locs ls v7_l2 v7_p_rnx hN hv7_l2 hT hP hD hS hl
      have j48 : ∀ (f : Nat → va_E) (H : Heap) (locs : List Loc) (ls : Array Slot), (0 ≤ v7_l2.toInt ∧ v7_l2.toInt ≤ 1599) → (TYx ad cy fr0 tx rby v7_p_rnx f) → (va_P D vwCl (wl ad f) H) → (va_D A (wl ad f)) → (va_S A s.heap H locs) → (lv_has ls 4 [(2, .int v7_l2), (0, .ref (ad 1)), (1, .int 3)]) → W p l e (rmO 31 721 0 0) s m ([.ref (ad 1), .int 3] : List Value).toArray below meth c H locs 0 0 (MQ below (va_Qv (fun (g : Nat → va_E) => True ∧ (∃ (rnx' : Int32), TYx ad cy fr0 tx rby rnx' g)) (fun g t => PstT D ad g t) A) ([.ref (ad 1), .int 3] : List Value).toArray s 0 0 A) (F0 m 48 ls []) := by
        intro f H locs ls hv48_l2 hT hP hD hS hl
        refine lv_aload_n hx hb dX3_readTerm_48 rfl (lv_at hl 1 rfl) ?_
        obtain ⟨x1, x2, t4, x6, x8, x9, x10, y11, e12, h3, h5, h7⟩ := (show okX3 ad rby v7_p_rnx 1 (f 1) from hT.1 1 (by decide))
        refine va_get (D := D) (cl := vwCl) (ci := 3) (v := .int x9) (C := RX3) (T := TX3) (N := 13) hx hb hts in_X3_readTerm_X3 hown hK hP 1 (wl_at (by decide) e12) rfl 10 (by decide) (hts (.fieldLink RX3 67 "EightReasons$Reader" "kind" "I") (List.mem_of_getElem? (i := 2) rfl)) (fun _ h9 => h9) rfl dX3_readTerm_49 ?_
        refine lv_istore_n (lv' := [(3, .int x9), (2, .int v7_l2), (0, .ref (ad 1)), (1, .int 3)]) hx hb dX3_readTerm_52 rfl hl (by decide) rfl (fun ls hl => ?_)
        refine lv_aload_n hx hb dX3_readTerm_53 rfl (lv_at hl 2 rfl) ?_
        refine tVV (As := []) (rest := []) (i := 1) ⟨hx, hb, hml, hown, hts⟩ hK hE hP hD hS hA hAB (s_X3_advance_0 l B0 adK adV D cy ad fr0 tx rby v7_p_rnx f hT _) (cwV 0 hts gX3_readTerm_X3_advance rfl rfl rfl (by decide +kernel) ⟨Nat.le_of_ble_eq_true rfl, Nat.le_of_ble_eq_true rfl⟩) (by decide) 3 e12 rfl rfl hl.1 rfl (Nat.le_of_ble_eq_true rfl) dX3_readTerm_54 ⟨Nat.le_of_ble_eq_true rfl, Nat.le_of_ble_eq_true rfl⟩ (fun f H locs hw hP hD hS => ?_)
        obtain ⟨hrs, x13, hT⟩ := hw
        refine lv_aload_n hx hb dX3_readTerm_57 rfl (lv_at hl 2 rfl) ?_
        refine lv_iload_n hx hb dX3_readTerm_58 rfl (lv_at hl 3 rfl) ?_
        have ttl_3 := tl_3
        obtain ⟨x14, x15, t17, x19, x21, x22, x23, y24, e25, h16, h18, h20⟩ := (show okX3 ad rby x13 1 (f 1) from hT.1 1 (by decide))
        refine tVV (As := [.int 3]) (rest := []) (i := 1) ⟨hx, hb, hml, hown, hts⟩ hK hE hP hD hS hA hAB (s_X3_readUnit_4 l B0 adK adV D cy ad fr0 tx rby x13 f hT _) (cwV 1 hts gX3_readTerm_X3_readUnit rfl rfl rfl (by decide +kernel) ⟨Nat.le_of_ble_eq_true rfl, Nat.le_of_ble_eq_true rfl⟩) (by decide) 3 e25 rfl rfl hl.1 rfl (Nat.le_of_ble_eq_true rfl) dX3_readTerm_59 ⟨Nat.le_of_ble_eq_true rfl, Nat.le_of_ble_eq_true rfl⟩ (fun f H locs hw hP hD hS => ?_)
        obtain ⟨hrs, x26, hT⟩ := hw
        refine lv_aload_n hx hb dX3_readTerm_62 rfl (lv_at hl 2 rfl) ?_
        obtain ⟨x27, x28, t30, x32, x34, x35, x36, y37, e38, h29, h31, h33⟩ := (show okX3 ad rby x26 1 (f 1) from hT.1 1 (by decide))
        refine va_get (D := D) (cl := vwCl) (ci := 3) (v := .ref (ad t30)) (C := RX3) (T := TX3) (N := 13) hx hb hts in_X3_readTerm_X3 hown hK hP 1 (wl_at (by decide) e38) rfl 4 (by decide) (hts (.fieldLink RX3 22 "EightReasons$Reader" "suit" "LEightReasons$Suit;") (List.mem_of_getElem? (i := 3) rfl)) (fun _ h9 => h9) rfl dX3_readTerm_63 ?_
        obtain ⟨x39, x41, x42, x44, x45, e46, h40, h43⟩ := (ty_suit hT h31)
        refine va_get (D := D) (cl := vwCl) (ci := 5) (v := .ref (ad (t30 + 7))) (C := RX5) (T := TX5) (N := 12) hx hb hts in_X3_readTerm_X5 hown hK hP t30 (wl_at (x_lt (x_suit0 h31)) e46) rfl 11 (by decide) (hts (.fieldLink RX3 191 "EightReasons$Suit" "formula" "LEightReasons$Formula;") (List.mem_of_getElem? (i := 4) rfl)) (fun _ h9 => h9) rfl dX3_readTerm_66 ?_
        refine lv_iload_n hx hb dX3_readTerm_69 rfl (lv_at hl 0 rfl) ?_
        obtain ⟨x47, x49, x50, e52, h48, h51⟩ := (ty_suit7 hT h31)
        refine tVV (As := [.int x9]) (rest := []) (i := (t30 + 7)) ⟨hx, hb, hml, hown, hts⟩ hK hE hP hD hS hA hAB (s_X1_add_0 l B0 adK adV D cy ad fr0 tx rby x26 f hT t30 h31 x9 _) (cwV 1 hts gX3_readTerm_X1_add rfl rfl rfl (by decide +kernel) ⟨Nat.le_of_ble_eq_true rfl, Nat.le_of_ble_eq_true rfl⟩) (x_lt (x_suit h31 (by decide))) 1 e52 rfl rfl hl.1 rfl (Nat.le_of_ble_eq_true rfl) dX3_readTerm_70 ⟨Nat.le_of_ble_eq_true rfl, Nat.le_of_ble_eq_true rfl⟩ (fun f H locs hw hP hD hS => ?_)
        obtain ⟨hrs, hT⟩ := hw
        obtain ⟨x53, ex53⟩ : ∃ q : Int32, q = v7_l2 + Int32.ofInt (1) := ⟨_, rfl⟩
        refine lv_iinc (v := x53) (lv' := [(2, .int x53), (3, .int x9), (0, .ref (ad 1)), (1, .int 3)]) hx hb dX3_readTerm_73 hl (k := 1) rfl ex53.symm (by decide) rfl (fun ls hl => ?_)
        have hx53 := r_inc ex53 (by decide) (by omega) (by omega)
        refine lv_goto (tgt := 7) hx hb dX3_readTerm_76 (by decide) ?_
        exact ih7 f H locs ls x53 x26 (by omega) (by omega) hT hP hD hS (lv_sub hl [0, 2, 3] rfl)
      refine lv_iload_n hx hb dX3_readTerm_7 rfl (lv_at hl 0 rfl) ?_
      refine lv_sipush (v := 1600) hx hb dX3_readTerm_8 (by decide) ?_
      have ttl_1600 := tl_1600
      refine lv_icmp_ge (tgt := 79) hx hb dX3_readTerm_11 (by decide) (fun c54 => ?_) (fun c54 => ?_)
      · have kc54 := c_le c54
        exact tV hx hb hr hlk hP hS ⟨trivial, ⟨v7_p_rnx, hT⟩⟩ dX3_readTerm_79
      · have kc54 := c_nle c54
        refine lv_aload_n hx hb dX3_readTerm_14 rfl (lv_at hl 1 rfl) ?_
        obtain ⟨x55, x56, t58, x60, x62, x63, x64, y65, e66, h57, h59, h61⟩ := (show okX3 ad rby v7_p_rnx 1 (f 1) from hT.1 1 (by decide))
        refine va_get (D := D) (cl := vwCl) (ci := 3) (v := .int x55) (C := RX3) (T := TX3) (N := 13) hx hb hts in_X3_readTerm_X3 hown hK hP 1 (wl_at (by decide) e66) rfl 0 (by decide) (hts (.fieldLink RX3 55 "EightReasons$Reader" "fault" "I") (List.mem_of_getElem? (i := 1) rfl)) (fun _ h9 => h9) rfl dX3_readTerm_15 ?_
        have ttl_0 := tl_0
        refine lv_if_ne (tgt := 79) hx hb dX3_readTerm_18 (by decide) (fun c67 => ?_) (fun c67 => ?_)
        · have kc67 := c_ne c67
          exact tV hx hb hr hlk hP hS ⟨trivial, ⟨v7_p_rnx, hT⟩⟩ dX3_readTerm_79
        · have kc67 := c_eq c67
          refine lv_aload_n hx hb dX3_readTerm_21 rfl (lv_at hl 1 rfl) ?_
          refine va_get (D := D) (cl := vwCl) (ci := 3) (v := .int x63) (C := RX3) (T := TX3) (N := 13) hx hb hts in_X3_readTerm_X3 hown hK hP 1 (wl_at (by decide) e66) rfl 10 (by decide) (hts (.fieldLink RX3 67 "EightReasons$Reader" "kind" "I") (List.mem_of_getElem? (i := 2) rfl)) (fun _ h9 => h9) rfl dX3_readTerm_22 ?_
          refine lv_bipush (v := 42) hx hb dX3_readTerm_25 (by decide) ?_
          have ttl_42 := tl_42
          refine lv_icmp_eq (tgt := 48) hx hb dX3_readTerm_27 (by decide) (fun c68 => ?_) (fun c68 => ?_)
          · have kc68 := c_eq c68
            have ttl_3 := tl_3
            exact j48 f H locs ls (by omega) hT hP hD hS (lv_sub hl [0, 1, 2] rfl)
          · have kc68 := c_ne c68
            refine lv_aload_n hx hb dX3_readTerm_30 rfl (lv_at hl 1 rfl) ?_
            refine va_get (D := D) (cl := vwCl) (ci := 3) (v := .int x63) (C := RX3) (T := TX3) (N := 13) hx hb hts in_X3_readTerm_X3 hown hK hP 1 (wl_at (by decide) e66) rfl 10 (by decide) (hts (.fieldLink RX3 67 "EightReasons$Reader" "kind" "I") (List.mem_of_getElem? (i := 2) rfl)) (fun _ h9 => h9) rfl dX3_readTerm_31 ?_
            refine lv_bipush (v := 47) hx hb dX3_readTerm_34 (by decide) ?_
            have ttl_47 := tl_47
            refine lv_icmp_eq (tgt := 48) hx hb dX3_readTerm_36 (by decide) (fun c69 => ?_) (fun c69 => ?_)
            · have kc69 := c_eq c69
              have ttl_3 := tl_3
              exact j48 f H locs ls (by omega) hT hP hD hS (lv_sub hl [0, 1, 2] rfl)
            · have kc69 := c_ne c69
              refine lv_aload_n hx hb dX3_readTerm_39 rfl (lv_at hl 1 rfl) ?_
              refine va_get (D := D) (cl := vwCl) (ci := 3) (v := .int x63) (C := RX3) (T := TX3) (N := 13) hx hb hts in_X3_readTerm_X3 hown hK hP 1 (wl_at (by decide) e66) rfl 10 (by decide) (hts (.fieldLink RX3 67 "EightReasons$Reader" "kind" "I") (List.mem_of_getElem? (i := 2) rfl)) (fun _ h9 => h9) rfl dX3_readTerm_40 ?_
              refine lv_bipush (v := 37) hx hb dX3_readTerm_43 (by decide) ?_
              have ttl_37 := tl_37
              refine lv_icmp_ne (tgt := 79) hx hb dX3_readTerm_45 (by decide) (fun c70 => ?_) (fun c70 => ?_)
              · have kc70 := c_ne c70
                exact tV hx hb hr hlk hP hS ⟨trivial, ⟨v7_p_rnx, hT⟩⟩ dX3_readTerm_79
              · have kc70 := c_eq c70
                have ttl_3 := tl_3
                exact j48 f H locs ls (by omega) hT hP hD hS (lv_sub hl [0, 1, 2] rfl)
  refine lv_aload_n hx hb dX3_readTerm_0 rfl (lv_at hl 0 rfl) ?_
  refine lv_iload_n hx hb dX3_readTerm_1 rfl (lv_at hl 1 rfl) ?_
  have ttl_3 := tl_3
  obtain ⟨x71, x72, t74, x76, x78, x79, x80, y81, e82, h73, h75, h77⟩ := (show okX3 ad rby rnx 1 (f 1) from hT.1 1 (by decide))
  refine tVV (As := [.int 3]) (rest := []) (i := 1) ⟨hx, hb, hml, hown, hts⟩ hK hE hP hD hS hA hAB (s_X3_readUnit_4 l B0 adK adV D cy ad fr0 tx rby rnx f hT _) (cwV 1 hts gX3_readTerm_X3_readUnit rfl rfl rfl (by decide +kernel) ⟨Nat.le_of_ble_eq_true rfl, Nat.le_of_ble_eq_true rfl⟩) (by decide) 3 e82 rfl rfl hl.1 rfl (Nat.le_of_ble_eq_true rfl) dX3_readTerm_2 ⟨Nat.le_of_ble_eq_true rfl, Nat.le_of_ble_eq_true rfl⟩ (fun f H locs hw hP hD hS => ?_)
  obtain ⟨hrs, x83, hT⟩ := hw
  refine lv_iconst (v := 0) hx hb dX3_readTerm_5 (by decide) ?_
  refine lv_istore_n (lv' := [(2, .int 0), (0, .ref (ad 1)), (1, .int 3)]) hx hb dX3_readTerm_6 rfl hl (by decide) rfl (fun ls hl => ?_)
  have ttl_0 := tl_0
  exact j7 (Int.toNat (1601 - (0 : Int32).toInt)) f H locs ls (0 : Int32) x83 (by omega) (by omega) hT hP hD hS (lv_sub hl [0, 1, 2] rfl)
set_option maxHeartbeats 4000000 in
set_option maxRecDepth 100000 in
theorem s_X3_readSum_4 (l : Launch) (B0 : Nat) (adK adV : Nat → Nat) (D : va_G) (cy : Nat → ClassId) (ad : Nat → Nat) (fr0 : Nat → va_E) (tx : Int32) (rby : Int32) (rnx : Int32) (f : Nat → va_E) (hT : TYx ad cy fr0 tx rby rnx f) (sz : Nat) : TtV l yX3_readSum wsX3_readSum 32 744 [.ref (ad 1), .int 3] B0 adK adV D cy ad f sz (fun (g : Nat → va_E) => True ∧ (∃ (rnx' : Int32), TYx ad cy fr0 tx rby rnx' g)) := by
  refine TtV.of (cc := cX3_readSum) (maxL := 4) (own := RX3) (by decide) rfl (Nat.le_of_ble_eq_true rfl) rfl ?_
  intro p e s m below meth c A ls hx hb hr hml hts hown hlk hK hE hP hD hS hA hAB hl
  have hl : lv_has ls 4 [(0, .ref (ad 1)), (1, .int 3)] := hl
  refine st0 (fun H locs hP hS => ?_) hP hS
  have j7 : ∀ (N : Nat) (f : Nat → va_E) (H : Heap) (locs : List Loc) (ls : Array Slot) (v7_l2 : Int32) (v7_p_rnx : Int32), (1601 - v7_l2.toInt ≤ (N : Int)) → (0 ≤ v7_l2.toInt ∧ v7_l2.toInt ≤ 1600) → (TYx ad cy fr0 tx rby v7_p_rnx f) → (va_P D vwCl (wl ad f) H) → (va_D A (wl ad f)) → (va_S A s.heap H locs) → (lv_has ls 4 [(2, .int v7_l2), (0, .ref (ad 1)), (1, .int 3)]) → W p l e (rmO 32 744 0 0) s m ([.ref (ad 1), .int 3] : List Value).toArray below meth c H locs 0 0 (MQ below (va_Qv (fun (g : Nat → va_E) => True ∧ (∃ (rnx' : Int32), TYx ad cy fr0 tx rby rnx' g)) (fun g t => PstT D ad g t) A) ([.ref (ad 1), .int 3] : List Value).toArray s 0 0 A) (F0 m 7 ls []) := by
    intro N
    induction N with
    | zero => intro f H locs ls v7_l2 v7_p_rnx hN hv7_l2 hT hP hD hS hl; exact absurd hN (by omega)
    | succ N ih7 =>
      intro f H locs ls v7_l2 v7_p_rnx hN hv7_l2 hT hP hD hS hl
      have j39 : ∀ (f : Nat → va_E) (H : Heap) (locs : List Loc) (ls : Array Slot), (0 ≤ v7_l2.toInt ∧ v7_l2.toInt ≤ 1599) → (TYx ad cy fr0 tx rby v7_p_rnx f) → (va_P D vwCl (wl ad f) H) → (va_D A (wl ad f)) → (va_S A s.heap H locs) → (lv_has ls 4 [(2, .int v7_l2), (0, .ref (ad 1)), (1, .int 3)]) → W p l e (rmO 32 744 0 0) s m ([.ref (ad 1), .int 3] : List Value).toArray below meth c H locs 0 0 (MQ below (va_Qv (fun (g : Nat → va_E) => True ∧ (∃ (rnx' : Int32), TYx ad cy fr0 tx rby rnx' g)) (fun g t => PstT D ad g t) A) ([.ref (ad 1), .int 3] : List Value).toArray s 0 0 A) (F0 m 39 ls []) := by
        intro f H locs ls hv39_l2 hT hP hD hS hl
        refine lv_aload_n hx hb dX3_readSum_39 rfl (lv_at hl 1 rfl) ?_
        obtain ⟨x1, x2, t4, x6, x8, x9, x10, y11, e12, h3, h5, h7⟩ := (show okX3 ad rby v7_p_rnx 1 (f 1) from hT.1 1 (by decide))
        refine va_get (D := D) (cl := vwCl) (ci := 3) (v := .int x9) (C := RX3) (T := TX3) (N := 13) hx hb hts in_X3_readSum_X3 hown hK hP 1 (wl_at (by decide) e12) rfl 10 (by decide) (hts (.fieldLink RX3 67 "EightReasons$Reader" "kind" "I") (List.mem_of_getElem? (i := 2) rfl)) (fun _ h9 => h9) rfl dX3_readSum_40 ?_
        refine lv_istore_n (lv' := [(3, .int x9), (2, .int v7_l2), (0, .ref (ad 1)), (1, .int 3)]) hx hb dX3_readSum_43 rfl hl (by decide) rfl (fun ls hl => ?_)
        refine lv_aload_n hx hb dX3_readSum_44 rfl (lv_at hl 2 rfl) ?_
        refine tVV (As := []) (rest := []) (i := 1) ⟨hx, hb, hml, hown, hts⟩ hK hE hP hD hS hA hAB (s_X3_advance_0 l B0 adK adV D cy ad fr0 tx rby v7_p_rnx f hT _) (cwV 0 hts gX3_readSum_X3_advance rfl rfl rfl (by decide +kernel) ⟨Nat.le_of_ble_eq_true rfl, Nat.le_of_ble_eq_true rfl⟩) (by decide) 3 e12 rfl rfl hl.1 rfl (Nat.le_of_ble_eq_true rfl) dX3_readSum_45 ⟨Nat.le_of_ble_eq_true rfl, Nat.le_of_ble_eq_true rfl⟩ (fun f H locs hw hP hD hS => ?_)
        obtain ⟨hrs, x13, hT⟩ := hw
        refine lv_aload_n hx hb dX3_readSum_48 rfl (lv_at hl 2 rfl) ?_
        refine lv_iload_n hx hb dX3_readSum_49 rfl (lv_at hl 3 rfl) ?_
        have ttl_3 := tl_3
        obtain ⟨x14, x15, t17, x19, x21, x22, x23, y24, e25, h16, h18, h20⟩ := (show okX3 ad rby x13 1 (f 1) from hT.1 1 (by decide))
        refine tVV (As := [.int 3]) (rest := []) (i := 1) ⟨hx, hb, hml, hown, hts⟩ hK hE hP hD hS hA hAB (s_X3_readTerm_4 l B0 adK adV D cy ad fr0 tx rby x13 f hT _) (cwV 1 hts gX3_readSum_X3_readTerm rfl rfl rfl (by decide +kernel) ⟨Nat.le_of_ble_eq_true rfl, Nat.le_of_ble_eq_true rfl⟩) (by decide) 3 e25 rfl rfl hl.1 rfl (Nat.le_of_ble_eq_true rfl) dX3_readSum_50 ⟨Nat.le_of_ble_eq_true rfl, Nat.le_of_ble_eq_true rfl⟩ (fun f H locs hw hP hD hS => ?_)
        obtain ⟨hrs, x26, hT⟩ := hw
        refine lv_aload_n hx hb dX3_readSum_53 rfl (lv_at hl 2 rfl) ?_
        obtain ⟨x27, x28, t30, x32, x34, x35, x36, y37, e38, h29, h31, h33⟩ := (show okX3 ad rby x26 1 (f 1) from hT.1 1 (by decide))
        refine va_get (D := D) (cl := vwCl) (ci := 3) (v := .ref (ad t30)) (C := RX3) (T := TX3) (N := 13) hx hb hts in_X3_readSum_X3 hown hK hP 1 (wl_at (by decide) e38) rfl 4 (by decide) (hts (.fieldLink RX3 22 "EightReasons$Reader" "suit" "LEightReasons$Suit;") (List.mem_of_getElem? (i := 3) rfl)) (fun _ h9 => h9) rfl dX3_readSum_54 ?_
        obtain ⟨x39, x41, x42, x44, x45, e46, h40, h43⟩ := (ty_suit hT h31)
        refine va_get (D := D) (cl := vwCl) (ci := 5) (v := .ref (ad (t30 + 7))) (C := RX5) (T := TX5) (N := 12) hx hb hts in_X3_readSum_X5 hown hK hP t30 (wl_at (x_lt (x_suit0 h31)) e46) rfl 11 (by decide) (hts (.fieldLink RX3 191 "EightReasons$Suit" "formula" "LEightReasons$Formula;") (List.mem_of_getElem? (i := 4) rfl)) (fun _ h9 => h9) rfl dX3_readSum_57 ?_
        refine lv_iload_n hx hb dX3_readSum_60 rfl (lv_at hl 0 rfl) ?_
        obtain ⟨x47, x49, x50, e52, h48, h51⟩ := (ty_suit7 hT h31)
        refine tVV (As := [.int x9]) (rest := []) (i := (t30 + 7)) ⟨hx, hb, hml, hown, hts⟩ hK hE hP hD hS hA hAB (s_X1_add_0 l B0 adK adV D cy ad fr0 tx rby x26 f hT t30 h31 x9 _) (cwV 1 hts gX3_readSum_X1_add rfl rfl rfl (by decide +kernel) ⟨Nat.le_of_ble_eq_true rfl, Nat.le_of_ble_eq_true rfl⟩) (x_lt (x_suit h31 (by decide))) 1 e52 rfl rfl hl.1 rfl (Nat.le_of_ble_eq_true rfl) dX3_readSum_61 ⟨Nat.le_of_ble_eq_true rfl, Nat.le_of_ble_eq_true rfl⟩ (fun f H locs hw hP hD hS => ?_)
        obtain ⟨hrs, hT⟩ := hw
        obtain ⟨x53, ex53⟩ : ∃ q : Int32, q = v7_l2 + Int32.ofInt (1) := ⟨_, rfl⟩
        refine lv_iinc (v := x53) (lv' := [(2, .int x53), (3, .int x9), (0, .ref (ad 1)), (1, .int 3)]) hx hb dX3_readSum_64 hl (k := 1) rfl ex53.symm (by decide) rfl (fun ls hl => ?_)
        have hx53 := r_inc ex53 (by decide) (by omega) (by omega)
        refine lv_goto (tgt := 7) hx hb dX3_readSum_67 (by decide) ?_
        exact ih7 f H locs ls x53 x26 (by omega) (by omega) hT hP hD hS (lv_sub hl [0, 2, 3] rfl)
      refine lv_iload_n hx hb dX3_readSum_7 rfl (lv_at hl 0 rfl) ?_
      refine lv_sipush (v := 1600) hx hb dX3_readSum_8 (by decide) ?_
      have ttl_1600 := tl_1600
      refine lv_icmp_ge (tgt := 70) hx hb dX3_readSum_11 (by decide) (fun c54 => ?_) (fun c54 => ?_)
      · have kc54 := c_le c54
        exact tV hx hb hr hlk hP hS ⟨trivial, ⟨v7_p_rnx, hT⟩⟩ dX3_readSum_70
      · have kc54 := c_nle c54
        refine lv_aload_n hx hb dX3_readSum_14 rfl (lv_at hl 1 rfl) ?_
        obtain ⟨x55, x56, t58, x60, x62, x63, x64, y65, e66, h57, h59, h61⟩ := (show okX3 ad rby v7_p_rnx 1 (f 1) from hT.1 1 (by decide))
        refine va_get (D := D) (cl := vwCl) (ci := 3) (v := .int x55) (C := RX3) (T := TX3) (N := 13) hx hb hts in_X3_readSum_X3 hown hK hP 1 (wl_at (by decide) e66) rfl 0 (by decide) (hts (.fieldLink RX3 55 "EightReasons$Reader" "fault" "I") (List.mem_of_getElem? (i := 1) rfl)) (fun _ h9 => h9) rfl dX3_readSum_15 ?_
        have ttl_0 := tl_0
        refine lv_if_ne (tgt := 70) hx hb dX3_readSum_18 (by decide) (fun c67 => ?_) (fun c67 => ?_)
        · have kc67 := c_ne c67
          exact tV hx hb hr hlk hP hS ⟨trivial, ⟨v7_p_rnx, hT⟩⟩ dX3_readSum_70
        · have kc67 := c_eq c67
          refine lv_aload_n hx hb dX3_readSum_21 rfl (lv_at hl 1 rfl) ?_
          refine va_get (D := D) (cl := vwCl) (ci := 3) (v := .int x63) (C := RX3) (T := TX3) (N := 13) hx hb hts in_X3_readSum_X3 hown hK hP 1 (wl_at (by decide) e66) rfl 10 (by decide) (hts (.fieldLink RX3 67 "EightReasons$Reader" "kind" "I") (List.mem_of_getElem? (i := 2) rfl)) (fun _ h9 => h9) rfl dX3_readSum_22 ?_
          refine lv_bipush (v := 43) hx hb dX3_readSum_25 (by decide) ?_
          have ttl_43 := tl_43
          refine lv_icmp_eq (tgt := 39) hx hb dX3_readSum_27 (by decide) (fun c68 => ?_) (fun c68 => ?_)
          · have kc68 := c_eq c68
            have ttl_3 := tl_3
            exact j39 f H locs ls (by omega) hT hP hD hS (lv_sub hl [0, 1, 2] rfl)
          · have kc68 := c_ne c68
            refine lv_aload_n hx hb dX3_readSum_30 rfl (lv_at hl 1 rfl) ?_
            refine va_get (D := D) (cl := vwCl) (ci := 3) (v := .int x63) (C := RX3) (T := TX3) (N := 13) hx hb hts in_X3_readSum_X3 hown hK hP 1 (wl_at (by decide) e66) rfl 10 (by decide) (hts (.fieldLink RX3 67 "EightReasons$Reader" "kind" "I") (List.mem_of_getElem? (i := 2) rfl)) (fun _ h9 => h9) rfl dX3_readSum_31 ?_
            refine lv_bipush (v := 45) hx hb dX3_readSum_34 (by decide) ?_
            have ttl_45 := tl_45
            refine lv_icmp_ne (tgt := 70) hx hb dX3_readSum_36 (by decide) (fun c69 => ?_) (fun c69 => ?_)
            · have kc69 := c_ne c69
              exact tV hx hb hr hlk hP hS ⟨trivial, ⟨v7_p_rnx, hT⟩⟩ dX3_readSum_70
            · have kc69 := c_eq c69
              have ttl_3 := tl_3
              exact j39 f H locs ls (by omega) hT hP hD hS (lv_sub hl [0, 1, 2] rfl)
  refine lv_aload_n hx hb dX3_readSum_0 rfl (lv_at hl 0 rfl) ?_
  refine lv_iload_n hx hb dX3_readSum_1 rfl (lv_at hl 1 rfl) ?_
  have ttl_3 := tl_3
  obtain ⟨x70, x71, t73, x75, x77, x78, x79, y80, e81, h72, h74, h76⟩ := (show okX3 ad rby rnx 1 (f 1) from hT.1 1 (by decide))
  refine tVV (As := [.int 3]) (rest := []) (i := 1) ⟨hx, hb, hml, hown, hts⟩ hK hE hP hD hS hA hAB (s_X3_readTerm_4 l B0 adK adV D cy ad fr0 tx rby rnx f hT _) (cwV 1 hts gX3_readSum_X3_readTerm rfl rfl rfl (by decide +kernel) ⟨Nat.le_of_ble_eq_true rfl, Nat.le_of_ble_eq_true rfl⟩) (by decide) 3 e81 rfl rfl hl.1 rfl (Nat.le_of_ble_eq_true rfl) dX3_readSum_2 ⟨Nat.le_of_ble_eq_true rfl, Nat.le_of_ble_eq_true rfl⟩ (fun f H locs hw hP hD hS => ?_)
  obtain ⟨hrs, x82, hT⟩ := hw
  refine lv_iconst (v := 0) hx hb dX3_readSum_5 (by decide) ?_
  refine lv_istore_n (lv' := [(2, .int 0), (0, .ref (ad 1)), (1, .int 3)]) hx hb dX3_readSum_6 rfl hl (by decide) rfl (fun ls hl => ?_)
  have ttl_0 := tl_0
  exact j7 (Int.toNat (1601 - (0 : Int32).toInt)) f H locs ls (0 : Int32) x82 (by omega) (by omega) hT hP hD hS (lv_sub hl [0, 1, 2] rfl)
set_option maxHeartbeats 4000000 in
set_option maxRecDepth 100000 in
theorem s_X3_readOne_4 (l : Launch) (B0 : Nat) (adK adV : Nat → Nat) (D : va_G) (cy : Nat → ClassId) (ad : Nat → Nat) (fr0 : Nat → va_E) (tx : Int32) (rby : Int32) (rnx : Int32) (f : Nat → va_E) (hT : TYx ad cy fr0 tx rby rnx f) (sz : Nat) : TtV l yX3_readOne wsX3_readOne 33 767 [.ref (ad 1), .int 3] B0 adK adV D cy ad f sz (fun (g : Nat → va_E) => True ∧ (∃ (rnx' : Int32), TYx ad cy fr0 tx rby rnx' g)) := by
  refine TtV.of (cc := cX3_readOne) (maxL := 3) (own := RX3) (by decide) rfl (Nat.le_of_ble_eq_true rfl) rfl ?_
  intro p e s m below meth c A ls hx hb hr hml hts hown hlk hK hE hP hD hS hA hAB hl
  have hl : lv_has ls 3 [(0, .ref (ad 1)), (1, .int 3)] := hl
  refine st0 (fun H locs hP hS => ?_) hP hS
  have j86 : ∀ (f : Nat → va_E) (H : Heap) (locs : List Loc) (ls : Array Slot) (v86_p_rnx : Int32), (TYx ad cy fr0 tx rby v86_p_rnx f) → (va_P D vwCl (wl ad f) H) → (va_D A (wl ad f)) → (va_S A s.heap H locs) → (lv_has ls 3 [(0, .ref (ad 1)), (1, .int 3)]) → W p l e (rmO 33 767 0 0) s m ([.ref (ad 1), .int 3] : List Value).toArray below meth c H locs 0 0 (MQ below (va_Qv (fun (g : Nat → va_E) => True ∧ (∃ (rnx' : Int32), TYx ad cy fr0 tx rby rnx' g)) (fun g t => PstT D ad g t) A) ([.ref (ad 1), .int 3] : List Value).toArray s 0 0 A) (F0 m 86 ls []) := by
    intro f H locs ls v86_p_rnx hT hP hD hS hl
    refine lv_aload_n hx hb dX3_readOne_86 rfl (lv_at hl 0 rfl) ?_
    obtain ⟨x1, x2, t4, x6, x8, x9, x10, y11, e12, h3, h5, h7⟩ := (show okX3 ad rby v86_p_rnx 1 (f 1) from hT.1 1 (by decide))
    refine va_get (D := D) (cl := vwCl) (ci := 3) (v := .int x9) (C := RX3) (T := TX3) (N := 13) hx hb hts in_X3_readOne_X3 hown hK hP 1 (wl_at (by decide) e12) rfl 10 (by decide) (hts (.fieldLink RX3 67 "EightReasons$Reader" "kind" "I") (List.mem_of_getElem? (i := 1) rfl)) (fun _ h9 => h9) rfl dX3_readOne_87 ?_
    refine lv_istore_n (lv' := [(2, .int x9), (0, .ref (ad 1)), (1, .int 3)]) hx hb dX3_readOne_90 rfl hl (by decide) rfl (fun ls hl => ?_)
    refine lv_aload_n hx hb dX3_readOne_91 rfl (lv_at hl 1 rfl) ?_
    refine tVV (As := []) (rest := []) (i := 1) ⟨hx, hb, hml, hown, hts⟩ hK hE hP hD hS hA hAB (s_X3_advance_0 l B0 adK adV D cy ad fr0 tx rby v86_p_rnx f hT _) (cwV 0 hts gX3_readOne_X3_advance rfl rfl rfl (by decide +kernel) ⟨Nat.le_of_ble_eq_true rfl, Nat.le_of_ble_eq_true rfl⟩) (by decide) 3 e12 rfl rfl hl.1 rfl (Nat.le_of_ble_eq_true rfl) dX3_readOne_92 ⟨Nat.le_of_ble_eq_true rfl, Nat.le_of_ble_eq_true rfl⟩ (fun f H locs hw hP hD hS => ?_)
    obtain ⟨hrs, x13, hT⟩ := hw
    refine lv_aload_n hx hb dX3_readOne_95 rfl (lv_at hl 1 rfl) ?_
    refine lv_iload_n hx hb dX3_readOne_96 rfl (lv_at hl 2 rfl) ?_
    have ttl_3 := tl_3
    obtain ⟨x14, x15, t17, x19, x21, x22, x23, y24, e25, h16, h18, h20⟩ := (show okX3 ad rby x13 1 (f 1) from hT.1 1 (by decide))
    refine tVV (As := [.int 3]) (rest := []) (i := 1) ⟨hx, hb, hml, hown, hts⟩ hK hE hP hD hS hA hAB (s_X3_readSum_4 l B0 adK adV D cy ad fr0 tx rby x13 f hT _) (cwV 1 hts gX3_readOne_X3_readSum rfl rfl rfl (by decide +kernel) ⟨Nat.le_of_ble_eq_true rfl, Nat.le_of_ble_eq_true rfl⟩) (by decide) 3 e25 rfl rfl hl.1 rfl (Nat.le_of_ble_eq_true rfl) dX3_readOne_97 ⟨Nat.le_of_ble_eq_true rfl, Nat.le_of_ble_eq_true rfl⟩ (fun f H locs hw hP hD hS => ?_)
    obtain ⟨hrs, x26, hT⟩ := hw
    refine lv_aload_n hx hb dX3_readOne_100 rfl (lv_at hl 1 rfl) ?_
    obtain ⟨x27, x28, t30, x32, x34, x35, x36, y37, e38, h29, h31, h33⟩ := (show okX3 ad rby x26 1 (f 1) from hT.1 1 (by decide))
    refine va_get (D := D) (cl := vwCl) (ci := 3) (v := .ref (ad t30)) (C := RX3) (T := TX3) (N := 13) hx hb hts in_X3_readOne_X3 hown hK hP 1 (wl_at (by decide) e38) rfl 4 (by decide) (hts (.fieldLink RX3 22 "EightReasons$Reader" "suit" "LEightReasons$Suit;") (List.mem_of_getElem? (i := 2) rfl)) (fun _ h9 => h9) rfl dX3_readOne_101 ?_
    obtain ⟨x39, x41, x42, x44, x45, e46, h40, h43⟩ := (ty_suit hT h31)
    refine va_get (D := D) (cl := vwCl) (ci := 5) (v := .ref (ad (t30 + 7))) (C := RX5) (T := TX5) (N := 12) hx hb hts in_X3_readOne_X5 hown hK hP t30 (wl_at (x_lt (x_suit0 h31)) e46) rfl 11 (by decide) (hts (.fieldLink RX3 191 "EightReasons$Suit" "formula" "LEightReasons$Formula;") (List.mem_of_getElem? (i := 3) rfl)) (fun _ h9 => h9) rfl dX3_readOne_104 ?_
    refine lv_iload_n hx hb dX3_readOne_107 rfl (lv_at hl 0 rfl) ?_
    obtain ⟨x47, x49, x50, e52, h48, h51⟩ := (ty_suit7 hT h31)
    refine tVV (As := [.int x9]) (rest := []) (i := (t30 + 7)) ⟨hx, hb, hml, hown, hts⟩ hK hE hP hD hS hA hAB (s_X1_add_0 l B0 adK adV D cy ad fr0 tx rby x26 f hT t30 h31 x9 _) (cwV 1 hts gX3_readOne_X1_add rfl rfl rfl (by decide +kernel) ⟨Nat.le_of_ble_eq_true rfl, Nat.le_of_ble_eq_true rfl⟩) (x_lt (x_suit h31 (by decide))) 1 e52 rfl rfl hl.1 rfl (Nat.le_of_ble_eq_true rfl) dX3_readOne_108 ⟨Nat.le_of_ble_eq_true rfl, Nat.le_of_ble_eq_true rfl⟩ (fun f H locs hw hP hD hS => ?_)
    obtain ⟨hrs, hT⟩ := hw
    exact tV hx hb hr hlk hP hS ⟨trivial, ⟨x26, hT⟩⟩ dX3_readOne_111
  refine lv_aload_n hx hb dX3_readOne_0 rfl (lv_at hl 0 rfl) ?_
  obtain ⟨x53, x54, t56, x58, x60, x61, x62, y63, e64, h55, h57, h59⟩ := (show okX3 ad rby rnx 1 (f 1) from hT.1 1 (by decide))
  refine va_get (D := D) (cl := vwCl) (ci := 3) (v := .int x61) (C := RX3) (T := TX3) (N := 13) hx hb hts in_X3_readOne_X3 hown hK hP 1 (wl_at (by decide) e64) rfl 10 (by decide) (hts (.fieldLink RX3 67 "EightReasons$Reader" "kind" "I") (List.mem_of_getElem? (i := 1) rfl)) (fun _ h9 => h9) rfl dX3_readOne_1 ?_
  refine lv_bipush (v := 10) hx hb dX3_readOne_4 (by decide) ?_
  have ttl_10 := tl_10
  refine lv_icmp_ne (tgt := 47) hx hb dX3_readOne_6 (by decide) (fun c65 => ?_) (fun c65 => ?_)
  · have kc65 := c_ne c65
    refine lv_aload_n hx hb dX3_readOne_47 rfl (lv_at hl 0 rfl) ?_
    refine lv_iload_n hx hb dX3_readOne_48 rfl (lv_at hl 1 rfl) ?_
    have ttl_3 := tl_3
    refine tVV (As := [.int 3]) (rest := []) (i := 1) ⟨hx, hb, hml, hown, hts⟩ hK hE hP hD hS hA hAB (s_X3_readSum_4 l B0 adK adV D cy ad fr0 tx rby rnx f hT _) (cwV 1 hts gX3_readOne_X3_readSum rfl rfl rfl (by decide +kernel) ⟨Nat.le_of_ble_eq_true rfl, Nat.le_of_ble_eq_true rfl⟩) (by decide) 3 e64 rfl rfl hl.1 rfl (Nat.le_of_ble_eq_true rfl) dX3_readOne_49 ⟨Nat.le_of_ble_eq_true rfl, Nat.le_of_ble_eq_true rfl⟩ (fun f H locs hw hP hD hS => ?_)
    obtain ⟨hrs, x66, hT⟩ := hw
    refine lv_aload_n hx hb dX3_readOne_52 rfl (lv_at hl 0 rfl) ?_
    obtain ⟨x67, x68, t70, x72, x74, x75, x76, y77, e78, h69, h71, h73⟩ := (show okX3 ad rby x66 1 (f 1) from hT.1 1 (by decide))
    refine va_get (D := D) (cl := vwCl) (ci := 3) (v := .int x67) (C := RX3) (T := TX3) (N := 13) hx hb hts in_X3_readOne_X3 hown hK hP 1 (wl_at (by decide) e78) rfl 0 (by decide) (hts (.fieldLink RX3 55 "EightReasons$Reader" "fault" "I") (List.mem_of_getElem? (i := 4) rfl)) (fun _ h9 => h9) rfl dX3_readOne_53 ?_
    have ttl_0 := tl_0
    refine lv_if_ne (tgt := 111) hx hb dX3_readOne_56 (by decide) (fun c79 => ?_) (fun c79 => ?_)
    · have kc79 := c_ne c79
      exact tV hx hb hr hlk hP hS ⟨trivial, ⟨x66, hT⟩⟩ dX3_readOne_111
    · have kc79 := c_eq c79
      refine lv_aload_n hx hb dX3_readOne_59 rfl (lv_at hl 0 rfl) ?_
      refine va_get (D := D) (cl := vwCl) (ci := 3) (v := .int x75) (C := RX3) (T := TX3) (N := 13) hx hb hts in_X3_readOne_X3 hown hK hP 1 (wl_at (by decide) e78) rfl 10 (by decide) (hts (.fieldLink RX3 67 "EightReasons$Reader" "kind" "I") (List.mem_of_getElem? (i := 1) rfl)) (fun _ h9 => h9) rfl dX3_readOne_60 ?_
      refine lv_bipush (v := 60) hx hb dX3_readOne_63 (by decide) ?_
      have ttl_60 := tl_60
      refine lv_icmp_eq (tgt := 86) hx hb dX3_readOne_65 (by decide) (fun c80 => ?_) (fun c80 => ?_)
      · have kc80 := c_eq c80
        exact j86 f H locs ls x66 hT hP hD hS (lv_sub hl [0, 1] rfl)
      · have kc80 := c_ne c80
        refine lv_aload_n hx hb dX3_readOne_68 rfl (lv_at hl 0 rfl) ?_
        refine va_get (D := D) (cl := vwCl) (ci := 3) (v := .int x75) (C := RX3) (T := TX3) (N := 13) hx hb hts in_X3_readOne_X3 hown hK hP 1 (wl_at (by decide) e78) rfl 10 (by decide) (hts (.fieldLink RX3 67 "EightReasons$Reader" "kind" "I") (List.mem_of_getElem? (i := 1) rfl)) (fun _ h9 => h9) rfl dX3_readOne_69 ?_
        refine lv_bipush (v := 62) hx hb dX3_readOne_72 (by decide) ?_
        have ttl_62 := tl_62
        refine lv_icmp_eq (tgt := 86) hx hb dX3_readOne_74 (by decide) (fun c81 => ?_) (fun c81 => ?_)
        · have kc81 := c_eq c81
          exact j86 f H locs ls x66 hT hP hD hS (lv_sub hl [0, 1] rfl)
        · have kc81 := c_ne c81
          refine lv_aload_n hx hb dX3_readOne_77 rfl (lv_at hl 0 rfl) ?_
          refine va_get (D := D) (cl := vwCl) (ci := 3) (v := .int x75) (C := RX3) (T := TX3) (N := 13) hx hb hts in_X3_readOne_X3 hown hK hP 1 (wl_at (by decide) e78) rfl 10 (by decide) (hts (.fieldLink RX3 67 "EightReasons$Reader" "kind" "I") (List.mem_of_getElem? (i := 1) rfl)) (fun _ h9 => h9) rfl dX3_readOne_78 ?_
          refine lv_bipush (v := 61) hx hb dX3_readOne_81 (by decide) ?_
          have ttl_61 := tl_61
          refine lv_icmp_ne (tgt := 111) hx hb dX3_readOne_83 (by decide) (fun c82 => ?_) (fun c82 => ?_)
          · have kc82 := c_ne c82
            exact tV hx hb hr hlk hP hS ⟨trivial, ⟨x66, hT⟩⟩ dX3_readOne_111
          · have kc82 := c_eq c82
            exact j86 f H locs ls x66 hT hP hD hS (lv_sub hl [0, 1] rfl)
  · have kc65 := c_eq c65
    refine lv_aload_n hx hb dX3_readOne_9 rfl (lv_at hl 0 rfl) ?_
    refine lv_iload_n hx hb dX3_readOne_10 rfl (lv_at hl 1 rfl) ?_
    refine lv_bipush (v := 7) hx hb dX3_readOne_11 (by decide) ?_
    refine lv_icmp_ge (tgt := 20) hx hb dX3_readOne_13 (by decide) (fun c => absurd c (by decide)) (fun _ => ?_)
    refine lv_iconst (v := 1) hx hb dX3_readOne_16 (by decide) ?_
    refine lv_goto (tgt := 21) hx hb dX3_readOne_17 (by decide) ?_
    have ttl_1 := tl_1
    refine tVI (As := [.int 1]) (rest := []) (i := 1) ⟨hx, hb, hml, hown, hts⟩ hK hE hP hD hS hA hAB (s_X3_begin_0 l B0 adK adV D cy ad fr0 tx rby rnx f hT (1 : Int32) (by omega) _) (cwV 1 hts gX3_readOne_X3_begin rfl rfl rfl (by decide +kernel) ⟨Nat.le_of_ble_eq_true rfl, Nat.le_of_ble_eq_true rfl⟩) (by decide) 3 e64 rfl rfl hl.1 rfl (Nat.le_of_ble_eq_true rfl) dX3_readOne_21 ⟨Nat.le_of_ble_eq_true rfl, Nat.le_of_ble_eq_true rfl⟩ (fun r f H locs hw hP hD hS => ?_)
    obtain ⟨hrs, x83, hT⟩ := hw
    obtain ⟨x84, rfl⟩ : ∃ q, q = r := ⟨_, rfl⟩
    rcases hrs with ⟨rfl, h85⟩ | ⟨rfl, h86⟩
    · refine lv_if_eq (tgt := 46) hx hb dX3_readOne_24 (by decide) (fun c => absurd c (by decide)) (fun _ => ?_)
      refine lv_aload_n hx hb dX3_readOne_27 rfl (lv_at hl 0 rfl) ?_
      refine lv_iload_n hx hb dX3_readOne_28 rfl (lv_at hl 1 rfl) ?_
      refine lv_iconst (v := 1) hx hb dX3_readOne_29 (by decide) ?_
      refine lv_iadd hx hb dX3_readOne_30 (tpi (v := 4) (by decide) ?_)
      have ttl_4 := tl_4
      obtain ⟨x87, x88, t90, x92, x94, x95, x96, y97, e98, h89, h91, h93⟩ := (show okX3 ad rby x83 1 (f 1) from hT.1 1 (by decide))
      refine tVV (As := [.int 4]) (rest := []) (i := 1) ⟨hx, hb, hml, hown, hts⟩ hK hE hP hD hS hA hAB (s_X3_readOne_3 l B0 adK adV D cy ad fr0 tx rby x83 f hT _) (cwV 1 hts gX3_readOne_X3_readOne rfl rfl rfl (by decide +kernel) ⟨Nat.le_of_ble_eq_true rfl, Nat.le_of_ble_eq_true rfl⟩) (by decide) 3 e98 rfl rfl hl.1 rfl (Nat.le_of_ble_eq_true rfl) dX3_readOne_31 ⟨Nat.le_of_ble_eq_true rfl, Nat.le_of_ble_eq_true rfl⟩ (fun f H locs hw hP hD hS => ?_)
      obtain ⟨hrs, x99, hT⟩ := hw
      refine lv_aload_n hx hb dX3_readOne_34 rfl (lv_at hl 0 rfl) ?_
      obtain ⟨x100, x101, t103, x105, x107, x108, x109, y110, e111, h102, h104, h106⟩ := (show okX3 ad rby x99 1 (f 1) from hT.1 1 (by decide))
      refine va_get (D := D) (cl := vwCl) (ci := 3) (v := .ref (ad t103)) (C := RX3) (T := TX3) (N := 13) hx hb hts in_X3_readOne_X3 hown hK hP 1 (wl_at (by decide) e111) rfl 4 (by decide) (hts (.fieldLink RX3 22 "EightReasons$Reader" "suit" "LEightReasons$Suit;") (List.mem_of_getElem? (i := 2) rfl)) (fun _ h9 => h9) rfl dX3_readOne_35 ?_
      obtain ⟨x112, x114, x115, x117, x118, e119, h113, h116⟩ := (ty_suit hT h104)
      refine va_get (D := D) (cl := vwCl) (ci := 5) (v := .ref (ad (t103 + 7))) (C := RX5) (T := TX5) (N := 12) hx hb hts in_X3_readOne_X5 hown hK hP t103 (wl_at (x_lt (x_suit0 h104)) e119) rfl 11 (by decide) (hts (.fieldLink RX3 191 "EightReasons$Suit" "formula" "LEightReasons$Formula;") (List.mem_of_getElem? (i := 3) rfl)) (fun _ h9 => h9) rfl dX3_readOne_38 ?_
      refine lv_bipush (v := 10) hx hb dX3_readOne_41 (by decide) ?_
      obtain ⟨x120, x122, x123, e125, h121, h124⟩ := (ty_suit7 hT h104)
      refine tVV (As := [.int 10]) (rest := []) (i := (t103 + 7)) ⟨hx, hb, hml, hown, hts⟩ hK hE hP hD hS hA hAB (s_X1_add_0 l B0 adK adV D cy ad fr0 tx rby x99 f hT t103 h104 (10 : Int32) _) (cwV 1 hts gX3_readOne_X1_add rfl rfl rfl (by decide +kernel) ⟨Nat.le_of_ble_eq_true rfl, Nat.le_of_ble_eq_true rfl⟩) (x_lt (x_suit h104 (by decide))) 1 e125 rfl rfl hl.1 rfl (Nat.le_of_ble_eq_true rfl) dX3_readOne_43 ⟨Nat.le_of_ble_eq_true rfl, Nat.le_of_ble_eq_true rfl⟩ (fun f H locs hw hP hD hS => ?_)
      obtain ⟨hrs, hT⟩ := hw
      exact tV hx hb hr hlk hP hS ⟨trivial, ⟨x99, hT⟩⟩ dX3_readOne_46
    · exact False.elim (by omega)
set_option maxHeartbeats 4000000 in
set_option maxRecDepth 100000 in
theorem s_X3_readBoth_4 (l : Launch) (B0 : Nat) (adK adV : Nat → Nat) (D : va_G) (cy : Nat → ClassId) (ad : Nat → Nat) (fr0 : Nat → va_E) (tx : Int32) (rby : Int32) (rnx : Int32) (f : Nat → va_E) (hT : TYx ad cy fr0 tx rby rnx f) (sz : Nat) : TtV l yX3_readBoth wsX3_readBoth 34 789 [.ref (ad 1), .int 3] B0 adK adV D cy ad f sz (fun (g : Nat → va_E) => True ∧ (∃ (rnx' : Int32), TYx ad cy fr0 tx rby rnx' g)) := by
  refine TtV.of (cc := cX3_readBoth) (maxL := 3) (own := RX3) (by decide) rfl (Nat.le_of_ble_eq_true rfl) rfl ?_
  intro p e s m below meth c A ls hx hb hr hml hts hown hlk hK hE hP hD hS hA hAB hl
  have hl : lv_has ls 3 [(0, .ref (ad 1)), (1, .int 3)] := hl
  refine st0 (fun H locs hP hS => ?_) hP hS
  have j7 : ∀ (N : Nat) (f : Nat → va_E) (H : Heap) (locs : List Loc) (ls : Array Slot) (v7_l2 : Int32) (v7_p_rnx : Int32), (1601 - v7_l2.toInt ≤ (N : Int)) → (0 ≤ v7_l2.toInt ∧ v7_l2.toInt ≤ 1600) → (TYx ad cy fr0 tx rby v7_p_rnx f) → (va_P D vwCl (wl ad f) H) → (va_D A (wl ad f)) → (va_S A s.heap H locs) → (lv_has ls 3 [(2, .int v7_l2), (0, .ref (ad 1)), (1, .int 3)]) → W p l e (rmO 34 789 0 0) s m ([.ref (ad 1), .int 3] : List Value).toArray below meth c H locs 0 0 (MQ below (va_Qv (fun (g : Nat → va_E) => True ∧ (∃ (rnx' : Int32), TYx ad cy fr0 tx rby rnx' g)) (fun g t => PstT D ad g t) A) ([.ref (ad 1), .int 3] : List Value).toArray s 0 0 A) (F0 m 7 ls []) := by
    intro N
    induction N with
    | zero => intro f H locs ls v7_l2 v7_p_rnx hN hv7_l2 hT hP hD hS hl; exact absurd hN (by omega)
    | succ N ih7 =>
      intro f H locs ls v7_l2 v7_p_rnx hN hv7_l2 hT hP hD hS hl
      refine lv_iload_n hx hb dX3_readBoth_7 rfl (lv_at hl 0 rfl) ?_
      refine lv_sipush (v := 1600) hx hb dX3_readBoth_8 (by decide) ?_
      have ttl_1600 := tl_1600
      refine lv_icmp_ge (tgt := 57) hx hb dX3_readBoth_11 (by decide) (fun c1 => ?_) (fun c1 => ?_)
      · have kc1 := c_le c1
        exact tV hx hb hr hlk hP hS ⟨trivial, ⟨v7_p_rnx, hT⟩⟩ dX3_readBoth_57
      · have kc1 := c_nle c1
        refine lv_aload_n hx hb dX3_readBoth_14 rfl (lv_at hl 1 rfl) ?_
        obtain ⟨x2, x3, t5, x7, x9, x10, x11, y12, e13, h4, h6, h8⟩ := (show okX3 ad rby v7_p_rnx 1 (f 1) from hT.1 1 (by decide))
        refine va_get (D := D) (cl := vwCl) (ci := 3) (v := .int x2) (C := RX3) (T := TX3) (N := 13) hx hb hts in_X3_readBoth_X3 hown hK hP 1 (wl_at (by decide) e13) rfl 0 (by decide) (hts (.fieldLink RX3 55 "EightReasons$Reader" "fault" "I") (List.mem_of_getElem? (i := 1) rfl)) (fun _ h9 => h9) rfl dX3_readBoth_15 ?_
        have ttl_0 := tl_0
        refine lv_if_ne (tgt := 57) hx hb dX3_readBoth_18 (by decide) (fun c14 => ?_) (fun c14 => ?_)
        · have kc14 := c_ne c14
          exact tV hx hb hr hlk hP hS ⟨trivial, ⟨v7_p_rnx, hT⟩⟩ dX3_readBoth_57
        · have kc14 := c_eq c14
          refine lv_aload_n hx hb dX3_readBoth_21 rfl (lv_at hl 1 rfl) ?_
          refine va_get (D := D) (cl := vwCl) (ci := 3) (v := .int x10) (C := RX3) (T := TX3) (N := 13) hx hb hts in_X3_readBoth_X3 hown hK hP 1 (wl_at (by decide) e13) rfl 10 (by decide) (hts (.fieldLink RX3 67 "EightReasons$Reader" "kind" "I") (List.mem_of_getElem? (i := 2) rfl)) (fun _ h9 => h9) rfl dX3_readBoth_22 ?_
          refine lv_bipush (v := 9) hx hb dX3_readBoth_25 (by decide) ?_
          have ttl_9 := tl_9
          refine lv_icmp_ne (tgt := 57) hx hb dX3_readBoth_27 (by decide) (fun c15 => ?_) (fun c15 => ?_)
          · have kc15 := c_ne c15
            exact tV hx hb hr hlk hP hS ⟨trivial, ⟨v7_p_rnx, hT⟩⟩ dX3_readBoth_57
          · have kc15 := c_eq c15
            refine lv_aload_n hx hb dX3_readBoth_30 rfl (lv_at hl 1 rfl) ?_
            refine tVV (As := []) (rest := []) (i := 1) ⟨hx, hb, hml, hown, hts⟩ hK hE hP hD hS hA hAB (s_X3_advance_0 l B0 adK adV D cy ad fr0 tx rby v7_p_rnx f hT _) (cwV 0 hts gX3_readBoth_X3_advance rfl rfl rfl (by decide +kernel) ⟨Nat.le_of_ble_eq_true rfl, Nat.le_of_ble_eq_true rfl⟩) (by decide) 3 e13 rfl rfl hl.1 rfl (Nat.le_of_ble_eq_true rfl) dX3_readBoth_31 ⟨Nat.le_of_ble_eq_true rfl, Nat.le_of_ble_eq_true rfl⟩ (fun f H locs hw hP hD hS => ?_)
            obtain ⟨hrs, x16, hT⟩ := hw
            refine lv_aload_n hx hb dX3_readBoth_34 rfl (lv_at hl 1 rfl) ?_
            refine lv_iload_n hx hb dX3_readBoth_35 rfl (lv_at hl 2 rfl) ?_
            have ttl_3 := tl_3
            obtain ⟨x17, x18, t20, x22, x24, x25, x26, y27, e28, h19, h21, h23⟩ := (show okX3 ad rby x16 1 (f 1) from hT.1 1 (by decide))
            refine tVV (As := [.int 3]) (rest := []) (i := 1) ⟨hx, hb, hml, hown, hts⟩ hK hE hP hD hS hA hAB (s_X3_readOne_4 l B0 adK adV D cy ad fr0 tx rby x16 f hT _) (cwV 1 hts gX3_readBoth_X3_readOne rfl rfl rfl (by decide +kernel) ⟨Nat.le_of_ble_eq_true rfl, Nat.le_of_ble_eq_true rfl⟩) (by decide) 3 e28 rfl rfl hl.1 rfl (Nat.le_of_ble_eq_true rfl) dX3_readBoth_36 ⟨Nat.le_of_ble_eq_true rfl, Nat.le_of_ble_eq_true rfl⟩ (fun f H locs hw hP hD hS => ?_)
            obtain ⟨hrs, x29, hT⟩ := hw
            refine lv_aload_n hx hb dX3_readBoth_39 rfl (lv_at hl 1 rfl) ?_
            obtain ⟨x30, x31, t33, x35, x37, x38, x39, y40, e41, h32, h34, h36⟩ := (show okX3 ad rby x29 1 (f 1) from hT.1 1 (by decide))
            refine va_get (D := D) (cl := vwCl) (ci := 3) (v := .ref (ad t33)) (C := RX3) (T := TX3) (N := 13) hx hb hts in_X3_readBoth_X3 hown hK hP 1 (wl_at (by decide) e41) rfl 4 (by decide) (hts (.fieldLink RX3 22 "EightReasons$Reader" "suit" "LEightReasons$Suit;") (List.mem_of_getElem? (i := 3) rfl)) (fun _ h9 => h9) rfl dX3_readBoth_40 ?_
            obtain ⟨x42, x44, x45, x47, x48, e49, h43, h46⟩ := (ty_suit hT h34)
            refine va_get (D := D) (cl := vwCl) (ci := 5) (v := .ref (ad (t33 + 7))) (C := RX5) (T := TX5) (N := 12) hx hb hts in_X3_readBoth_X5 hown hK hP t33 (wl_at (x_lt (x_suit0 h34)) e49) rfl 11 (by decide) (hts (.fieldLink RX3 191 "EightReasons$Suit" "formula" "LEightReasons$Formula;") (List.mem_of_getElem? (i := 4) rfl)) (fun _ h9 => h9) rfl dX3_readBoth_43 ?_
            refine lv_bipush (v := 9) hx hb dX3_readBoth_46 (by decide) ?_
            obtain ⟨x50, x52, x53, e55, h51, h54⟩ := (ty_suit7 hT h34)
            refine tVV (As := [.int 9]) (rest := []) (i := (t33 + 7)) ⟨hx, hb, hml, hown, hts⟩ hK hE hP hD hS hA hAB (s_X1_add_0 l B0 adK adV D cy ad fr0 tx rby x29 f hT t33 h34 (9 : Int32) _) (cwV 1 hts gX3_readBoth_X1_add rfl rfl rfl (by decide +kernel) ⟨Nat.le_of_ble_eq_true rfl, Nat.le_of_ble_eq_true rfl⟩) (x_lt (x_suit h34 (by decide))) 1 e55 rfl rfl hl.1 rfl (Nat.le_of_ble_eq_true rfl) dX3_readBoth_48 ⟨Nat.le_of_ble_eq_true rfl, Nat.le_of_ble_eq_true rfl⟩ (fun f H locs hw hP hD hS => ?_)
            obtain ⟨hrs, hT⟩ := hw
            obtain ⟨x56, ex56⟩ : ∃ q : Int32, q = v7_l2 + Int32.ofInt (1) := ⟨_, rfl⟩
            refine lv_iinc (v := x56) (lv' := [(2, .int x56), (0, .ref (ad 1)), (1, .int 3)]) hx hb dX3_readBoth_51 hl (k := 0) rfl ex56.symm (by decide) rfl (fun ls hl => ?_)
            have hx56 := r_inc ex56 (by decide) (by omega) (by omega)
            refine lv_goto (tgt := 7) hx hb dX3_readBoth_54 (by decide) ?_
            exact ih7 f H locs ls x56 x29 (by omega) (by omega) hT hP hD hS (lv_sub hl [0, 1, 2] rfl)
  refine lv_aload_n hx hb dX3_readBoth_0 rfl (lv_at hl 0 rfl) ?_
  refine lv_iload_n hx hb dX3_readBoth_1 rfl (lv_at hl 1 rfl) ?_
  have ttl_3 := tl_3
  obtain ⟨x57, x58, t60, x62, x64, x65, x66, y67, e68, h59, h61, h63⟩ := (show okX3 ad rby rnx 1 (f 1) from hT.1 1 (by decide))
  refine tVV (As := [.int 3]) (rest := []) (i := 1) ⟨hx, hb, hml, hown, hts⟩ hK hE hP hD hS hA hAB (s_X3_readOne_4 l B0 adK adV D cy ad fr0 tx rby rnx f hT _) (cwV 1 hts gX3_readBoth_X3_readOne rfl rfl rfl (by decide +kernel) ⟨Nat.le_of_ble_eq_true rfl, Nat.le_of_ble_eq_true rfl⟩) (by decide) 3 e68 rfl rfl hl.1 rfl (Nat.le_of_ble_eq_true rfl) dX3_readBoth_2 ⟨Nat.le_of_ble_eq_true rfl, Nat.le_of_ble_eq_true rfl⟩ (fun f H locs hw hP hD hS => ?_)
  obtain ⟨hrs, x69, hT⟩ := hw
  refine lv_iconst (v := 0) hx hb dX3_readBoth_5 (by decide) ?_
  refine lv_istore_n (lv' := [(2, .int 0), (0, .ref (ad 1)), (1, .int 3)]) hx hb dX3_readBoth_6 rfl hl (by decide) rfl (fun ls hl => ?_)
  have ttl_0 := tl_0
  exact j7 (Int.toNat (1601 - (0 : Int32).toInt)) f H locs ls (0 : Int32) x69 (by omega) (by omega) hT hP hD hS (lv_sub hl [0, 1, 2] rfl)
set_option maxHeartbeats 4000000 in
set_option maxRecDepth 100000 in
theorem s_X3_readEither_4 (l : Launch) (B0 : Nat) (adK adV : Nat → Nat) (D : va_G) (cy : Nat → ClassId) (ad : Nat → Nat) (fr0 : Nat → va_E) (tx : Int32) (rby : Int32) (rnx : Int32) (f : Nat → va_E) (hT : TYx ad cy fr0 tx rby rnx f) (sz : Nat) : TtV l yX3_readEither wsX3_readEither 35 811 [.ref (ad 1), .int 3] B0 adK adV D cy ad f sz (fun (g : Nat → va_E) => True ∧ (∃ (rnx' : Int32), TYx ad cy fr0 tx rby rnx' g)) := by
  refine TtV.of (cc := cX3_readEither) (maxL := 3) (own := RX3) (by decide) rfl (Nat.le_of_ble_eq_true rfl) rfl ?_
  intro p e s m below meth c A ls hx hb hr hml hts hown hlk hK hE hP hD hS hA hAB hl
  have hl : lv_has ls 3 [(0, .ref (ad 1)), (1, .int 3)] := hl
  refine st0 (fun H locs hP hS => ?_) hP hS
  have j7 : ∀ (N : Nat) (f : Nat → va_E) (H : Heap) (locs : List Loc) (ls : Array Slot) (v7_l2 : Int32) (v7_p_rnx : Int32), (1601 - v7_l2.toInt ≤ (N : Int)) → (0 ≤ v7_l2.toInt ∧ v7_l2.toInt ≤ 1600) → (TYx ad cy fr0 tx rby v7_p_rnx f) → (va_P D vwCl (wl ad f) H) → (va_D A (wl ad f)) → (va_S A s.heap H locs) → (lv_has ls 3 [(2, .int v7_l2), (0, .ref (ad 1)), (1, .int 3)]) → W p l e (rmO 35 811 0 0) s m ([.ref (ad 1), .int 3] : List Value).toArray below meth c H locs 0 0 (MQ below (va_Qv (fun (g : Nat → va_E) => True ∧ (∃ (rnx' : Int32), TYx ad cy fr0 tx rby rnx' g)) (fun g t => PstT D ad g t) A) ([.ref (ad 1), .int 3] : List Value).toArray s 0 0 A) (F0 m 7 ls []) := by
    intro N
    induction N with
    | zero => intro f H locs ls v7_l2 v7_p_rnx hN hv7_l2 hT hP hD hS hl; exact absurd hN (by omega)
    | succ N ih7 =>
      intro f H locs ls v7_l2 v7_p_rnx hN hv7_l2 hT hP hD hS hl
      refine lv_iload_n hx hb dX3_readEither_7 rfl (lv_at hl 0 rfl) ?_
      refine lv_sipush (v := 1600) hx hb dX3_readEither_8 (by decide) ?_
      have ttl_1600 := tl_1600
      refine lv_icmp_ge (tgt := 57) hx hb dX3_readEither_11 (by decide) (fun c1 => ?_) (fun c1 => ?_)
      · have kc1 := c_le c1
        exact tV hx hb hr hlk hP hS ⟨trivial, ⟨v7_p_rnx, hT⟩⟩ dX3_readEither_57
      · have kc1 := c_nle c1
        refine lv_aload_n hx hb dX3_readEither_14 rfl (lv_at hl 1 rfl) ?_
        obtain ⟨x2, x3, t5, x7, x9, x10, x11, y12, e13, h4, h6, h8⟩ := (show okX3 ad rby v7_p_rnx 1 (f 1) from hT.1 1 (by decide))
        refine va_get (D := D) (cl := vwCl) (ci := 3) (v := .int x2) (C := RX3) (T := TX3) (N := 13) hx hb hts in_X3_readEither_X3 hown hK hP 1 (wl_at (by decide) e13) rfl 0 (by decide) (hts (.fieldLink RX3 55 "EightReasons$Reader" "fault" "I") (List.mem_of_getElem? (i := 1) rfl)) (fun _ h9 => h9) rfl dX3_readEither_15 ?_
        have ttl_0 := tl_0
        refine lv_if_ne (tgt := 57) hx hb dX3_readEither_18 (by decide) (fun c14 => ?_) (fun c14 => ?_)
        · have kc14 := c_ne c14
          exact tV hx hb hr hlk hP hS ⟨trivial, ⟨v7_p_rnx, hT⟩⟩ dX3_readEither_57
        · have kc14 := c_eq c14
          refine lv_aload_n hx hb dX3_readEither_21 rfl (lv_at hl 1 rfl) ?_
          refine va_get (D := D) (cl := vwCl) (ci := 3) (v := .int x10) (C := RX3) (T := TX3) (N := 13) hx hb hts in_X3_readEither_X3 hown hK hP 1 (wl_at (by decide) e13) rfl 10 (by decide) (hts (.fieldLink RX3 67 "EightReasons$Reader" "kind" "I") (List.mem_of_getElem? (i := 2) rfl)) (fun _ h9 => h9) rfl dX3_readEither_22 ?_
          refine lv_bipush (v := 8) hx hb dX3_readEither_25 (by decide) ?_
          have ttl_8 := tl_8
          refine lv_icmp_ne (tgt := 57) hx hb dX3_readEither_27 (by decide) (fun c15 => ?_) (fun c15 => ?_)
          · have kc15 := c_ne c15
            exact tV hx hb hr hlk hP hS ⟨trivial, ⟨v7_p_rnx, hT⟩⟩ dX3_readEither_57
          · have kc15 := c_eq c15
            refine lv_aload_n hx hb dX3_readEither_30 rfl (lv_at hl 1 rfl) ?_
            refine tVV (As := []) (rest := []) (i := 1) ⟨hx, hb, hml, hown, hts⟩ hK hE hP hD hS hA hAB (s_X3_advance_0 l B0 adK adV D cy ad fr0 tx rby v7_p_rnx f hT _) (cwV 0 hts gX3_readEither_X3_advance rfl rfl rfl (by decide +kernel) ⟨Nat.le_of_ble_eq_true rfl, Nat.le_of_ble_eq_true rfl⟩) (by decide) 3 e13 rfl rfl hl.1 rfl (Nat.le_of_ble_eq_true rfl) dX3_readEither_31 ⟨Nat.le_of_ble_eq_true rfl, Nat.le_of_ble_eq_true rfl⟩ (fun f H locs hw hP hD hS => ?_)
            obtain ⟨hrs, x16, hT⟩ := hw
            refine lv_aload_n hx hb dX3_readEither_34 rfl (lv_at hl 1 rfl) ?_
            refine lv_iload_n hx hb dX3_readEither_35 rfl (lv_at hl 2 rfl) ?_
            have ttl_3 := tl_3
            obtain ⟨x17, x18, t20, x22, x24, x25, x26, y27, e28, h19, h21, h23⟩ := (show okX3 ad rby x16 1 (f 1) from hT.1 1 (by decide))
            refine tVV (As := [.int 3]) (rest := []) (i := 1) ⟨hx, hb, hml, hown, hts⟩ hK hE hP hD hS hA hAB (s_X3_readBoth_4 l B0 adK adV D cy ad fr0 tx rby x16 f hT _) (cwV 1 hts gX3_readEither_X3_readBoth rfl rfl rfl (by decide +kernel) ⟨Nat.le_of_ble_eq_true rfl, Nat.le_of_ble_eq_true rfl⟩) (by decide) 3 e28 rfl rfl hl.1 rfl (Nat.le_of_ble_eq_true rfl) dX3_readEither_36 ⟨Nat.le_of_ble_eq_true rfl, Nat.le_of_ble_eq_true rfl⟩ (fun f H locs hw hP hD hS => ?_)
            obtain ⟨hrs, x29, hT⟩ := hw
            refine lv_aload_n hx hb dX3_readEither_39 rfl (lv_at hl 1 rfl) ?_
            obtain ⟨x30, x31, t33, x35, x37, x38, x39, y40, e41, h32, h34, h36⟩ := (show okX3 ad rby x29 1 (f 1) from hT.1 1 (by decide))
            refine va_get (D := D) (cl := vwCl) (ci := 3) (v := .ref (ad t33)) (C := RX3) (T := TX3) (N := 13) hx hb hts in_X3_readEither_X3 hown hK hP 1 (wl_at (by decide) e41) rfl 4 (by decide) (hts (.fieldLink RX3 22 "EightReasons$Reader" "suit" "LEightReasons$Suit;") (List.mem_of_getElem? (i := 3) rfl)) (fun _ h9 => h9) rfl dX3_readEither_40 ?_
            obtain ⟨x42, x44, x45, x47, x48, e49, h43, h46⟩ := (ty_suit hT h34)
            refine va_get (D := D) (cl := vwCl) (ci := 5) (v := .ref (ad (t33 + 7))) (C := RX5) (T := TX5) (N := 12) hx hb hts in_X3_readEither_X5 hown hK hP t33 (wl_at (x_lt (x_suit0 h34)) e49) rfl 11 (by decide) (hts (.fieldLink RX3 191 "EightReasons$Suit" "formula" "LEightReasons$Formula;") (List.mem_of_getElem? (i := 4) rfl)) (fun _ h9 => h9) rfl dX3_readEither_43 ?_
            refine lv_bipush (v := 8) hx hb dX3_readEither_46 (by decide) ?_
            obtain ⟨x50, x52, x53, e55, h51, h54⟩ := (ty_suit7 hT h34)
            refine tVV (As := [.int 8]) (rest := []) (i := (t33 + 7)) ⟨hx, hb, hml, hown, hts⟩ hK hE hP hD hS hA hAB (s_X1_add_0 l B0 adK adV D cy ad fr0 tx rby x29 f hT t33 h34 (8 : Int32) _) (cwV 1 hts gX3_readEither_X1_add rfl rfl rfl (by decide +kernel) ⟨Nat.le_of_ble_eq_true rfl, Nat.le_of_ble_eq_true rfl⟩) (x_lt (x_suit h34 (by decide))) 1 e55 rfl rfl hl.1 rfl (Nat.le_of_ble_eq_true rfl) dX3_readEither_48 ⟨Nat.le_of_ble_eq_true rfl, Nat.le_of_ble_eq_true rfl⟩ (fun f H locs hw hP hD hS => ?_)
            obtain ⟨hrs, hT⟩ := hw
            obtain ⟨x56, ex56⟩ : ∃ q : Int32, q = v7_l2 + Int32.ofInt (1) := ⟨_, rfl⟩
            refine lv_iinc (v := x56) (lv' := [(2, .int x56), (0, .ref (ad 1)), (1, .int 3)]) hx hb dX3_readEither_51 hl (k := 0) rfl ex56.symm (by decide) rfl (fun ls hl => ?_)
            have hx56 := r_inc ex56 (by decide) (by omega) (by omega)
            refine lv_goto (tgt := 7) hx hb dX3_readEither_54 (by decide) ?_
            exact ih7 f H locs ls x56 x29 (by omega) (by omega) hT hP hD hS (lv_sub hl [0, 1, 2] rfl)
  refine lv_aload_n hx hb dX3_readEither_0 rfl (lv_at hl 0 rfl) ?_
  refine lv_iload_n hx hb dX3_readEither_1 rfl (lv_at hl 1 rfl) ?_
  have ttl_3 := tl_3
  obtain ⟨x57, x58, t60, x62, x64, x65, x66, y67, e68, h59, h61, h63⟩ := (show okX3 ad rby rnx 1 (f 1) from hT.1 1 (by decide))
  refine tVV (As := [.int 3]) (rest := []) (i := 1) ⟨hx, hb, hml, hown, hts⟩ hK hE hP hD hS hA hAB (s_X3_readBoth_4 l B0 adK adV D cy ad fr0 tx rby rnx f hT _) (cwV 1 hts gX3_readEither_X3_readBoth rfl rfl rfl (by decide +kernel) ⟨Nat.le_of_ble_eq_true rfl, Nat.le_of_ble_eq_true rfl⟩) (by decide) 3 e68 rfl rfl hl.1 rfl (Nat.le_of_ble_eq_true rfl) dX3_readEither_2 ⟨Nat.le_of_ble_eq_true rfl, Nat.le_of_ble_eq_true rfl⟩ (fun f H locs hw hP hD hS => ?_)
  obtain ⟨hrs, x69, hT⟩ := hw
  refine lv_iconst (v := 0) hx hb dX3_readEither_5 (by decide) ?_
  refine lv_istore_n (lv' := [(2, .int 0), (0, .ref (ad 1)), (1, .int 3)]) hx hb dX3_readEither_6 rfl hl (by decide) rfl (fun ls hl => ?_)
  have ttl_0 := tl_0
  exact j7 (Int.toNat (1601 - (0 : Int32).toInt)) f H locs ls (0 : Int32) x69 (by omega) (by omega) hT hP hD hS (lv_sub hl [0, 1, 2] rfl)
set_option maxHeartbeats 4000000 in
set_option maxRecDepth 100000 in
theorem s_X3_readUnit_5 (l : Launch) (B0 : Nat) (adK adV : Nat → Nat) (D : va_G) (cy : Nat → ClassId) (ad : Nat → Nat) (fr0 : Nat → va_E) (tx : Int32) (rby : Int32) (rnx : Int32) (f : Nat → va_E) (hT : TYx ad cy fr0 tx rby rnx f) (sz : Nat) : TtV l yX3_readUnit wsX3_readUnit 36 833 [.ref (ad 1), .int 2] B0 adK adV D cy ad f sz (fun (g : Nat → va_E) => True ∧ (∃ (rnx' : Int32), TYx ad cy fr0 tx rby rnx' g)) := by
  refine TtV.of (cc := cX3_readUnit) (maxL := 6) (own := RX3) (by decide) rfl (Nat.le_of_ble_eq_true rfl) rfl ?_
  intro p e s m below meth c A ls hx hb hr hml hts hown hlk hK hE hP hD hS hA hAB hl
  have hl : lv_has ls 6 [(0, .ref (ad 1)), (1, .int 2)] := hl
  refine st0 (fun H locs hP hS => ?_) hP hS
  refine lv_aload_n hx hb dX3_readUnit_0 rfl (lv_at hl 0 rfl) ?_
  obtain ⟨x1, x2, t4, x6, x8, x9, x10, y11, e12, h3, h5, h7⟩ := (show okX3 ad rby rnx 1 (f 1) from hT.1 1 (by decide))
  refine va_get (D := D) (cl := vwCl) (ci := 3) (v := .int x9) (C := RX3) (T := TX3) (N := 13) hx hb hts in_X3_readUnit_X3 hown hK hP 1 (wl_at (by decide) e12) rfl 10 (by decide) (hts (.fieldLink RX3 67 "EightReasons$Reader" "kind" "I") (List.mem_of_getElem? (i := 1) rfl)) (fun _ h9 => h9) rfl dX3_readUnit_1 ?_
  refine lv_bipush (v := 40) hx hb dX3_readUnit_4 (by decide) ?_
  have ttl_40 := tl_40
  refine lv_icmp_ne (tgt := 13) hx hb dX3_readUnit_6 (by decide) (fun c13 => ?_) (fun c13 => ?_)
  · have kc13 := c_ne c13
    refine lv_iconst (v := 0) hx hb dX3_readUnit_13 (by decide) ?_
    refine lv_istore_n (lv' := [(2, .int 0), (0, .ref (ad 1)), (1, .int 2)]) hx hb dX3_readUnit_14 rfl hl (by decide) rfl (fun ls hl => ?_)
    refine lv_aload_n hx hb dX3_readUnit_15 rfl (lv_at hl 1 rfl) ?_
    refine va_get (D := D) (cl := vwCl) (ci := 3) (v := .int x9) (C := RX3) (T := TX3) (N := 13) hx hb hts in_X3_readUnit_X3 hown hK hP 1 (wl_at (by decide) e12) rfl 10 (by decide) (hts (.fieldLink RX3 67 "EightReasons$Reader" "kind" "I") (List.mem_of_getElem? (i := 1) rfl)) (fun _ h9 => h9) rfl dX3_readUnit_16 ?_
    refine lv_bipush (v := 15) hx hb dX3_readUnit_19 (by decide) ?_
    have ttl_15 := tl_15
    refine lv_icmp_eq (tgt := 34) hx hb dX3_readUnit_21 (by decide) (fun c14 => ?_) (fun c14 => ?_)
    · have kc14 := c_eq c14
      refine lv_iconst (v := 1) hx hb dX3_readUnit_34 (by decide) ?_
      refine lv_goto (tgt := 39) hx hb dX3_readUnit_35 (by decide) ?_
      refine lv_istore_n (lv' := [(3, .int 1), (2, .int 0), (0, .ref (ad 1)), (1, .int 2)]) hx hb dX3_readUnit_39 rfl hl (by decide) rfl (fun ls hl => ?_)
      refine lv_aload_n hx hb dX3_readUnit_40 rfl (lv_at hl 2 rfl) ?_
      refine va_get (D := D) (cl := vwCl) (ci := 3) (v := .int x1) (C := RX3) (T := TX3) (N := 13) hx hb hts in_X3_readUnit_X3 hown hK hP 1 (wl_at (by decide) e12) rfl 0 (by decide) (hts (.fieldLink RX3 55 "EightReasons$Reader" "fault" "I") (List.mem_of_getElem? (i := 2) rfl)) (fun _ h9 => h9) rfl dX3_readUnit_41 ?_
      have ttl_0 := tl_0
      refine lv_if_ne (tgt := 55) hx hb dX3_readUnit_44 (by decide) (fun c15 => ?_) (fun c15 => ?_)
      · have kc15 := c_ne c15
        refine lv_aload_n hx hb dX3_readUnit_55 rfl (lv_at hl 2 rfl) ?_
        refine tVV (As := []) (rest := []) (i := 1) ⟨hx, hb, hml, hown, hts⟩ hK hE hP hD hS hA hAB (s_X3_refuse_0 l B0 adK adV D cy ad fr0 tx rby rnx f hT _) (cwV 0 hts gX3_readUnit_X3_refuse rfl rfl rfl (by decide +kernel) ⟨Nat.le_of_ble_eq_true rfl, Nat.le_of_ble_eq_true rfl⟩) (by decide) 3 e12 rfl rfl hl.1 rfl (Nat.le_of_ble_eq_true rfl) dX3_readUnit_56 ⟨Nat.le_of_ble_eq_true rfl, Nat.le_of_ble_eq_true rfl⟩ (fun f H locs hw hP hD hS => ?_)
        obtain ⟨hrs, hT⟩ := hw
        exact tV hx hb hr hlk hP hS ⟨trivial, ⟨rnx, hT⟩⟩ dX3_readUnit_59
      · have kc15 := c_eq c15
        refine lv_iload_n hx hb dX3_readUnit_47 rfl (lv_at hl 1 rfl) ?_
        refine lv_if_ne (tgt := 60) hx hb dX3_readUnit_48 (by decide) (fun c => absurd (by decide) c) (fun _ => ?_)
        refine lv_iload_n hx hb dX3_readUnit_51 rfl (lv_at hl 0 rfl) ?_
        refine lv_if_ne (tgt := 60) hx hb dX3_readUnit_52 (by decide) (fun _ => ?_) (fun c => absurd c (by decide))
        refine lv_aload_n hx hb dX3_readUnit_60 rfl (lv_at hl 2 rfl) ?_
        refine va_get (D := D) (cl := vwCl) (ci := 3) (v := .int x9) (C := RX3) (T := TX3) (N := 13) hx hb hts in_X3_readUnit_X3 hown hK hP 1 (wl_at (by decide) e12) rfl 10 (by decide) (hts (.fieldLink RX3 67 "EightReasons$Reader" "kind" "I") (List.mem_of_getElem? (i := 1) rfl)) (fun _ h9 => h9) rfl dX3_readUnit_61 ?_
        refine lv_bipush (v := 15) hx hb dX3_readUnit_64 (by decide) ?_
        refine lv_icmp_ne (tgt := 80) hx hb dX3_readUnit_66 (by decide) (fun c16 => ?_) (fun c16 => ?_)
        · have kc16 := c_ne c16
          exact absurd kc16 (by omega)
        · have kc16 := c_eq c16
          refine lv_sipush (v := 1000) hx hb dX3_readUnit_69 (by decide) ?_
          refine lv_aload_n hx hb dX3_readUnit_72 rfl (lv_at hl 2 rfl) ?_
          refine va_get (D := D) (cl := vwCl) (ci := 3) (v := .int x10) (C := RX3) (T := TX3) (N := 13) hx hb hts in_X3_readUnit_X3 hown hK hP 1 (wl_at (by decide) e12) rfl 11 (by decide) (hts (.fieldLink RX3 102 "EightReasons$Reader" "number" "I") (List.mem_of_getElem? (i := 3) rfl)) (fun _ h9 => h9) rfl dX3_readUnit_73 ?_
          refine lv_iadd hx hb dX3_readUnit_76 ?_
          refine lv_topi (fun x17 ex17 => ?_)
          refine lv_goto (tgt := 84) hx hb dX3_readUnit_77 (by decide) ?_
          refine lv_istore (lv' := [(4, .int x17), (3, .int 1), (2, .int 0), (0, .ref (ad 1)), (1, .int 2)]) hx hb dX3_readUnit_84 hl (by decide) rfl (fun ls hl => ?_)
          refine lv_iload_n hx hb dX3_readUnit_86 rfl (lv_at hl 2 rfl) ?_
          refine lv_if_eq (tgt := 100) hx hb dX3_readUnit_87 (by decide) (fun _ => ?_) (fun c => absurd (by decide) c)
          refine lv_iconst (v := 0) hx hb dX3_readUnit_100 (by decide) ?_
          refine lv_istore (lv' := [(5, .int 0), (4, .int x17), (3, .int 1), (2, .int 0), (0, .ref (ad 1)), (1, .int 2)]) hx hb dX3_readUnit_101 hl (by decide) rfl (fun ls hl => ?_)
          refine lv_aload_n hx hb dX3_readUnit_103 rfl (lv_at hl 4 rfl) ?_
          refine lv_aload_n hx hb dX3_readUnit_104 rfl (lv_at hl 4 rfl) ?_
          refine va_get (D := D) (cl := vwCl) (ci := 3) (v := .ref (ad t4)) (C := RX3) (T := TX3) (N := 13) hx hb hts in_X3_readUnit_X3 hown hK hP 1 (wl_at (by decide) e12) rfl 4 (by decide) (hts (.fieldLink RX3 22 "EightReasons$Reader" "suit" "LEightReasons$Suit;") (List.mem_of_getElem? (i := 4) rfl)) (fun _ h9 => h9) rfl dX3_readUnit_105 ?_
          obtain ⟨x18, x20, x21, x23, x24, e25, h19, h22⟩ := (ty_suit hT h5)
          refine va_get (D := D) (cl := vwCl) (ci := 5) (v := .ref (ad (t4 + 7))) (C := RX5) (T := TX5) (N := 12) hx hb hts in_X3_readUnit_X5 hown hK hP t4 (wl_at (x_lt (x_suit0 h5)) e25) rfl 11 (by decide) (hts (.fieldLink RX3 191 "EightReasons$Suit" "formula" "LEightReasons$Formula;") (List.mem_of_getElem? (i := 5) rfl)) (fun _ h9 => h9) rfl dX3_readUnit_108 ?_
          obtain ⟨x26, x28, x29, e31, h27, h30⟩ := (ty_suit7 hT h5)
          refine va_get (D := D) (cl := vwCl) (ci := 1) (v := .int x28) (C := RX1) (T := TX1) (N := 6) hx hb hts in_X3_readUnit_X1 hown hK hP (t4 + 7) (wl_at (x_lt (x_suit h5 (by decide))) e31) rfl 2 (by decide) (hts (.fieldLink RX3 215 "EightReasons$Formula" "units" "I") (List.mem_of_getElem? (i := 6) rfl)) (fun _ h9 => h9) rfl dX3_readUnit_111 ?_
          refine lv_bipush (v := 30) hx hb dX3_readUnit_114 (by decide) ?_
          have ttl_30 := tl_30
          refine lv_icmp_ge (tgt := 128) hx hb dX3_readUnit_116 (by decide) (fun c32 => ?_) (fun c32 => ?_)
          · have kc32 := c_le c32
            refine lv_iconst (v := 0) hx hb dX3_readUnit_128 (by decide) ?_
            refine tVI (As := [.int 0]) (rest := []) (i := 1) ⟨hx, hb, hml, hown, hts⟩ hK hE hP hD hS hA hAB (s_X3_begin_0 l B0 adK adV D cy ad fr0 tx rby rnx f hT (0 : Int32) (by omega) _) (cwV 1 hts gX3_readUnit_X3_begin rfl rfl rfl (by decide +kernel) ⟨Nat.le_of_ble_eq_true rfl, Nat.le_of_ble_eq_true rfl⟩) (by decide) 3 e12 rfl rfl hl.1 rfl (Nat.le_of_ble_eq_true rfl) dX3_readUnit_129 ⟨Nat.le_of_ble_eq_true rfl, Nat.le_of_ble_eq_true rfl⟩ (fun r f H locs hw hP hD hS => ?_)
            obtain ⟨hrs, x33, hT⟩ := hw
            obtain ⟨x34, rfl⟩ : ∃ q, q = r := ⟨_, rfl⟩
            rcases hrs with ⟨rfl, h35⟩ | ⟨rfl, h36⟩
            · exact False.elim (by omega)
            · refine lv_if_ne (tgt := 136) hx hb dX3_readUnit_132 (by decide) (fun c => absurd (by decide) c) (fun _ => ?_)
              exact tV hx hb hr hlk hP hS ⟨trivial, ⟨x33, hT⟩⟩ dX3_readUnit_135
          · have kc32 := c_nle c32
            refine lv_iload hx hb dX3_readUnit_119 (lv_at hl 0 rfl) ?_
            refine lv_if_ne (tgt := 128) hx hb dX3_readUnit_121 (by decide) (fun c => absurd (by decide) c) (fun _ => ?_)
            refine lv_iconst (v := 1) hx hb dX3_readUnit_124 (by decide) ?_
            refine lv_goto (tgt := 129) hx hb dX3_readUnit_125 (by decide) ?_
            have ttl_1 := tl_1
            refine tVI (As := [.int 1]) (rest := []) (i := 1) ⟨hx, hb, hml, hown, hts⟩ hK hE hP hD hS hA hAB (s_X3_begin_0 l B0 adK adV D cy ad fr0 tx rby rnx f hT (1 : Int32) (by omega) _) (cwV 1 hts gX3_readUnit_X3_begin rfl rfl rfl (by decide +kernel) ⟨Nat.le_of_ble_eq_true rfl, Nat.le_of_ble_eq_true rfl⟩) (by decide) 3 e12 rfl rfl hl.1 rfl (Nat.le_of_ble_eq_true rfl) dX3_readUnit_129 ⟨Nat.le_of_ble_eq_true rfl, Nat.le_of_ble_eq_true rfl⟩ (fun r f H locs hw hP hD hS => ?_)
            obtain ⟨hrs, x37, hT⟩ := hw
            obtain ⟨x38, rfl⟩ : ∃ q, q = r := ⟨_, rfl⟩
            rcases hrs with ⟨rfl, h39⟩ | ⟨rfl, h40⟩
            · refine lv_if_ne (tgt := 136) hx hb dX3_readUnit_132 (by decide) (fun _ => ?_) (fun c => absurd c (by decide))
              refine lv_aload_n hx hb dX3_readUnit_136 rfl (lv_at hl 4 rfl) ?_
              obtain ⟨x41, x42, t44, x46, x48, x49, x50, y51, e52, h43, h45, h47⟩ := (show okX3 ad rby x37 1 (f 1) from hT.1 1 (by decide))
              refine va_get (D := D) (cl := vwCl) (ci := 3) (v := .ref (ad t44)) (C := RX3) (T := TX3) (N := 13) hx hb hts in_X3_readUnit_X3 hown hK hP 1 (wl_at (by decide) e52) rfl 4 (by decide) (hts (.fieldLink RX3 22 "EightReasons$Reader" "suit" "LEightReasons$Suit;") (List.mem_of_getElem? (i := 4) rfl)) (fun _ h9 => h9) rfl dX3_readUnit_137 ?_
              obtain ⟨x53, x55, x56, x58, x59, e60, h54, h57⟩ := (ty_suit hT h45)
              refine va_get (D := D) (cl := vwCl) (ci := 5) (v := .ref (ad (t44 + 7))) (C := RX5) (T := TX5) (N := 12) hx hb hts in_X3_readUnit_X5 hown hK hP t44 (wl_at (x_lt (x_suit0 h45)) e60) rfl 11 (by decide) (hts (.fieldLink RX3 191 "EightReasons$Suit" "formula" "LEightReasons$Formula;") (List.mem_of_getElem? (i := 5) rfl)) (fun _ h9 => h9) rfl dX3_readUnit_140 ?_
              refine lv_dup hx hb dX3_readUnit_143 rfl ?_
              obtain ⟨x61, x63, x64, e66, h62, h65⟩ := (ty_suit7 hT h45)
              refine va_get (D := D) (cl := vwCl) (ci := 1) (v := .int x63) (C := RX1) (T := TX1) (N := 6) hx hb hts in_X3_readUnit_X1 hown hK hP (t44 + 7) (wl_at (x_lt (x_suit h45 (by decide))) e66) rfl 2 (by decide) (hts (.fieldLink RX3 215 "EightReasons$Formula" "units" "I") (List.mem_of_getElem? (i := 6) rfl)) (fun _ h9 => h9) rfl dX3_readUnit_144 ?_
              refine lv_iconst (v := 1) hx hb dX3_readUnit_147 (by decide) ?_
              refine lv_iadd hx hb dX3_readUnit_148 ?_
              refine lv_topi (fun x67 ex67 => ?_)
              refine va_put (D := D) (cl := vwCl) (ci := 1) (v := .int x67) (ty := tyX1 2) (C := RX1) (T := TX1) (N := 6) hx hb hts in_X3_readUnit_X1 tyX1 tyX1_ok nmX1 hown hK hP hD hS (t44 + 7) (wl_at (x_lt (x_suit h45 (by decide))) e66) rfl 2 (by decide) (hts (.fieldLink RX3 215 "EightReasons$Formula" "units" "I") (List.mem_of_getElem? (i := 6) rfl)) (fun _ h9 => h9) rfl (tyX1_ok 2 (by decide)) rfl rfl (Nat.le_of_ble_eq_true rfl) dX3_readUnit_149 (fun H locs hP hD hS => ?_)
              obtain ⟨f, hT, hP, hD, e68, hj69⟩ := stU (x_lt (x_suit h45 (by decide))) (TYx.up hT (x_suit h45 (by decide)) (ok_suit7 h45 ⟨x61, x67, x64, rfl, by omega, by omega⟩)) hP hD
              have e70 := (hj69 t44 (by omega)).trans e60
              refine lv_iload_n hx hb dX3_readUnit_152 rfl (lv_at hl 3 rfl) ?_
              refine lv_if_eq (tgt := 172) hx hb dX3_readUnit_153 (by decide) (fun _ => ?_) (fun c => absurd (by decide) c)
              refine lv_aload_n hx hb dX3_readUnit_172 rfl (lv_at hl 4 rfl) ?_
              obtain ⟨x71, x72, t74, x76, x78, x79, x80, y81, e82, h73, h75, h77⟩ := (show okX3 ad rby x37 1 (f 1) from hT.1 1 (by decide))
              refine va_get (D := D) (cl := vwCl) (ci := 3) (v := .ref (ad t74)) (C := RX3) (T := TX3) (N := 13) hx hb hts in_X3_readUnit_X3 hown hK hP 1 (wl_at (by decide) e82) rfl 4 (by decide) (hts (.fieldLink RX3 22 "EightReasons$Reader" "suit" "LEightReasons$Suit;") (List.mem_of_getElem? (i := 4) rfl)) (fun _ h9 => h9) rfl dX3_readUnit_173 ?_
              obtain ⟨x83, x85, x86, x88, x89, e90, h84, h87⟩ := (ty_suit hT h75)
              refine va_get (D := D) (cl := vwCl) (ci := 5) (v := .ref (ad (t74 + 7))) (C := RX5) (T := TX5) (N := 12) hx hb hts in_X3_readUnit_X5 hown hK hP t74 (wl_at (x_lt (x_suit0 h75)) e90) rfl 11 (by decide) (hts (.fieldLink RX3 191 "EightReasons$Suit" "formula" "LEightReasons$Formula;") (List.mem_of_getElem? (i := 5) rfl)) (fun _ h9 => h9) rfl dX3_readUnit_176 ?_
              refine lv_iload hx hb dX3_readUnit_179 (lv_at hl 1 rfl) ?_
              obtain ⟨x91, x93, x94, e96, h92, h95⟩ := (ty_suit7 hT h75)
              refine tVV (As := [.int x17]) (rest := []) (i := (t74 + 7)) ⟨hx, hb, hml, hown, hts⟩ hK hE hP hD hS hA hAB (s_X1_add_0 l B0 adK adV D cy ad fr0 tx rby x37 f hT t74 h75 x17 _) (cwV 1 hts gX3_readUnit_X1_add rfl rfl rfl (by decide +kernel) ⟨Nat.le_of_ble_eq_true rfl, Nat.le_of_ble_eq_true rfl⟩) (x_lt (x_suit h75 (by decide))) 1 e96 rfl rfl hl.1 rfl (Nat.le_of_ble_eq_true rfl) dX3_readUnit_181 ⟨Nat.le_of_ble_eq_true rfl, Nat.le_of_ble_eq_true rfl⟩ (fun f H locs hw hP hD hS => ?_)
              obtain ⟨hrs, hT⟩ := hw
              exact tV hx hb hr hlk hP hS ⟨trivial, ⟨x37, hT⟩⟩ dX3_readUnit_184
            · exact False.elim (by omega)
    · have kc14 := c_ne c14
      refine lv_aload_n hx hb dX3_readUnit_24 rfl (lv_at hl 1 rfl) ?_
      refine va_get (D := D) (cl := vwCl) (ci := 3) (v := .int x9) (C := RX3) (T := TX3) (N := 13) hx hb hts in_X3_readUnit_X3 hown hK hP 1 (wl_at (by decide) e12) rfl 10 (by decide) (hts (.fieldLink RX3 67 "EightReasons$Reader" "kind" "I") (List.mem_of_getElem? (i := 1) rfl)) (fun _ h9 => h9) rfl dX3_readUnit_25 ?_
      refine tSI (As := [.int x9]) (rest := []) ⟨hx, hb, hml, hown, hts⟩ hK hE hP hD hS hA hAB (s_X1_isUnitWord_0 l B0 adK adV D cy ad f x9 _) (va_cwS 1 hts gX3_readUnit_X1_isUnitWord rfl rfl rfl (by decide +kernel) ⟨Nat.le_of_ble_eq_true rfl, Nat.le_of_ble_eq_true rfl⟩) rfl hl.1 rfl (Nat.le_of_ble_eq_true rfl) dX3_readUnit_28 ⟨Nat.le_of_ble_eq_true rfl, Nat.le_of_ble_eq_true rfl⟩ (fun r g H locs hw hP hD hS => ?_)
      obtain ⟨hrs, rfl⟩ := hw
      obtain ⟨x97, rfl⟩ : ∃ q, q = r := ⟨_, rfl⟩
      rcases hrs with ⟨rfl, h98, h99⟩ | rfl
      · refine lv_if_eq (tgt := 38) hx hb dX3_readUnit_31 (by decide) (fun c => absurd c (by decide)) (fun _ => ?_)
        refine lv_iconst (v := 1) hx hb dX3_readUnit_34 (by decide) ?_
        refine lv_goto (tgt := 39) hx hb dX3_readUnit_35 (by decide) ?_
        refine lv_istore_n (lv' := [(3, .int 1), (2, .int 0), (0, .ref (ad 1)), (1, .int 2)]) hx hb dX3_readUnit_39 rfl hl (by decide) rfl (fun ls hl => ?_)
        refine lv_aload_n hx hb dX3_readUnit_40 rfl (lv_at hl 2 rfl) ?_
        refine va_get (D := D) (cl := vwCl) (ci := 3) (v := .int x1) (C := RX3) (T := TX3) (N := 13) hx hb hts in_X3_readUnit_X3 hown hK hP 1 (wl_at (by decide) e12) rfl 0 (by decide) (hts (.fieldLink RX3 55 "EightReasons$Reader" "fault" "I") (List.mem_of_getElem? (i := 2) rfl)) (fun _ h9 => h9) rfl dX3_readUnit_41 ?_
        have ttl_0 := tl_0
        refine lv_if_ne (tgt := 55) hx hb dX3_readUnit_44 (by decide) (fun c100 => ?_) (fun c100 => ?_)
        · have kc100 := c_ne c100
          refine lv_aload_n hx hb dX3_readUnit_55 rfl (lv_at hl 2 rfl) ?_
          refine tVV (As := []) (rest := []) (i := 1) ⟨hx, hb, hml, hown, hts⟩ hK hE hP hD hS hA hAB (s_X3_refuse_0 l B0 adK adV D cy ad fr0 tx rby rnx f hT _) (cwV 0 hts gX3_readUnit_X3_refuse rfl rfl rfl (by decide +kernel) ⟨Nat.le_of_ble_eq_true rfl, Nat.le_of_ble_eq_true rfl⟩) (by decide) 3 e12 rfl rfl hl.1 rfl (Nat.le_of_ble_eq_true rfl) dX3_readUnit_56 ⟨Nat.le_of_ble_eq_true rfl, Nat.le_of_ble_eq_true rfl⟩ (fun f H locs hw hP hD hS => ?_)
          obtain ⟨hrs, hT⟩ := hw
          exact tV hx hb hr hlk hP hS ⟨trivial, ⟨rnx, hT⟩⟩ dX3_readUnit_59
        · have kc100 := c_eq c100
          refine lv_iload_n hx hb dX3_readUnit_47 rfl (lv_at hl 1 rfl) ?_
          refine lv_if_ne (tgt := 60) hx hb dX3_readUnit_48 (by decide) (fun c => absurd (by decide) c) (fun _ => ?_)
          refine lv_iload_n hx hb dX3_readUnit_51 rfl (lv_at hl 0 rfl) ?_
          refine lv_if_ne (tgt := 60) hx hb dX3_readUnit_52 (by decide) (fun _ => ?_) (fun c => absurd c (by decide))
          refine lv_aload_n hx hb dX3_readUnit_60 rfl (lv_at hl 2 rfl) ?_
          refine va_get (D := D) (cl := vwCl) (ci := 3) (v := .int x9) (C := RX3) (T := TX3) (N := 13) hx hb hts in_X3_readUnit_X3 hown hK hP 1 (wl_at (by decide) e12) rfl 10 (by decide) (hts (.fieldLink RX3 67 "EightReasons$Reader" "kind" "I") (List.mem_of_getElem? (i := 1) rfl)) (fun _ h9 => h9) rfl dX3_readUnit_61 ?_
          refine lv_bipush (v := 15) hx hb dX3_readUnit_64 (by decide) ?_
          refine lv_icmp_ne (tgt := 80) hx hb dX3_readUnit_66 (by decide) (fun c101 => ?_) (fun c101 => ?_)
          · have kc101 := c_ne c101
            refine lv_aload_n hx hb dX3_readUnit_80 rfl (lv_at hl 2 rfl) ?_
            refine va_get (D := D) (cl := vwCl) (ci := 3) (v := .int x9) (C := RX3) (T := TX3) (N := 13) hx hb hts in_X3_readUnit_X3 hown hK hP 1 (wl_at (by decide) e12) rfl 10 (by decide) (hts (.fieldLink RX3 67 "EightReasons$Reader" "kind" "I") (List.mem_of_getElem? (i := 1) rfl)) (fun _ h9 => h9) rfl dX3_readUnit_81 ?_
            refine lv_istore (lv' := [(4, .int x9), (3, .int 1), (2, .int 0), (0, .ref (ad 1)), (1, .int 2)]) hx hb dX3_readUnit_84 hl (by decide) rfl (fun ls hl => ?_)
            refine lv_iload_n hx hb dX3_readUnit_86 rfl (lv_at hl 2 rfl) ?_
            refine lv_if_eq (tgt := 100) hx hb dX3_readUnit_87 (by decide) (fun _ => ?_) (fun c => absurd (by decide) c)
            refine lv_iconst (v := 0) hx hb dX3_readUnit_100 (by decide) ?_
            refine lv_istore (lv' := [(5, .int 0), (4, .int x9), (3, .int 1), (2, .int 0), (0, .ref (ad 1)), (1, .int 2)]) hx hb dX3_readUnit_101 hl (by decide) rfl (fun ls hl => ?_)
            refine lv_aload_n hx hb dX3_readUnit_103 rfl (lv_at hl 4 rfl) ?_
            refine lv_aload_n hx hb dX3_readUnit_104 rfl (lv_at hl 4 rfl) ?_
            refine va_get (D := D) (cl := vwCl) (ci := 3) (v := .ref (ad t4)) (C := RX3) (T := TX3) (N := 13) hx hb hts in_X3_readUnit_X3 hown hK hP 1 (wl_at (by decide) e12) rfl 4 (by decide) (hts (.fieldLink RX3 22 "EightReasons$Reader" "suit" "LEightReasons$Suit;") (List.mem_of_getElem? (i := 4) rfl)) (fun _ h9 => h9) rfl dX3_readUnit_105 ?_
            obtain ⟨x102, x104, x105, x107, x108, e109, h103, h106⟩ := (ty_suit hT h5)
            refine va_get (D := D) (cl := vwCl) (ci := 5) (v := .ref (ad (t4 + 7))) (C := RX5) (T := TX5) (N := 12) hx hb hts in_X3_readUnit_X5 hown hK hP t4 (wl_at (x_lt (x_suit0 h5)) e109) rfl 11 (by decide) (hts (.fieldLink RX3 191 "EightReasons$Suit" "formula" "LEightReasons$Formula;") (List.mem_of_getElem? (i := 5) rfl)) (fun _ h9 => h9) rfl dX3_readUnit_108 ?_
            obtain ⟨x110, x112, x113, e115, h111, h114⟩ := (ty_suit7 hT h5)
            refine va_get (D := D) (cl := vwCl) (ci := 1) (v := .int x112) (C := RX1) (T := TX1) (N := 6) hx hb hts in_X3_readUnit_X1 hown hK hP (t4 + 7) (wl_at (x_lt (x_suit h5 (by decide))) e115) rfl 2 (by decide) (hts (.fieldLink RX3 215 "EightReasons$Formula" "units" "I") (List.mem_of_getElem? (i := 6) rfl)) (fun _ h9 => h9) rfl dX3_readUnit_111 ?_
            refine lv_bipush (v := 30) hx hb dX3_readUnit_114 (by decide) ?_
            have ttl_30 := tl_30
            refine lv_icmp_ge (tgt := 128) hx hb dX3_readUnit_116 (by decide) (fun c116 => ?_) (fun c116 => ?_)
            · have kc116 := c_le c116
              refine lv_iconst (v := 0) hx hb dX3_readUnit_128 (by decide) ?_
              refine tVI (As := [.int 0]) (rest := []) (i := 1) ⟨hx, hb, hml, hown, hts⟩ hK hE hP hD hS hA hAB (s_X3_begin_0 l B0 adK adV D cy ad fr0 tx rby rnx f hT (0 : Int32) (by omega) _) (cwV 1 hts gX3_readUnit_X3_begin rfl rfl rfl (by decide +kernel) ⟨Nat.le_of_ble_eq_true rfl, Nat.le_of_ble_eq_true rfl⟩) (by decide) 3 e12 rfl rfl hl.1 rfl (Nat.le_of_ble_eq_true rfl) dX3_readUnit_129 ⟨Nat.le_of_ble_eq_true rfl, Nat.le_of_ble_eq_true rfl⟩ (fun r f H locs hw hP hD hS => ?_)
              obtain ⟨hrs, x117, hT⟩ := hw
              obtain ⟨x118, rfl⟩ : ∃ q, q = r := ⟨_, rfl⟩
              rcases hrs with ⟨rfl, h119⟩ | ⟨rfl, h120⟩
              · exact False.elim (by omega)
              · refine lv_if_ne (tgt := 136) hx hb dX3_readUnit_132 (by decide) (fun c => absurd (by decide) c) (fun _ => ?_)
                exact tV hx hb hr hlk hP hS ⟨trivial, ⟨x117, hT⟩⟩ dX3_readUnit_135
            · have kc116 := c_nle c116
              refine lv_iload hx hb dX3_readUnit_119 (lv_at hl 0 rfl) ?_
              refine lv_if_ne (tgt := 128) hx hb dX3_readUnit_121 (by decide) (fun c => absurd (by decide) c) (fun _ => ?_)
              refine lv_iconst (v := 1) hx hb dX3_readUnit_124 (by decide) ?_
              refine lv_goto (tgt := 129) hx hb dX3_readUnit_125 (by decide) ?_
              have ttl_1 := tl_1
              refine tVI (As := [.int 1]) (rest := []) (i := 1) ⟨hx, hb, hml, hown, hts⟩ hK hE hP hD hS hA hAB (s_X3_begin_0 l B0 adK adV D cy ad fr0 tx rby rnx f hT (1 : Int32) (by omega) _) (cwV 1 hts gX3_readUnit_X3_begin rfl rfl rfl (by decide +kernel) ⟨Nat.le_of_ble_eq_true rfl, Nat.le_of_ble_eq_true rfl⟩) (by decide) 3 e12 rfl rfl hl.1 rfl (Nat.le_of_ble_eq_true rfl) dX3_readUnit_129 ⟨Nat.le_of_ble_eq_true rfl, Nat.le_of_ble_eq_true rfl⟩ (fun r f H locs hw hP hD hS => ?_)
              obtain ⟨hrs, x121, hT⟩ := hw
              obtain ⟨x122, rfl⟩ : ∃ q, q = r := ⟨_, rfl⟩
              rcases hrs with ⟨rfl, h123⟩ | ⟨rfl, h124⟩
              · refine lv_if_ne (tgt := 136) hx hb dX3_readUnit_132 (by decide) (fun _ => ?_) (fun c => absurd c (by decide))
                refine lv_aload_n hx hb dX3_readUnit_136 rfl (lv_at hl 4 rfl) ?_
                obtain ⟨x125, x126, t128, x130, x132, x133, x134, y135, e136, h127, h129, h131⟩ := (show okX3 ad rby x121 1 (f 1) from hT.1 1 (by decide))
                refine va_get (D := D) (cl := vwCl) (ci := 3) (v := .ref (ad t128)) (C := RX3) (T := TX3) (N := 13) hx hb hts in_X3_readUnit_X3 hown hK hP 1 (wl_at (by decide) e136) rfl 4 (by decide) (hts (.fieldLink RX3 22 "EightReasons$Reader" "suit" "LEightReasons$Suit;") (List.mem_of_getElem? (i := 4) rfl)) (fun _ h9 => h9) rfl dX3_readUnit_137 ?_
                obtain ⟨x137, x139, x140, x142, x143, e144, h138, h141⟩ := (ty_suit hT h129)
                refine va_get (D := D) (cl := vwCl) (ci := 5) (v := .ref (ad (t128 + 7))) (C := RX5) (T := TX5) (N := 12) hx hb hts in_X3_readUnit_X5 hown hK hP t128 (wl_at (x_lt (x_suit0 h129)) e144) rfl 11 (by decide) (hts (.fieldLink RX3 191 "EightReasons$Suit" "formula" "LEightReasons$Formula;") (List.mem_of_getElem? (i := 5) rfl)) (fun _ h9 => h9) rfl dX3_readUnit_140 ?_
                refine lv_dup hx hb dX3_readUnit_143 rfl ?_
                obtain ⟨x145, x147, x148, e150, h146, h149⟩ := (ty_suit7 hT h129)
                refine va_get (D := D) (cl := vwCl) (ci := 1) (v := .int x147) (C := RX1) (T := TX1) (N := 6) hx hb hts in_X3_readUnit_X1 hown hK hP (t128 + 7) (wl_at (x_lt (x_suit h129 (by decide))) e150) rfl 2 (by decide) (hts (.fieldLink RX3 215 "EightReasons$Formula" "units" "I") (List.mem_of_getElem? (i := 6) rfl)) (fun _ h9 => h9) rfl dX3_readUnit_144 ?_
                refine lv_iconst (v := 1) hx hb dX3_readUnit_147 (by decide) ?_
                refine lv_iadd hx hb dX3_readUnit_148 ?_
                refine lv_topi (fun x151 ex151 => ?_)
                refine va_put (D := D) (cl := vwCl) (ci := 1) (v := .int x151) (ty := tyX1 2) (C := RX1) (T := TX1) (N := 6) hx hb hts in_X3_readUnit_X1 tyX1 tyX1_ok nmX1 hown hK hP hD hS (t128 + 7) (wl_at (x_lt (x_suit h129 (by decide))) e150) rfl 2 (by decide) (hts (.fieldLink RX3 215 "EightReasons$Formula" "units" "I") (List.mem_of_getElem? (i := 6) rfl)) (fun _ h9 => h9) rfl (tyX1_ok 2 (by decide)) rfl rfl (Nat.le_of_ble_eq_true rfl) dX3_readUnit_149 (fun H locs hP hD hS => ?_)
                obtain ⟨f, hT, hP, hD, e152, hj153⟩ := stU (x_lt (x_suit h129 (by decide))) (TYx.up hT (x_suit h129 (by decide)) (ok_suit7 h129 ⟨x145, x151, x148, rfl, by omega, by omega⟩)) hP hD
                have e154 := (hj153 t128 (by omega)).trans e144
                refine lv_iload_n hx hb dX3_readUnit_152 rfl (lv_at hl 3 rfl) ?_
                refine lv_if_eq (tgt := 172) hx hb dX3_readUnit_153 (by decide) (fun _ => ?_) (fun c => absurd (by decide) c)
                refine lv_aload_n hx hb dX3_readUnit_172 rfl (lv_at hl 4 rfl) ?_
                obtain ⟨x155, x156, t158, x160, x162, x163, x164, y165, e166, h157, h159, h161⟩ := (show okX3 ad rby x121 1 (f 1) from hT.1 1 (by decide))
                refine va_get (D := D) (cl := vwCl) (ci := 3) (v := .ref (ad t158)) (C := RX3) (T := TX3) (N := 13) hx hb hts in_X3_readUnit_X3 hown hK hP 1 (wl_at (by decide) e166) rfl 4 (by decide) (hts (.fieldLink RX3 22 "EightReasons$Reader" "suit" "LEightReasons$Suit;") (List.mem_of_getElem? (i := 4) rfl)) (fun _ h9 => h9) rfl dX3_readUnit_173 ?_
                obtain ⟨x167, x169, x170, x172, x173, e174, h168, h171⟩ := (ty_suit hT h159)
                refine va_get (D := D) (cl := vwCl) (ci := 5) (v := .ref (ad (t158 + 7))) (C := RX5) (T := TX5) (N := 12) hx hb hts in_X3_readUnit_X5 hown hK hP t158 (wl_at (x_lt (x_suit0 h159)) e174) rfl 11 (by decide) (hts (.fieldLink RX3 191 "EightReasons$Suit" "formula" "LEightReasons$Formula;") (List.mem_of_getElem? (i := 5) rfl)) (fun _ h9 => h9) rfl dX3_readUnit_176 ?_
                refine lv_iload hx hb dX3_readUnit_179 (lv_at hl 1 rfl) ?_
                obtain ⟨x175, x177, x178, e180, h176, h179⟩ := (ty_suit7 hT h159)
                refine tVV (As := [.int x9]) (rest := []) (i := (t158 + 7)) ⟨hx, hb, hml, hown, hts⟩ hK hE hP hD hS hA hAB (s_X1_add_0 l B0 adK adV D cy ad fr0 tx rby x121 f hT t158 h159 x9 _) (cwV 1 hts gX3_readUnit_X1_add rfl rfl rfl (by decide +kernel) ⟨Nat.le_of_ble_eq_true rfl, Nat.le_of_ble_eq_true rfl⟩) (x_lt (x_suit h159 (by decide))) 1 e180 rfl rfl hl.1 rfl (Nat.le_of_ble_eq_true rfl) dX3_readUnit_181 ⟨Nat.le_of_ble_eq_true rfl, Nat.le_of_ble_eq_true rfl⟩ (fun f H locs hw hP hD hS => ?_)
                obtain ⟨hrs, hT⟩ := hw
                exact tV hx hb hr hlk hP hS ⟨trivial, ⟨x121, hT⟩⟩ dX3_readUnit_184
              · exact False.elim (by omega)
          · have kc101 := c_eq c101
            exact absurd kc101 (by omega)
      · refine lv_if_eq (tgt := 38) hx hb dX3_readUnit_31 (by decide) (fun _ => ?_) (fun c => absurd (by decide) c)
        refine lv_iconst (v := 0) hx hb dX3_readUnit_38 (by decide) ?_
        refine lv_istore_n (lv' := [(3, .int 0), (2, .int 0), (0, .ref (ad 1)), (1, .int 2)]) hx hb dX3_readUnit_39 rfl hl (by decide) rfl (fun ls hl => ?_)
        refine lv_aload_n hx hb dX3_readUnit_40 rfl (lv_at hl 2 rfl) ?_
        refine va_get (D := D) (cl := vwCl) (ci := 3) (v := .int x1) (C := RX3) (T := TX3) (N := 13) hx hb hts in_X3_readUnit_X3 hown hK hP 1 (wl_at (by decide) e12) rfl 0 (by decide) (hts (.fieldLink RX3 55 "EightReasons$Reader" "fault" "I") (List.mem_of_getElem? (i := 2) rfl)) (fun _ h9 => h9) rfl dX3_readUnit_41 ?_
        have ttl_0 := tl_0
        refine lv_if_ne (tgt := 55) hx hb dX3_readUnit_44 (by decide) (fun c181 => ?_) (fun c181 => ?_)
        · have kc181 := c_ne c181
          refine lv_aload_n hx hb dX3_readUnit_55 rfl (lv_at hl 2 rfl) ?_
          refine tVV (As := []) (rest := []) (i := 1) ⟨hx, hb, hml, hown, hts⟩ hK hE hP hD hS hA hAB (s_X3_refuse_0 l B0 adK adV D cy ad fr0 tx rby rnx f hT _) (cwV 0 hts gX3_readUnit_X3_refuse rfl rfl rfl (by decide +kernel) ⟨Nat.le_of_ble_eq_true rfl, Nat.le_of_ble_eq_true rfl⟩) (by decide) 3 e12 rfl rfl hl.1 rfl (Nat.le_of_ble_eq_true rfl) dX3_readUnit_56 ⟨Nat.le_of_ble_eq_true rfl, Nat.le_of_ble_eq_true rfl⟩ (fun f H locs hw hP hD hS => ?_)
          obtain ⟨hrs, hT⟩ := hw
          exact tV hx hb hr hlk hP hS ⟨trivial, ⟨rnx, hT⟩⟩ dX3_readUnit_59
        · have kc181 := c_eq c181
          refine lv_iload_n hx hb dX3_readUnit_47 rfl (lv_at hl 1 rfl) ?_
          refine lv_if_ne (tgt := 60) hx hb dX3_readUnit_48 (by decide) (fun c => absurd (by decide) c) (fun _ => ?_)
          refine lv_iload_n hx hb dX3_readUnit_51 rfl (lv_at hl 0 rfl) ?_
          refine lv_if_ne (tgt := 60) hx hb dX3_readUnit_52 (by decide) (fun c => absurd (by decide) c) (fun _ => ?_)
          refine lv_aload_n hx hb dX3_readUnit_55 rfl (lv_at hl 2 rfl) ?_
          refine tVV (As := []) (rest := []) (i := 1) ⟨hx, hb, hml, hown, hts⟩ hK hE hP hD hS hA hAB (s_X3_refuse_0 l B0 adK adV D cy ad fr0 tx rby rnx f hT _) (cwV 0 hts gX3_readUnit_X3_refuse rfl rfl rfl (by decide +kernel) ⟨Nat.le_of_ble_eq_true rfl, Nat.le_of_ble_eq_true rfl⟩) (by decide) 3 e12 rfl rfl hl.1 rfl (Nat.le_of_ble_eq_true rfl) dX3_readUnit_56 ⟨Nat.le_of_ble_eq_true rfl, Nat.le_of_ble_eq_true rfl⟩ (fun f H locs hw hP hD hS => ?_)
          obtain ⟨hrs, hT⟩ := hw
          exact tV hx hb hr hlk hP hS ⟨trivial, ⟨rnx, hT⟩⟩ dX3_readUnit_59
  · have kc13 := c_eq c13
    refine lv_iconst (v := 1) hx hb dX3_readUnit_9 (by decide) ?_
    refine lv_goto (tgt := 14) hx hb dX3_readUnit_10 (by decide) ?_
    refine lv_istore_n (lv' := [(2, .int 1), (0, .ref (ad 1)), (1, .int 2)]) hx hb dX3_readUnit_14 rfl hl (by decide) rfl (fun ls hl => ?_)
    refine lv_aload_n hx hb dX3_readUnit_15 rfl (lv_at hl 1 rfl) ?_
    refine va_get (D := D) (cl := vwCl) (ci := 3) (v := .int x9) (C := RX3) (T := TX3) (N := 13) hx hb hts in_X3_readUnit_X3 hown hK hP 1 (wl_at (by decide) e12) rfl 10 (by decide) (hts (.fieldLink RX3 67 "EightReasons$Reader" "kind" "I") (List.mem_of_getElem? (i := 1) rfl)) (fun _ h9 => h9) rfl dX3_readUnit_16 ?_
    refine lv_bipush (v := 15) hx hb dX3_readUnit_19 (by decide) ?_
    have ttl_15 := tl_15
    refine lv_icmp_eq (tgt := 34) hx hb dX3_readUnit_21 (by decide) (fun c182 => ?_) (fun c182 => ?_)
    · have kc182 := c_eq c182
      exact absurd kc182 (by omega)
    · have kc182 := c_ne c182
      refine lv_aload_n hx hb dX3_readUnit_24 rfl (lv_at hl 1 rfl) ?_
      refine va_get (D := D) (cl := vwCl) (ci := 3) (v := .int x9) (C := RX3) (T := TX3) (N := 13) hx hb hts in_X3_readUnit_X3 hown hK hP 1 (wl_at (by decide) e12) rfl 10 (by decide) (hts (.fieldLink RX3 67 "EightReasons$Reader" "kind" "I") (List.mem_of_getElem? (i := 1) rfl)) (fun _ h9 => h9) rfl dX3_readUnit_25 ?_
      refine tSI (As := [.int x9]) (rest := []) ⟨hx, hb, hml, hown, hts⟩ hK hE hP hD hS hA hAB (s_X1_isUnitWord_0 l B0 adK adV D cy ad f x9 _) (va_cwS 1 hts gX3_readUnit_X1_isUnitWord rfl rfl rfl (by decide +kernel) ⟨Nat.le_of_ble_eq_true rfl, Nat.le_of_ble_eq_true rfl⟩) rfl hl.1 rfl (Nat.le_of_ble_eq_true rfl) dX3_readUnit_28 ⟨Nat.le_of_ble_eq_true rfl, Nat.le_of_ble_eq_true rfl⟩ (fun r g H locs hw hP hD hS => ?_)
      obtain ⟨hrs, rfl⟩ := hw
      obtain ⟨x183, rfl⟩ : ∃ q, q = r := ⟨_, rfl⟩
      rcases hrs with ⟨rfl, h184, h185⟩ | rfl
      · exact False.elim (by omega)
      · refine lv_if_eq (tgt := 38) hx hb dX3_readUnit_31 (by decide) (fun _ => ?_) (fun c => absurd (by decide) c)
        refine lv_iconst (v := 0) hx hb dX3_readUnit_38 (by decide) ?_
        refine lv_istore_n (lv' := [(3, .int 0), (2, .int 1), (0, .ref (ad 1)), (1, .int 2)]) hx hb dX3_readUnit_39 rfl hl (by decide) rfl (fun ls hl => ?_)
        refine lv_aload_n hx hb dX3_readUnit_40 rfl (lv_at hl 2 rfl) ?_
        refine va_get (D := D) (cl := vwCl) (ci := 3) (v := .int x1) (C := RX3) (T := TX3) (N := 13) hx hb hts in_X3_readUnit_X3 hown hK hP 1 (wl_at (by decide) e12) rfl 0 (by decide) (hts (.fieldLink RX3 55 "EightReasons$Reader" "fault" "I") (List.mem_of_getElem? (i := 2) rfl)) (fun _ h9 => h9) rfl dX3_readUnit_41 ?_
        have ttl_0 := tl_0
        refine lv_if_ne (tgt := 55) hx hb dX3_readUnit_44 (by decide) (fun c186 => ?_) (fun c186 => ?_)
        · have kc186 := c_ne c186
          refine lv_aload_n hx hb dX3_readUnit_55 rfl (lv_at hl 2 rfl) ?_
          refine tVV (As := []) (rest := []) (i := 1) ⟨hx, hb, hml, hown, hts⟩ hK hE hP hD hS hA hAB (s_X3_refuse_0 l B0 adK adV D cy ad fr0 tx rby rnx f hT _) (cwV 0 hts gX3_readUnit_X3_refuse rfl rfl rfl (by decide +kernel) ⟨Nat.le_of_ble_eq_true rfl, Nat.le_of_ble_eq_true rfl⟩) (by decide) 3 e12 rfl rfl hl.1 rfl (Nat.le_of_ble_eq_true rfl) dX3_readUnit_56 ⟨Nat.le_of_ble_eq_true rfl, Nat.le_of_ble_eq_true rfl⟩ (fun f H locs hw hP hD hS => ?_)
          obtain ⟨hrs, hT⟩ := hw
          exact tV hx hb hr hlk hP hS ⟨trivial, ⟨rnx, hT⟩⟩ dX3_readUnit_59
        · have kc186 := c_eq c186
          refine lv_iload_n hx hb dX3_readUnit_47 rfl (lv_at hl 1 rfl) ?_
          refine lv_if_ne (tgt := 60) hx hb dX3_readUnit_48 (by decide) (fun _ => ?_) (fun c => absurd c (by decide))
          refine lv_aload_n hx hb dX3_readUnit_60 rfl (lv_at hl 2 rfl) ?_
          refine va_get (D := D) (cl := vwCl) (ci := 3) (v := .int x9) (C := RX3) (T := TX3) (N := 13) hx hb hts in_X3_readUnit_X3 hown hK hP 1 (wl_at (by decide) e12) rfl 10 (by decide) (hts (.fieldLink RX3 67 "EightReasons$Reader" "kind" "I") (List.mem_of_getElem? (i := 1) rfl)) (fun _ h9 => h9) rfl dX3_readUnit_61 ?_
          refine lv_bipush (v := 15) hx hb dX3_readUnit_64 (by decide) ?_
          refine lv_icmp_ne (tgt := 80) hx hb dX3_readUnit_66 (by decide) (fun c187 => ?_) (fun c187 => ?_)
          · have kc187 := c_ne c187
            refine lv_aload_n hx hb dX3_readUnit_80 rfl (lv_at hl 2 rfl) ?_
            refine va_get (D := D) (cl := vwCl) (ci := 3) (v := .int x9) (C := RX3) (T := TX3) (N := 13) hx hb hts in_X3_readUnit_X3 hown hK hP 1 (wl_at (by decide) e12) rfl 10 (by decide) (hts (.fieldLink RX3 67 "EightReasons$Reader" "kind" "I") (List.mem_of_getElem? (i := 1) rfl)) (fun _ h9 => h9) rfl dX3_readUnit_81 ?_
            refine lv_istore (lv' := [(4, .int x9), (3, .int 0), (2, .int 1), (0, .ref (ad 1)), (1, .int 2)]) hx hb dX3_readUnit_84 hl (by decide) rfl (fun ls hl => ?_)
            refine lv_iload_n hx hb dX3_readUnit_86 rfl (lv_at hl 2 rfl) ?_
            refine lv_if_eq (tgt := 100) hx hb dX3_readUnit_87 (by decide) (fun c => absurd c (by decide)) (fun _ => ?_)
            refine lv_iload_n hx hb dX3_readUnit_90 rfl (lv_at hl 4 rfl) ?_
            refine lv_bipush (v := 7) hx hb dX3_readUnit_91 (by decide) ?_
            refine lv_icmp_lt (tgt := 100) hx hb dX3_readUnit_93 (by decide) (fun _ => ?_) (fun c => absurd (by decide) c)
            refine lv_iconst (v := 0) hx hb dX3_readUnit_100 (by decide) ?_
            refine lv_istore (lv' := [(5, .int 0), (4, .int x9), (3, .int 0), (2, .int 1), (0, .ref (ad 1)), (1, .int 2)]) hx hb dX3_readUnit_101 hl (by decide) rfl (fun ls hl => ?_)
            refine lv_aload_n hx hb dX3_readUnit_103 rfl (lv_at hl 4 rfl) ?_
            refine lv_aload_n hx hb dX3_readUnit_104 rfl (lv_at hl 4 rfl) ?_
            refine va_get (D := D) (cl := vwCl) (ci := 3) (v := .ref (ad t4)) (C := RX3) (T := TX3) (N := 13) hx hb hts in_X3_readUnit_X3 hown hK hP 1 (wl_at (by decide) e12) rfl 4 (by decide) (hts (.fieldLink RX3 22 "EightReasons$Reader" "suit" "LEightReasons$Suit;") (List.mem_of_getElem? (i := 4) rfl)) (fun _ h9 => h9) rfl dX3_readUnit_105 ?_
            obtain ⟨x188, x190, x191, x193, x194, e195, h189, h192⟩ := (ty_suit hT h5)
            refine va_get (D := D) (cl := vwCl) (ci := 5) (v := .ref (ad (t4 + 7))) (C := RX5) (T := TX5) (N := 12) hx hb hts in_X3_readUnit_X5 hown hK hP t4 (wl_at (x_lt (x_suit0 h5)) e195) rfl 11 (by decide) (hts (.fieldLink RX3 191 "EightReasons$Suit" "formula" "LEightReasons$Formula;") (List.mem_of_getElem? (i := 5) rfl)) (fun _ h9 => h9) rfl dX3_readUnit_108 ?_
            obtain ⟨x196, x198, x199, e201, h197, h200⟩ := (ty_suit7 hT h5)
            refine va_get (D := D) (cl := vwCl) (ci := 1) (v := .int x198) (C := RX1) (T := TX1) (N := 6) hx hb hts in_X3_readUnit_X1 hown hK hP (t4 + 7) (wl_at (x_lt (x_suit h5 (by decide))) e201) rfl 2 (by decide) (hts (.fieldLink RX3 215 "EightReasons$Formula" "units" "I") (List.mem_of_getElem? (i := 6) rfl)) (fun _ h9 => h9) rfl dX3_readUnit_111 ?_
            refine lv_bipush (v := 30) hx hb dX3_readUnit_114 (by decide) ?_
            have ttl_30 := tl_30
            refine lv_icmp_ge (tgt := 128) hx hb dX3_readUnit_116 (by decide) (fun c202 => ?_) (fun c202 => ?_)
            · have kc202 := c_le c202
              refine lv_iconst (v := 0) hx hb dX3_readUnit_128 (by decide) ?_
              refine tVI (As := [.int 0]) (rest := []) (i := 1) ⟨hx, hb, hml, hown, hts⟩ hK hE hP hD hS hA hAB (s_X3_begin_0 l B0 adK adV D cy ad fr0 tx rby rnx f hT (0 : Int32) (by omega) _) (cwV 1 hts gX3_readUnit_X3_begin rfl rfl rfl (by decide +kernel) ⟨Nat.le_of_ble_eq_true rfl, Nat.le_of_ble_eq_true rfl⟩) (by decide) 3 e12 rfl rfl hl.1 rfl (Nat.le_of_ble_eq_true rfl) dX3_readUnit_129 ⟨Nat.le_of_ble_eq_true rfl, Nat.le_of_ble_eq_true rfl⟩ (fun r f H locs hw hP hD hS => ?_)
              obtain ⟨hrs, x203, hT⟩ := hw
              obtain ⟨x204, rfl⟩ : ∃ q, q = r := ⟨_, rfl⟩
              rcases hrs with ⟨rfl, h205⟩ | ⟨rfl, h206⟩
              · exact False.elim (by omega)
              · refine lv_if_ne (tgt := 136) hx hb dX3_readUnit_132 (by decide) (fun c => absurd (by decide) c) (fun _ => ?_)
                exact tV hx hb hr hlk hP hS ⟨trivial, ⟨x203, hT⟩⟩ dX3_readUnit_135
            · have kc202 := c_nle c202
              refine lv_iload hx hb dX3_readUnit_119 (lv_at hl 0 rfl) ?_
              refine lv_if_ne (tgt := 128) hx hb dX3_readUnit_121 (by decide) (fun c => absurd (by decide) c) (fun _ => ?_)
              refine lv_iconst (v := 1) hx hb dX3_readUnit_124 (by decide) ?_
              refine lv_goto (tgt := 129) hx hb dX3_readUnit_125 (by decide) ?_
              have ttl_1 := tl_1
              refine tVI (As := [.int 1]) (rest := []) (i := 1) ⟨hx, hb, hml, hown, hts⟩ hK hE hP hD hS hA hAB (s_X3_begin_0 l B0 adK adV D cy ad fr0 tx rby rnx f hT (1 : Int32) (by omega) _) (cwV 1 hts gX3_readUnit_X3_begin rfl rfl rfl (by decide +kernel) ⟨Nat.le_of_ble_eq_true rfl, Nat.le_of_ble_eq_true rfl⟩) (by decide) 3 e12 rfl rfl hl.1 rfl (Nat.le_of_ble_eq_true rfl) dX3_readUnit_129 ⟨Nat.le_of_ble_eq_true rfl, Nat.le_of_ble_eq_true rfl⟩ (fun r f H locs hw hP hD hS => ?_)
              obtain ⟨hrs, x207, hT⟩ := hw
              obtain ⟨x208, rfl⟩ : ∃ q, q = r := ⟨_, rfl⟩
              rcases hrs with ⟨rfl, h209⟩ | ⟨rfl, h210⟩
              · refine lv_if_ne (tgt := 136) hx hb dX3_readUnit_132 (by decide) (fun _ => ?_) (fun c => absurd c (by decide))
                refine lv_aload_n hx hb dX3_readUnit_136 rfl (lv_at hl 4 rfl) ?_
                obtain ⟨x211, x212, t214, x216, x218, x219, x220, y221, e222, h213, h215, h217⟩ := (show okX3 ad rby x207 1 (f 1) from hT.1 1 (by decide))
                refine va_get (D := D) (cl := vwCl) (ci := 3) (v := .ref (ad t214)) (C := RX3) (T := TX3) (N := 13) hx hb hts in_X3_readUnit_X3 hown hK hP 1 (wl_at (by decide) e222) rfl 4 (by decide) (hts (.fieldLink RX3 22 "EightReasons$Reader" "suit" "LEightReasons$Suit;") (List.mem_of_getElem? (i := 4) rfl)) (fun _ h9 => h9) rfl dX3_readUnit_137 ?_
                obtain ⟨x223, x225, x226, x228, x229, e230, h224, h227⟩ := (ty_suit hT h215)
                refine va_get (D := D) (cl := vwCl) (ci := 5) (v := .ref (ad (t214 + 7))) (C := RX5) (T := TX5) (N := 12) hx hb hts in_X3_readUnit_X5 hown hK hP t214 (wl_at (x_lt (x_suit0 h215)) e230) rfl 11 (by decide) (hts (.fieldLink RX3 191 "EightReasons$Suit" "formula" "LEightReasons$Formula;") (List.mem_of_getElem? (i := 5) rfl)) (fun _ h9 => h9) rfl dX3_readUnit_140 ?_
                refine lv_dup hx hb dX3_readUnit_143 rfl ?_
                obtain ⟨x231, x233, x234, e236, h232, h235⟩ := (ty_suit7 hT h215)
                refine va_get (D := D) (cl := vwCl) (ci := 1) (v := .int x233) (C := RX1) (T := TX1) (N := 6) hx hb hts in_X3_readUnit_X1 hown hK hP (t214 + 7) (wl_at (x_lt (x_suit h215 (by decide))) e236) rfl 2 (by decide) (hts (.fieldLink RX3 215 "EightReasons$Formula" "units" "I") (List.mem_of_getElem? (i := 6) rfl)) (fun _ h9 => h9) rfl dX3_readUnit_144 ?_
                refine lv_iconst (v := 1) hx hb dX3_readUnit_147 (by decide) ?_
                refine lv_iadd hx hb dX3_readUnit_148 ?_
                refine lv_topi (fun x237 ex237 => ?_)
                refine va_put (D := D) (cl := vwCl) (ci := 1) (v := .int x237) (ty := tyX1 2) (C := RX1) (T := TX1) (N := 6) hx hb hts in_X3_readUnit_X1 tyX1 tyX1_ok nmX1 hown hK hP hD hS (t214 + 7) (wl_at (x_lt (x_suit h215 (by decide))) e236) rfl 2 (by decide) (hts (.fieldLink RX3 215 "EightReasons$Formula" "units" "I") (List.mem_of_getElem? (i := 6) rfl)) (fun _ h9 => h9) rfl (tyX1_ok 2 (by decide)) rfl rfl (Nat.le_of_ble_eq_true rfl) dX3_readUnit_149 (fun H locs hP hD hS => ?_)
                obtain ⟨f, hT, hP, hD, e238, hj239⟩ := stU (x_lt (x_suit h215 (by decide))) (TYx.up hT (x_suit h215 (by decide)) (ok_suit7 h215 ⟨x231, x237, x234, rfl, by omega, by omega⟩)) hP hD
                have e240 := (hj239 t214 (by omega)).trans e230
                refine lv_iload_n hx hb dX3_readUnit_152 rfl (lv_at hl 3 rfl) ?_
                refine lv_if_eq (tgt := 172) hx hb dX3_readUnit_153 (by decide) (fun c => absurd c (by decide)) (fun _ => ?_)
                refine lv_aload_n hx hb dX3_readUnit_156 rfl (lv_at hl 4 rfl) ?_
                refine lv_iload_n hx hb dX3_readUnit_157 rfl (lv_at hl 5 rfl) ?_
                refine lv_iconst (v := 1) hx hb dX3_readUnit_158 (by decide) ?_
                refine lv_iadd hx hb dX3_readUnit_159 (tpi (v := 3) (by decide) ?_)
                have ttl_3 := tl_3
                obtain ⟨x241, x242, t244, x246, x248, x249, x250, y251, e252, h243, h245, h247⟩ := (show okX3 ad rby x207 1 (f 1) from hT.1 1 (by decide))
                refine tVV (As := [.int 3]) (rest := []) (i := 1) ⟨hx, hb, hml, hown, hts⟩ hK hE hP hD hS hA hAB (s_X3_readEither_4 l B0 adK adV D cy ad fr0 tx rby x207 f hT _) (cwV 1 hts gX3_readUnit_X3_readEither rfl rfl rfl (by decide +kernel) ⟨Nat.le_of_ble_eq_true rfl, Nat.le_of_ble_eq_true rfl⟩) (by decide) 3 e252 rfl rfl hl.1 rfl (Nat.le_of_ble_eq_true rfl) dX3_readUnit_160 ⟨Nat.le_of_ble_eq_true rfl, Nat.le_of_ble_eq_true rfl⟩ (fun f H locs hw hP hD hS => ?_)
                obtain ⟨hrs, x253, hT⟩ := hw
                refine lv_aload_n hx hb dX3_readUnit_163 rfl (lv_at hl 4 rfl) ?_
                refine lv_bipush (v := 41) hx hb dX3_readUnit_164 (by decide) ?_
                have ttl_41 := tl_41
                obtain ⟨x254, x255, t257, x259, x261, x262, x263, y264, e265, h256, h258, h260⟩ := (show okX3 ad rby x253 1 (f 1) from hT.1 1 (by decide))
                refine tVV (As := [.int 41]) (rest := []) (i := 1) ⟨hx, hb, hml, hown, hts⟩ hK hE hP hD hS hA hAB (s_X3_expect_0 l B0 adK adV D cy ad fr0 tx rby x253 f hT (41 : Int32) (by omega) _) (cwV 1 hts gX3_readUnit_X3_expect rfl rfl rfl (by decide +kernel) ⟨Nat.le_of_ble_eq_true rfl, Nat.le_of_ble_eq_true rfl⟩) (by decide) 3 e265 rfl rfl hl.1 rfl (Nat.le_of_ble_eq_true rfl) dX3_readUnit_166 ⟨Nat.le_of_ble_eq_true rfl, Nat.le_of_ble_eq_true rfl⟩ (fun f H locs hw hP hD hS => ?_)
                obtain ⟨hrs, x266, hT⟩ := hw
                refine lv_goto (tgt := 184) hx hb dX3_readUnit_169 (by decide) ?_
                exact tV hx hb hr hlk hP hS ⟨trivial, ⟨x266, hT⟩⟩ dX3_readUnit_184
              · exact False.elim (by omega)
          · have kc187 := c_eq c187
            exact absurd kc187 (by omega)
